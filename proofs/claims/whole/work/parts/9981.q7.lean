/-! the reference's reader: a step, and all of a sum -/
theorem q1_1 : (1 : Int) ≤ 1 ∧ (1 : Int) ≤ 6 := by decide
theorem q1_2 : (1 : Int) ≤ 2 ∧ (2 : Int) ≤ 6 := by decide
theorem q1_3 : (1 : Int) ≤ 3 ∧ (3 : Int) ≤ 6 := by decide
theorem q1_5 : (1 : Int) ≤ 5 ∧ (5 : Int) ≤ 6 := by decide
def QB (o : Nat) (am : Nat → Nat) (u a : Nat → Int) (b : Nat → Nat → Int) (t c0 j : Nat) (w : Wo) (r : Option AV) (w' : Wo) : MS ⊕ MR → Prop
  | .inl S2 => r = some (vi 0) ∧ ∃ (v : Nat → Int) (e : Nat → Nat → Int), isM o am v a e w' ∧ rM t c0 S2 v e ∧ rF c0 u v b e
  | .inr (.inr x) => r = some (vi x.1) ∧ (1 ≤ x.1 ∧ x.1 ≤ 6) ∧ x.2 = j ∧ w' = w
  | .inr (.inl _) => False
def QH (o : Nat) (am : Nat → Nat) (u a : Nat → Int) (b : Nat → Nat → Int) (t c0 j : Nat) (P : List Int) (op : Int) (C : List (Int × Int)) (w : Wo) (r : Option AV) (w' : Wo) : MS ⊕ MR → Prop
  | .inl S2 => r = some (vi 1) ∧ ∃ (v : Nat → Int) (e : Nat → Nat → Int), isM o am v a e w' ∧ rM t c0 S2 v e ∧ rF c0 u v b e
  | .inr (.inr x) => r = some (vi 0) ∧ w' = w ∧ x = (1, j) ∧ 0 ≤ opnw P
  | .inr (.inl x) => r = some (vi 0) ∧ w' = w ∧ x = ((sTL 1 P op C).2.2, j) ∧ opnw P < 0
set_option maxHeartbeats 4000000 in
set_option maxRecDepth 100000 in
theorem kX11_beginOne (l : Launch) (G : GT) (o : Nat) (am : Nat → Nat) (u a : Nat → Int) (b : Nat → Nat → Int) (t c0 : Nat) (P : List Int) (op : Int) (C : List (Int × Int)) (j : Nat) (ly : Int) (hly : ly = 0 ∨ ly = 1) (h14 : u 14 = ly) (hR : rS t c0 P op false C j u b) (hok : okM (P, op, false, C, j)) (hj : j ≤ 301) (hc0 : c0 ≤ 2043) (hb : ∀ k : Nat, k < 300 → 0 ≤ b 3 k ∧ b 3 k < 256) (ht : t ≤ 300) : Ctr l G yX11_beginOne cX11_beginOne 2 ((Option.some Jvm.ClassFile.FieldType.int)) 8 0 0 [vr o] (fun w => isM o am u a b w) (fun w r w' => QB o am u a b t c0 j w r w' (begM (tkL (b 3) t) ly P op C j)) := by
  refine Ctr.of (t := tX11_beginOne) (lv0 := [some (vr o), none]) (by decide +kernel) tX11_beginOne_ok rfl rfl (fun w g hM M => ?_)
  obtain ⟨i12, iT, i16, iP, iv, i17, i18, i13, iC⟩ := id hR
  have hpl : P.length ≤ 62 ∧ 0 ≤ op := okM_pile hok
  have hop8 : op ≤ 8 := hok.2.1
  have hcp : C.length + P.length ≤ j := hok.2.2
  have hr := tk_r iT
  have h1 := tk_1 iT
  have hv1 := fun z => tk_1v iT z
  have h40 : u 9 = 40 ↔ (gTk (tkL (b 3) t) j).1 = 38 := tk_s (v := 38) (by decide) iT
  have h45 : u 9 = 45 ↔ (gTk (tkL (b 3) t) j).1 = 35 := tk_s (v := 35) (by decide) iT
  have hbnd := tkL_B (b := b 3) hb ht j
  have hQ : ∀ (r : Option AV) (w2 : Wo) (X : MS ⊕ MR), begM (tkL (b 3) t) ly P op C j = X → QB o am u a b t c0 j w r w2 X → QB o am u a b t c0 j w r w2 (begM (tkL (b 3) t) ly P op C j) := fun r w2 X h1 h2 => by rw [h1]; exact h2
  have A101 : ∀ nm : Int, ¬ (gTk (tkL (b 3) t) j).1 = 50 → ¬ (17 ≤ (gTk (tkL (b 3) t) j).1 ∧ (gTk (tkL (b 3) t) j).1 ≤ 23) → g 0 0 w 101 [some (vr o), some (vi nm)] [] := by
    intro nm hn50 hnn
    refine M.run 1 (pc' := 102) (lv' := [some (vr o), some (vi nm)]) (st' := [vr o]) rfl ?_
    refine M.get fl_X11_91 rfl (isM_o hM) (kf := 9) (v := vi (u 9)) rfl ?_
    refine M.run 1 (pc' := 107) (lv' := [some (vr o), some (vi nm)]) (st' := [vi 40, vi (u 9)]) rfl ?_
    refine M.icmp_ne (tgt := 117) rfl (qI (by omega)) (qI (by decide)) rfl (fun hn => ?_) (fun hz => ?_)
    rotate_left
    · have hs := h40.mp hz
      refine M.run 2 (pc' := 113) (lv' := [some (vr o), some (vi nm)]) (st' := [vi 40, vr o]) rfl ?_
      have hbeg : begM (tkL (b 3) t) ly P op C j = opnM 40 P op C j := stp_open (ly := ly) ⟨40, Or.inl ⟨hs, rfl⟩, rfl⟩
      refine M.callV (kX11_opened l G o am u a b t c0 P op false C j hR hc0 (by omega) (by omega) hb ht (by omega) (by omega) (by omega) 40 (by decide)) cv_X11_179 cd_X11_opened rfl (st := []) rfl (isM_o hM) (by decide) (by decide) rfl (Nat.zero_le _) (Nat.zero_le _) hM (fun ro1 wo1 qo1 => ?_)
      by_cases h8 : op = 8
      · obtain ⟨y1, y2⟩ := qo1.1 h8
        rw [y1, y2]
        refine M.iret rfl (Nat.zero_le _) (Nat.zero_le _) (hQ _ _ (.inr (.inr (3, j))) (hbeg.trans (by rw [h8]; exact opnM_n)) ⟨rfl, q1_3, rfl, rfl⟩)
      · obtain ⟨y1, v, e, y2, y3, y4⟩ := qo1.2 h8
        rw [y1]
        exact M.iret rfl (Nat.zero_le _) (Nat.zero_le _) (hQ _ _ _ (hbeg.trans (opnM_y h8)) ⟨rfl, v, e, y2, y3, y4⟩)
    have c38 : ¬ (gTk (tkL (b 3) t) j).1 = 38 := fun z => hn (h40.mpr z)
    refine M.run 1 (pc' := 118) (lv' := [some (vr o), some (vi nm)]) (st' := [vr o]) rfl ?_
    refine M.get fl_X11_91 rfl (isM_o hM) (kf := 9) (v := vi (u 9)) rfl ?_
    refine M.run 1 (pc' := 123) (lv' := [some (vr o), some (vi nm)]) (st' := [vi 45, vi (u 9)]) rfl ?_
    refine M.icmp_ne (tgt := 132) rfl (qI (by omega)) (qI (by decide)) rfl (fun hn2 => ?_) (fun hz => ?_)
    rotate_left
    · have hs := h45.mp hz
      refine M.run 2 (pc' := 128) (lv' := [some (vr o), some (vi nm)]) (st' := [vi 5, vr o]) rfl ?_
      have hbeg : begM (tkL (b 3) t) ly P op C j = opnM 5 P op C j := stp_open (ly := ly) ⟨5, Or.inr (Or.inl ⟨hs, rfl⟩), rfl⟩
      refine M.callV (kX11_opened l G o am u a b t c0 P op false C j hR hc0 (by omega) (by omega) hb ht (by omega) (by omega) (by omega) 5 (by decide)) cv_X11_179 cd_X11_opened rfl (st := []) rfl (isM_o hM) (by decide) (by decide) rfl (Nat.zero_le _) (Nat.zero_le _) hM (fun ro2 wo2 qo2 => ?_)
      by_cases h8 : op = 8
      · obtain ⟨y1, y2⟩ := qo2.1 h8
        rw [y1, y2]
        refine M.iret rfl (Nat.zero_le _) (Nat.zero_le _) (hQ _ _ (.inr (.inr (3, j))) (hbeg.trans (by rw [h8]; exact opnM_n)) ⟨rfl, q1_3, rfl, rfl⟩)
      · obtain ⟨y1, v, e, y2, y3, y4⟩ := qo2.2 h8
        rw [y1]
        exact M.iret rfl (Nat.zero_le _) (Nat.zero_le _) (hQ _ _ _ (hbeg.trans (opnM_y h8)) ⟨rfl, v, e, y2, y3, y4⟩)
    have c35 : ¬ (gTk (tkL (b 3) t) j).1 = 35 := fun z => hn2 (h45.mpr z)
    refine M.run 1 (pc' := 133) (lv' := [some (vr o), some (vi nm)]) (st' := [vr o]) rfl ?_
    refine M.callV (kX11_isClaimedWord l G o am u a b t j hb ht iT) cv_X11_182 cd_X11_isClaimedWord rfl (st := []) rfl (isM_o hM) (by decide) (by decide) rfl (Nat.zero_le _) (Nat.zero_le _) hM (fun rc wc qc => ?_)
    rw [qc.1, qc.2]
    refine M.if_eq (tgt := 145) rfl (qI (by have := zb_01 (decide ((gTk (tkL (b 3) t) j).1 = 8)); omega)) rfl (fun hn3 => ?_) (fun hz => ?_)
    rotate_left
    · have hs := zb_td hz
      refine M.run 2 (pc' := 141) (lv' := [some (vr o), some (vi nm)]) (st' := [vi 2, vr o]) rfl ?_
      have hbeg : begM (tkL (b 3) t) ly P op C j = opnM 2 P op C j := stp_open (ly := ly) ⟨2, Or.inr (Or.inr (Or.inl ⟨hs, rfl⟩)), rfl⟩
      refine M.callV (kX11_opened l G o am u a b t c0 P op false C j hR hc0 (by omega) (by omega) hb ht (by omega) (by omega) (by omega) 2 (by decide)) cv_X11_179 cd_X11_opened rfl (st := []) rfl (isM_o hM) (by decide) (by decide) rfl (Nat.zero_le _) (Nat.zero_le _) hM (fun ro3 wo3 qo3 => ?_)
      by_cases h8 : op = 8
      · obtain ⟨y1, y2⟩ := qo3.1 h8
        rw [y1, y2]
        refine M.iret rfl (Nat.zero_le _) (Nat.zero_le _) (hQ _ _ (.inr (.inr (3, j))) (hbeg.trans (by rw [h8]; exact opnM_n)) ⟨rfl, q1_3, rfl, rfl⟩)
      · obtain ⟨y1, v, e, y2, y3, y4⟩ := qo3.2 h8
        rw [y1]
        exact M.iret rfl (Nat.zero_le _) (Nat.zero_le _) (hQ _ _ _ (hbeg.trans (opnM_y h8)) ⟨rfl, v, e, y2, y3, y4⟩)
    have c8 := zb_fd hn3
    refine M.run 5 (pc' := 154) (lv' := [some (vr o), some (vi nm)]) (st' := [vi 101, vi 109, vi 111, vi 99, vr o]) rfl ?_
    refine M.callS (kX11_w4 l G 99 111 109 101 (by decide) (by decide) (by decide) (by decide)) cs_X11_122 cd_X11_w4 rfl (st := [vr o]) rfl (by decide) (by decide) rfl (Nat.zero_le _) (Nat.zero_le _) trivial (fun rw4 ww4 qw4 => ?_)
    rw [qw4.1, qw4.2]
    refine M.callV (kX11_isWordT l G o am u a b t j iT 9 (((((99 * 256 + 111) * 256 + 109) * 256 + 101) : Nat) : Int) (by decide) (by decide) (by decide)) cv_X11_186 cd_X11_isWord rfl (st := []) rfl (isM_o hM) (by decide) (by decide) rfl (Nat.zero_le _) (Nat.zero_le _) hM (fun rx4 wx4 qx4 => ?_)
    rw [qx4.1, qx4.2]
    refine M.if_eq (tgt := 169) rfl (qI (by have := zb_01 (decide ((gTk (tkL (b 3) t) j).1 = ((9 : Nat) : Int))); omega)) rfl (fun hn4 => ?_) (fun hz => ?_)
    rotate_left
    · have hs : (gTk (tkL (b 3) t) j).1 = 9 := zb_td hz
      refine M.run 2 (pc' := 165) (lv' := [some (vr o), some (vi nm)]) (st' := [vi 4, vr o]) rfl ?_
      have hbeg : begM (tkL (b 3) t) ly P op C j = opnM 4 P op C j := stp_open (ly := ly) ⟨4, Or.inr (Or.inr (Or.inr (Or.inl ⟨hs, rfl⟩))), rfl⟩
      refine M.callV (kX11_opened l G o am u a b t c0 P op false C j hR hc0 (by omega) (by omega) hb ht (by omega) (by omega) (by omega) 4 (by decide)) cv_X11_179 cd_X11_opened rfl (st := []) rfl (isM_o hM) (by decide) (by decide) rfl (Nat.zero_le _) (Nat.zero_le _) hM (fun ro5 wo5 qo5 => ?_)
      by_cases h8 : op = 8
      · obtain ⟨y1, y2⟩ := qo5.1 h8
        rw [y1, y2]
        refine M.iret rfl (Nat.zero_le _) (Nat.zero_le _) (hQ _ _ (.inr (.inr (3, j))) (hbeg.trans (by rw [h8]; exact opnM_n)) ⟨rfl, q1_3, rfl, rfl⟩)
      · obtain ⟨y1, v, e, y2, y3, y4⟩ := qo5.2 h8
        rw [y1]
        exact M.iret rfl (Nat.zero_le _) (Nat.zero_le _) (hQ _ _ _ (hbeg.trans (opnM_y h8)) ⟨rfl, v, e, y2, y3, y4⟩)
    have c9 : ¬ (gTk (tkL (b 3) t) j).1 = 9 := zb_fd hn4
    refine M.run 3 (pc' := 174) (lv' := [some (vr o), some (vi nm)]) (st' := [vi 102, vi 105, vr o]) rfl ?_
    refine M.callS (kX11_w2 l G 105 102 (by decide) (by decide)) cs_X11_114 cd_X11_w2 rfl (st := [vr o]) rfl (by decide) (by decide) rfl (Nat.zero_le _) (Nat.zero_le _) trivial (fun rw6 ww6 qw6 => ?_)
    rw [qw6.1, qw6.2]
    refine M.callV (kX11_isWordT l G o am u a b t j iT 10 (((105 * 256 + 102) : Nat) : Int) (by decide) (by decide) (by decide)) cv_X11_186 cd_X11_isWord rfl (st := []) rfl (isM_o hM) (by decide) (by decide) rfl (Nat.zero_le _) (Nat.zero_le _) hM (fun rx6 wx6 qx6 => ?_)
    rw [qx6.1, qx6.2]
    refine M.if_eq (tgt := 190) rfl (qI (by have := zb_01 (decide ((gTk (tkL (b 3) t) j).1 = ((10 : Nat) : Int))); omega)) rfl (fun hn5 => ?_) (fun hz => ?_)
    rotate_left
    · have hs : (gTk (tkL (b 3) t) j).1 = 10 := zb_td hz
      refine M.run 2 (pc' := 186) (lv' := [some (vr o), some (vi nm)]) (st' := [vi 41, vr o]) rfl ?_
      have hbeg : begM (tkL (b 3) t) ly P op C j = opnM 41 P op C j := stp_open (ly := ly) ⟨41, Or.inr (Or.inr (Or.inr (Or.inr (Or.inl ⟨hs, rfl⟩)))), rfl⟩
      refine M.callV (kX11_opened l G o am u a b t c0 P op false C j hR hc0 (by omega) (by omega) hb ht (by omega) (by omega) (by omega) 41 (by decide)) cv_X11_179 cd_X11_opened rfl (st := []) rfl (isM_o hM) (by decide) (by decide) rfl (Nat.zero_le _) (Nat.zero_le _) hM (fun ro7 wo7 qo7 => ?_)
      by_cases h8 : op = 8
      · obtain ⟨y1, y2⟩ := qo7.1 h8
        rw [y1, y2]
        refine M.iret rfl (Nat.zero_le _) (Nat.zero_le _) (hQ _ _ (.inr (.inr (3, j))) (hbeg.trans (by rw [h8]; exact opnM_n)) ⟨rfl, q1_3, rfl, rfl⟩)
      · obtain ⟨y1, v, e, y2, y3, y4⟩ := qo7.2 h8
        rw [y1]
        exact M.iret rfl (Nat.zero_le _) (Nat.zero_le _) (hQ _ _ _ (hbeg.trans (opnM_y h8)) ⟨rfl, v, e, y2, y3, y4⟩)
    have c10 : ¬ (gTk (tkL (b 3) t) j).1 = 10 := zb_fd hn5
    refine M.run 4 (pc' := 197) (lv' := [some (vr o), some (vi nm)]) (st' := [vi 116, vi 111, vi 110, vr o]) rfl ?_
    refine M.callS (kX11_w3 l G 110 111 116 (by decide) (by decide) (by decide)) cs_X11_118 cd_X11_w3 rfl (st := [vr o]) rfl (by decide) (by decide) rfl (Nat.zero_le _) (Nat.zero_le _) trivial (fun rw8 ww8 qw8 => ?_)
    rw [qw8.1, qw8.2]
    refine M.callV (kX11_isWordT l G o am u a b t j iT 16 ((((110 * 256 + 111) * 256 + 116) : Nat) : Int) (by decide) (by decide) (by decide)) cv_X11_186 cd_X11_isWord rfl (st := []) rfl (isM_o hM) (by decide) (by decide) rfl (Nat.zero_le _) (Nat.zero_le _) hM (fun rx8 wx8 qx8 => ?_)
    rw [qx8.1, qx8.2]
    refine M.if_eq (tgt := 222) rfl (qI (by have := zb_01 (decide ((gTk (tkL (b 3) t) j).1 = ((16 : Nat) : Int))); omega)) rfl (fun hn6 => ?_) (fun hz => ?_)
    · have y : ¬ (gTk (tkL (b 3) t) j).1 = 16 := zb_fd hn6
      refine M.run 1 (pc' := 223) (lv' := [some (vr o), some (vi nm)]) (st' := [vi 1]) rfl ?_
      exact M.iret rfl (Nat.zero_le _) (Nat.zero_le _) (hQ _ _ (.inr (.inr (1, j))) (by unfold begM; rw [if_neg (by omega), if_neg (by omega), if_neg (by omega), if_neg (by omega), if_neg (by omega), if_neg (by omega), if_neg (by omega), if_neg (by omega), if_neg (fun z => y z.1)]) ⟨rfl, q1_1, rfl, rfl⟩)
    · have hs : (gTk (tkL (b 3) t) j).1 = 16 := zb_td hz
      refine M.run 1 (pc' := 207) (lv' := [some (vr o), some (vi nm)]) (st' := [vr o]) rfl ?_
      refine M.callV (kX11_isAskAhead l G o am u a b P i16 iP (by omega) iv) cv_X11_190 cd_X11_isAskAhead rfl (st := []) rfl (isM_o hM) (by decide) (by decide) rfl (Nat.zero_le _) (Nat.zero_le _) hM (fun rd wd qd => ?_)
      rw [qd.1, qd.2]
      refine M.if_eq (tgt := 222) rfl (qI (by have := zb_01 (askA P); omega)) rfl (fun ha => ?_) (fun ha => ?_)
      · have y := zb_f0 ha
        refine M.run 1 (pc' := 223) (lv' := [some (vr o), some (vi nm)]) (st' := [vi 1]) rfl ?_
        exact M.iret rfl (Nat.zero_le _) (Nat.zero_le _) (hQ _ _ (.inr (.inr (1, j))) (by unfold begM; rw [if_neg (by omega), if_neg (by omega), if_neg (by omega), if_neg (by omega), if_neg (by omega), if_neg (by omega), if_neg (by omega), if_neg (by omega), if_neg (fun z => by rw [y] at z; exact absurd z.2 (by decide))]) ⟨rfl, q1_1, rfl, rfl⟩)
      · have y := zb_t ha
        refine M.run 2 (pc' := 216) (lv' := [some (vr o), some (vi nm)]) (st' := [vi 20, vr o]) rfl ?_
        have hbeg : begM (tkL (b 3) t) ly P op C j = opnM 20 P op C j := stp_open (ly := ly) ⟨20, Or.inr (Or.inr (Or.inr (Or.inr (Or.inr ⟨⟨hs, y⟩, rfl⟩)))), rfl⟩
        refine M.callV (kX11_opened l G o am u a b t c0 P op false C j hR hc0 (by omega) (by omega) hb ht (by omega) (by omega) (by omega) 20 (by decide)) cv_X11_179 cd_X11_opened rfl (st := []) rfl (isM_o hM) (by decide) (by decide) rfl (Nat.zero_le _) (Nat.zero_le _) hM (fun ro9 wo9 qo9 => ?_)
        by_cases h8 : op = 8
        · obtain ⟨y1, y2⟩ := qo9.1 h8
          rw [y1, y2]
          refine M.run 1 (pc' := 223) (lv' := [some (vr o), some (vi nm)]) (st' := [vi 3]) rfl ?_
          refine M.iret rfl (Nat.zero_le _) (Nat.zero_le _) (hQ _ _ (.inr (.inr (3, j))) (hbeg.trans (by rw [h8]; exact opnM_n)) ⟨rfl, q1_3, rfl, rfl⟩)
        · obtain ⟨y1, v, e, y2, y3, y4⟩ := qo9.2 h8
          rw [y1]
          refine M.run 1 (pc' := 223) (lv' := [some (vr o), some (vi nm)]) (st' := [vi 0]) rfl ?_
          exact M.iret rfl (Nat.zero_le _) (Nat.zero_le _) (hQ _ _ _ (hbeg.trans (opnM_y h8)) ⟨rfl, v, e, y2, y3, y4⟩)
  have A51 : ∀ nm : Int, ((17 ≤ (gTk (tkL (b 3) t) j).1 ∧ (gTk (tkL (b 3) t) j).1 ≤ 23) → nm = (gTk (tkL (b 3) t) j).1 - 17) → ((gTk (tkL (b 3) t) j).1 = 50 ∨ (17 ≤ (gTk (tkL (b 3) t) j).1 ∧ (gTk (tkL (b 3) t) j).1 ≤ 23)) → ¬ ((gTk (tkL (b 3) t) j).1 = 50 ∧ 9999 < (gTk (tkL (b 3) t) j).2.1) → ¬ ((17 ≤ (gTk (tkL (b 3) t) j).1 ∧ (gTk (tkL (b 3) t) j).1 ≤ 23) ∧ (gTk (tkL (b 3) t) j).1 = (if ly = 0 then 23 else 22)) → g 0 0 w 51 [some (vr o), some (vi nm)] [] := by
    intro nm hnm hor hbig hstr
    have hbeg : begM (tkL (b 3) t) ly P op C j = .inl (mkS (sTL 7 P op (C ++ [toR ((gTk (tkL (b 3) t) j).1, (gTk (tkL (b 3) t) j).2.1)])) true (j + 1)) := by unfold begM; rw [if_neg hbig, if_neg hstr, if_pos hor]
    have A81 : ∀ x v : Int, toR ((gTk (tkL (b 3) t) j).1, (gTk (tkL (b 3) t) j).2.1) = (x, v) → g 0 0 w 81 [some (vr o), some (vi nm)] [vi v, vi x, vr o] := by
      intro x v hto
      rw [hto] at hbeg
      refine M.callV (kX11_emit l G o am u a b c0 C.length i12 i13 (by omega) x v) cv_X11_149 cd_X11_emit rfl (st := []) rfl (isM_o hM) (by decide) (by decide) rfl (Nat.zero_le _) (Nat.zero_le _) hM (fun re we qe => ?_)
      obtain ⟨qe1, e, hM2, he3, he4⟩ := qe
      rw [qe1]
      have e3 : e 3 = b 3 := he4 3 (by decide)
      refine M.run 1 (pc' := 85) (lv' := [some (vr o), some (vi nm)]) (st' := [vr o]) rfl ?_
      have hTe : isTk (e 3) t j (uN u 13 ((C.length + 1 : Nat) : Int)) := by rw [e3]; exact isTk_u iT (fun k hk => uN_o (by omega))
      refine M.callV (kX11_nextT l G o am (uN u 13 ((C.length + 1 : Nat) : Int)) a e t j (by rw [e3]; exact hb) ht hTe (by rw [e3]; omega)) cv_X11_163 cd_X11_nextToken rfl (st := []) rfl (isM_o hM2) (by decide) (by decide) rfl (Nat.zero_le _) (Nat.zero_le _) hM2 (fun r1 w1 q1 => ?_)
      obtain ⟨q2, v2, hM3, hT2, hk⟩ := q1
      rw [q2]
      refine M.run 2 (pc' := 90) (lv' := [some (vr o), some (vi nm)]) (st' := [vi 1, vr o]) rfl ?_
      refine M.put fl_X11_172 rfl (isM_o hM3) rfl rfl (Nat.le_of_ble_eq_true rfl) ?_
      have hMp10 := isM_setU (u' := uN v2 18 1) (fs := (Mf am v2).set 18 (vi 1)) hM3 rfl
      generalize up w1 o (Ob 10 ((Mf am v2).set 18 (vi 1))) = wp10 at hMp10 ⊢
      refine M.run 2 (pc' := 96) (lv' := [some (vr o), some (vi nm)]) (st' := [vi 7, vr o]) rfl ?_
      have hlen : (C ++ [(x, v)]).length = C.length + 1 := by rw [List.length_append]; rfl
      have hF1 : rF c0 u (uN v2 18 1) b e := rF_u (k := 18) (rF_k (rF_tr (rF_u (k := 13) rF_rf (by decide)) ⟨fun _ _ _ _ => rfl, fun k h1 _ => he4 k h1, fun i hi => by rw [he3]; exact (uN_o (by omega)).trans (uN_o (by omega))⟩) hk) (by decide)
      have hR2 : rS t c0 P op true (C ++ [(x, v)]) (j + 1) (uN v2 18 1) e := ⟨(hk 12 (by decide)).trans i12, isTk_u hT2 (fun k hk => uN_o (by omega)), (hk 16 (by decide)).trans i16, by rw [he4 15 (by decide)]; exact iP, iv, (hk 17 (by decide)).trans i17, rfl, (hk 13 (by decide)).trans (by rw [hlen]; rfl), by rw [he3]; exact rCl_a iC⟩
      refine M.callV (kX11_settle l G o am (uN v2 18 1) a e t c0 P op true (C ++ [(x, v)]) (j + 1) hR2 hc0 (by rw [hlen]; omega) (by omega) 7 (by decide)) cv_X11_176 cd_X11_settle rfl (st := []) rfl (isM_o hMp10) (by decide) (by decide) rfl (Nat.zero_le _) (Nat.zero_le _) hMp10 (fun r3 w3 q3 => ?_)
      obtain ⟨y1, v4, e4, y2, y3, y4⟩ := q3
      rw [y1]
      refine M.run 1 (pc' := 100) (lv' := [some (vr o), some (vi nm)]) (st' := [vi 0]) rfl ?_
      exact M.iret rfl (Nat.zero_le _) (Nat.zero_le _) (hQ _ _ _ hbeg ⟨rfl, v4, e4, y2, y3, rF_tr hF1 y4⟩)
    refine M.run 2 (pc' := 53) (lv' := [some (vr o), some (vi nm)]) (st' := [vr o, vr o]) rfl ?_
    refine M.get fl_X11_91 rfl (isM_o hM) (kf := 9) (v := vi (u 9)) rfl ?_
    refine M.run 1 (pc' := 57) (lv' := [some (vr o), some (vi nm)]) (st' := [vi 1, vi (u 9), vr o]) rfl ?_
    by_cases c50 : (gTk (tkL (b 3) t) j).1 = 50
    · have e9 := h1.mpr c50
      refine M.icmp_ne (tgt := 64) rfl (qI (by omega)) (qI (by decide)) rfl (fun z => absurd e9 z) (fun _ => ?_)
      refine M.run 3 (pc' := 66) (lv' := [some (vr o), some (vi nm)]) (st' := [vr o, vi 0, vr o]) rfl ?_
      refine M.get fl_X11_91 rfl (isM_o hM) (kf := 9) (v := vi (u 9)) rfl ?_
      refine M.run 1 (pc' := 70) (lv' := [some (vr o), some (vi nm)]) (st' := [vi 1, vi (u 9), vi 0, vr o]) rfl ?_
      refine M.icmp_ne (tgt := 80) rfl (qI (by omega)) (qI (by decide)) rfl (fun z => absurd e9 z) (fun _ => ?_)
      refine M.run 1 (pc' := 74) (lv' := [some (vr o), some (vi nm)]) (st' := [vr o, vi 0, vr o]) rfl ?_
      refine M.get fl_X11_98 rfl (isM_o hM) (kf := 10) (v := vi (u 10)) rfl ?_
      refine M.run 1 (pc' := 81) (lv' := [some (vr o), some (vi nm)]) (st' := [vi (u 10), vi 0, vr o]) rfl ?_
      have hvv := hv1 c50
      exact A81 0 (u 10) (by unfold toR; rw [if_pos (show (gTk (tkL (b 3) t) j).1 = 50 from c50)]; show ((0 : Int), (gTk (tkL (b 3) t) j).2.1) = (0, u 10); rw [show (gTk (tkL (b 3) t) j).2.1 = u 10 by omega])
    · have e9 : ¬ u 9 = 1 := fun z => c50 (h1.mp z)
      have hnn := hor.resolve_left c50
      refine M.icmp_ne (tgt := 64) rfl (qI (by omega)) (qI (by decide)) rfl (fun _ => ?_) (fun z => absurd z e9)
      refine M.run 2 (pc' := 66) (lv' := [some (vr o), some (vi nm)]) (st' := [vr o, vi 1, vr o]) rfl ?_
      refine M.get fl_X11_91 rfl (isM_o hM) (kf := 9) (v := vi (u 9)) rfl ?_
      refine M.run 1 (pc' := 70) (lv' := [some (vr o), some (vi nm)]) (st' := [vi 1, vi (u 9), vi 1, vr o]) rfl ?_
      refine M.icmp_ne (tgt := 80) rfl (qI (by omega)) (qI (by decide)) rfl (fun _ => ?_) (fun z => absurd z e9)
      refine M.run 1 (pc' := 81) (lv' := [some (vr o), some (vi nm)]) (st' := [vi nm, vi 1, vr o]) rfl ?_
      exact A81 1 nm (by unfold toR; rw [if_neg (show ¬ (gTk (tkL (b 3) t) j).1 = 50 from c50), if_pos (show (17 ≤ (gTk (tkL (b 3) t) j).1 ∧ (gTk (tkL (b 3) t) j).1 ≤ 23) from hnn), hnm hnn])
  have A39 : ∀ nm : Int, nm = (if (17 ≤ (gTk (tkL (b 3) t) j).1 ∧ (gTk (tkL (b 3) t) j).1 ≤ 23) then (gTk (tkL (b 3) t) j).1 - 17 else -1) → ¬ ((gTk (tkL (b 3) t) j).1 = 50 ∧ 9999 < (gTk (tkL (b 3) t) j).2.1) → ¬ ((17 ≤ (gTk (tkL (b 3) t) j).1 ∧ (gTk (tkL (b 3) t) j).1 ≤ 23) ∧ (gTk (tkL (b 3) t) j).1 = (if ly = 0 then 23 else 22)) → g 0 0 w 39 [some (vr o), some (vi nm)] [] := by
    intro nm hnm hbig hstr
    refine M.run 1 (pc' := 40) (lv' := [some (vr o), some (vi nm)]) (st' := [vr o]) rfl ?_
    refine M.get fl_X11_91 rfl (isM_o hM) (kf := 9) (v := vi (u 9)) rfl ?_
    refine M.run 1 (pc' := 44) (lv' := [some (vr o), some (vi nm)]) (st' := [vi 1, vi (u 9)]) rfl ?_
    have hnm2 : (17 ≤ (gTk (tkL (b 3) t) j).1 ∧ (gTk (tkL (b 3) t) j).1 ≤ 23) → nm = (gTk (tkL (b 3) t) j).1 - 17 := fun z => by rw [hnm, if_pos z]
    have hnm3 : ¬ (17 ≤ (gTk (tkL (b 3) t) j).1 ∧ (gTk (tkL (b 3) t) j).1 ≤ 23) → nm = -1 := fun z => by rw [hnm, if_neg z]
    refine M.icmp_eq (tgt := 51) rfl (qI (by omega)) (qI (by decide)) rfl (fun z => A51 nm hnm2 (Or.inl (h1.mp z)) hbig hstr) (fun hn => ?_)
    refine M.run 1 (pc' := 48) (lv' := [some (vr o), some (vi nm)]) (st' := [vi nm]) rfl ?_
    have hnr : -1 ≤ nm ∧ nm ≤ 6 := by rw [hnm]; split <;> omega
    refine M.if_lt (tgt := 101) rfl (qI (by omega)) rfl (fun z => A101 nm (fun y => hn (h1.mpr y)) (fun y => by have := hnm2 y; omega)) (fun z => ?_)
    refine A51 nm hnm2 (Or.inr ?_) hbig hstr
    by_cases y : (17 ≤ (gTk (tkL (b 3) t) j).1 ∧ (gTk (tkL (b 3) t) j).1 ≤ 23)
    · exact y
    · exact absurd (hnm3 y) (by omega)
  have A20 : ¬ ((gTk (tkL (b 3) t) j).1 = 50 ∧ 9999 < (gTk (tkL (b 3) t) j).2.1) → g 0 0 w 20 [some (vr o), none] [] := by
    intro hbig
    refine M.run 1 (pc' := 21) (lv' := [some (vr o), none]) (st' := [vr o]) rfl ?_
    refine M.callV (kX11_nameOf l G o am u a b t j iT) cv_X11_166 cd_X11_nameOf rfl (st := []) rfl (isM_o hM) (by decide) (by decide) rfl (Nat.zero_le _) (Nat.zero_le _) hM (fun rn wn qn => ?_)
    rw [qn.1, qn.2]
    generalize hnm : (if (17 ≤ (gTk (tkL (b 3) t) j).1 ∧ (gTk (tkL (b 3) t) j).1 ≤ 23) then (gTk (tkL (b 3) t) j).1 - 17 else -1 : Int) = nm
    have hnr : ((17 ≤ (gTk (tkL (b 3) t) j).1 ∧ (gTk (tkL (b 3) t) j).1 ≤ 23) → nm = (gTk (tkL (b 3) t) j).1 - 17) ∧ (¬ (17 ≤ (gTk (tkL (b 3) t) j).1 ∧ (gTk (tkL (b 3) t) j).1 ≤ 23) → nm = -1) := ⟨fun z => by rw [← hnm, if_pos z], fun z => by rw [← hnm, if_neg z]⟩
    refine M.run 2 (pc' := 26) (lv' := [some (vr o), some (vi nm)]) (st' := [vi nm]) rfl ?_
    refine M.if_lt (tgt := 39) rfl (qI (by omega)) rfl (fun z => A39 nm hnm.symm hbig (fun y => by have := hnr.1 y.1; omega)) (fun z => ?_)
    have hnn : (17 ≤ (gTk (tkL (b 3) t) j).1 ∧ (gTk (tkL (b 3) t) j).1 ≤ 23) := by
      by_cases y : (17 ≤ (gTk (tkL (b 3) t) j).1 ∧ (gTk (tkL (b 3) t) j).1 ≤ 23)
      · exact y
      · exact absurd (hnr.2 y) (by omega)
    have hnv := hnr.1 hnn
    refine M.run 2 (pc' := 31) (lv' := [some (vr o), some (vi nm)]) (st' := [vi nm, vr o]) rfl ?_
    refine M.callV (kX11_isOf l G o am u a b ly h14 hly nm (by omega)) cv_X11_169 cd_X11_isOf rfl (st := []) rfl (isM_o hM) (by decide) (by decide) rfl (Nat.zero_le _) (Nat.zero_le _) hM (fun rp wp qp => ?_)
    rw [qp.1, qp.2]
    refine M.if_ne (tgt := 39) rfl (qI (by have := zb_01 (decide (¬ nm + 17 = if ly = 0 then 23 else 22)); omega)) rfl (fun y => ?_) (fun y => ?_)
    · have y2 := zb_td y
      exact A39 nm hnm.symm hbig (fun x => y2 (by rw [hnv]; rw [show (gTk (tkL (b 3) t) j).1 - 17 + 17 = (gTk (tkL (b 3) t) j).1 by omega]; exact x.2))
    · have y2 := zb_fd y
      have y3 : nm + 17 = if ly = 0 then 23 else 22 := Decidable.of_not_not y2
      refine M.run 1 (pc' := 38) (lv' := [some (vr o), some (vi nm)]) (st' := [vi 5]) rfl ?_
      refine M.iret rfl (Nat.zero_le _) (Nat.zero_le _) (hQ _ _ (.inr (.inr (5, j))) (by unfold begM; rw [if_neg hbig, if_pos ⟨hnn, by rw [← y3]; omega⟩]) ⟨rfl, q1_5, rfl, rfl⟩)
  refine M.run 1 (pc' := 1) (lv' := [some (vr o), none]) (st' := [vr o]) rfl ?_
  refine M.get fl_X11_91 rfl (isM_o hM) (kf := 9) (v := vi (u 9)) rfl ?_
  refine M.run 1 (pc' := 5) (lv' := [some (vr o), none]) (st' := [vi 1, vi (u 9)]) rfl ?_
  refine M.icmp_ne (tgt := 20) rfl (qI (by omega)) (qI (by decide)) rfl (fun z => A20 (fun y => z (h1.mpr y.1))) (fun z => ?_)
  have c50 := h1.mp z
  have hvv := hv1 c50
  refine M.run 1 (pc' := 9) (lv' := [some (vr o), none]) (st' := [vr o]) rfl ?_
  refine M.get fl_X11_98 rfl (isM_o hM) (kf := 10) (v := vi (u 10)) rfl ?_
  refine M.run 1 (pc' := 15) (lv' := [some (vr o), none]) (st' := [vi 9999, vi (u 10)]) rfl ?_
  refine M.icmp_le (tgt := 20) rfl (qI (by omega)) (qI (by decide)) rfl (fun y => A20 (fun x => by omega)) (fun y => ?_)
  refine M.run 1 (pc' := 19) (lv' := [some (vr o), none]) (st' := [vi 2]) rfl ?_
  exact M.iret rfl (Nat.zero_le _) (Nat.zero_le _) (hQ _ _ (.inr (.inr (2, j))) (by unfold begM; rw [if_pos ⟨c50, by omega⟩]) ⟨rfl, q1_2, rfl, rfl⟩)
