/-! the reference's reader at the level of tokens -/
theorem tk_r {b : Nat → Int} {t j : Nat} {u : Nat → Int} (h : isTk b t j u) : (0 ≤ u 9 ∧ u 9 ≤ 300) ∧ (u 9 = 2 → 0 ≤ u 11 ∧ u 11 ≤ 1152921504606846976) := by
  rcases tk_k h with ⟨a, c⟩ | ⟨a, s, s1, s2, c, d, e, _⟩ | ⟨a, c, _⟩ | ⟨a, c⟩ | ⟨a, c⟩
  · exact ⟨by omega, fun z => absurd z (by omega)⟩
  · exact ⟨by omega, fun _ => by rw [e]; exact pkW_b _ d⟩
  · exact ⟨by omega, fun z => absurd z (by omega)⟩
  · exact ⟨by omega, fun z => absurd z (by omega)⟩
  · have q := sgC_b _ a
    exact ⟨by omega, fun z => by
      have q3 := sgC_b _ a
      omega⟩
theorem isTk_u {b : Nat → Int} {t j : Nat} {u v : Nat → Int} (h : isTk b t j u) (e : ∀ k : Nat, k = 4 ∨ (7 ≤ k ∧ k ≤ 11) → v k = u k) : isTk b t j v := by
  obtain ⟨s, h1, h2⟩ := h
  refine ⟨s, h1, ?_⟩
  unfold tkI at h2 ⊢
  rw [e 4 (Or.inl rfl), e 7 (by omega), e 8 (by omega), e 9 (by omega), e 10 (by omega), e 11 (by omega)]
  exact h2
theorem kX11_nextT (l : Launch) (G : GT) (o : Nat) (am : Nat → Nat) (u a : Nat → Int) (b : Nat → Nat → Int) (t j : Nat) (hb : ∀ k : Nat, k < 300 → 0 ≤ b 3 k ∧ b 3 k < 256) (ht : t ≤ 300) (hT : isTk (b 3) t j u) (h51 : ¬ (gTk (tkL (b 3) t) j).1 = 51) : Ctr l G yX11_nextToken cX11_nextToken 2 (none : Option FieldType) 2 0 0 [vr o] (fun w => isM o am u a b w) (fun w r w' => r = none ∧ ∃ v : Nat → Int, isM o am v a b w' ∧ isTk (b 3) t (j + 1) v ∧ ∀ k : Nat, ¬ (7 ≤ k ∧ k ≤ 11) → v k = u k) := by
  obtain ⟨s, h1, h2⟩ := isTk_g hT
  rcases h2 with ⟨e, h2⟩ | ⟨e, h2, h3⟩
  · rw [h2] at h51
    exact absurd rfl h51
  · obtain ⟨i1, i2, i3, i4, i5⟩ := h1
    have hE := tkE_b (b := b 3) e
    refine Ctr.mono (kX11_nextToken l G o am u a b t (tkE (b 3) t s) hb i1 ht (i5 e).2.1 hE.2) (fun w h => h) (fun w r w' _ q => ?_)
    obtain ⟨q1, v, q2, q3, q4⟩ := q
    exact ⟨q1, v, q2, ⟨nS (b 3) t (tkE (b 3) t s), h3.trans (tkS_n hE.2), q3⟩, q4⟩
theorem kX11_nextT0 (l : Launch) (G : GT) (o : Nat) (am : Nat → Nat) (u a : Nat → Int) (b : Nat → Nat → Int) (t : Nat) (hb : ∀ k : Nat, k < 300 → 0 ≤ b 3 k ∧ b 3 k < 256) (h4 : u 4 = ((t : Nat) : Int)) (ht : t ≤ 300) (h7 : u 7 = 0) : Ctr l G yX11_nextToken cX11_nextToken 2 (none : Option FieldType) 2 0 0 [vr o] (fun w => isM o am u a b w) (fun w r w' => r = none ∧ ∃ v : Nat → Int, isM o am v a b w' ∧ isTk (b 3) t 0 v ∧ ∀ k : Nat, ¬ (7 ≤ k ∧ k ≤ 11) → v k = u k) := by
  refine Ctr.mono (kX11_nextToken l G o am u a b t 0 hb h4 ht h7 (Nat.zero_le t)) (fun w h => h) (fun w r w' _ q => ?_)
  obtain ⟨q1, v, q2, q3, q4⟩ := q
  exact ⟨q1, v, q2, ⟨nS (b 3) t 0, (show (tkL (b 3) t).drop 0 = tkS (b 3) t 0 from rfl).trans (tkS_n (Nat.zero_le t)), q3⟩, q4⟩
theorem kX11_isWordT (l : Launch) (G : GT) (o : Nat) (am : Nat → Nat) (u a : Nat → Int) (b : Nat → Nat → Int) (t j : Nat) (hT : isTk (b 3) t j u) (v : Nat) (W : Int) (hv : v < 24) (hW : Wl[v]? = some W) (h7 : 0 ≤ W ∧ W < 281474976710656) : Ctr l G yX11_isWord cX11_isWord 3 (Option.some Jvm.ClassFile.FieldType.boolean) 1 0 0 [vr o, vl W] (fun w => isM o am u a b w) (fun w r w' => r = some (vi (zb (decide ((gTk (tkL (b 3) t) j).1 = ((v : Nat) : Int))))) ∧ w' = w) := by
  have h := tk_r hT
  refine Ctr.mono (kX11_isWord l G o am u a b W (by omega) h.1 h.2) (fun w h => h) (fun w r w' _ q => ⟨?_, q.2⟩)
  rw [q.1, decide_eq_decide.mpr (tk_w hv hW h7.2 hT)]
set_option maxHeartbeats 4000000 in
set_option maxRecDepth 100000 in
theorem kX11_nameOf (l : Launch) (G : GT) (o : Nat) (am : Nat → Nat) (u a : Nat → Int) (b : Nat → Nat → Int) (t j : Nat) (hT : isTk (b 3) t j u) : Ctr l G yX11_nameOf cX11_nameOf 1 ((Option.some Jvm.ClassFile.FieldType.int)) 7 0 0 [vr o] (fun w => isM o am u a b w) (fun w r w' => r = some (vi (if 17 ≤ (gTk (tkL (b 3) t) j).1 ∧ (gTk (tkL (b 3) t) j).1 ≤ 23 then (gTk (tkL (b 3) t) j).1 - 17 else -1)) ∧ w' = w) := by
  refine Ctr.of (t := tX11_nameOf) (lv0 := [some (vr o)]) (by decide +kernel) tX11_nameOf_ok rfl rfl (fun w g hM M => ?_)
  have hr := tk_r hT
  have hw0 : (u 9 = 2 ∧ u 11 = ((((((99 * 256 + 108) * 256 + 111) * 256 + 99) * 256 + 107) : Nat) : Int)) ↔ (gTk (tkL (b 3) t) j).1 = 17 := tk_w (v := 17) (by decide) (by decide) (by decide) hT
  have hw1 : (u 9 = 2 ∧ u 11 = ((((115 * 256 + 117) * 256 + 110) : Nat) : Int)) ↔ (gTk (tkL (b 3) t) j).1 = 18 := tk_w (v := 18) (by decide) (by decide) (by decide) hT
  have hw2 : (u 9 = 2 ∧ u 11 = (((((107 * 256 + 105) * 256 + 110) * 256 + 100) : Nat) : Int)) ↔ (gTk (tkL (b 3) t) j).1 = 19 := tk_w (v := 19) (by decide) (by decide) (by decide) hT
  have hw3 : (u 9 = 2 ∧ u 11 = (((((((110 * 256 + 117) * 256 + 109) * 256 + 98) * 256 + 101) * 256 + 114) : Nat) : Int)) ↔ (gTk (tkL (b 3) t) j).1 = 20 := tk_w (v := 20) (by decide) (by decide) (by decide) hT
  have hw4 : (u 9 = 2 ∧ u 11 = ((((((100 * 256 + 101) * 256 + 108) * 256 + 97) * 256 + 121) : Nat) : Int)) ↔ (gTk (tkL (b 3) t) j).1 = 21 := tk_w (v := 21) (by decide) (by decide) (by decide) hT
  have hw5 : (u 9 = 2 ∧ u 11 = ((((((98 * 256 + 121) * 256 + 116) * 256 + 101) * 256 + 115) : Nat) : Int)) ↔ (gTk (tkL (b 3) t) j).1 = 22 := tk_w (v := 22) (by decide) (by decide) (by decide) hT
  have hw6 : (u 9 = 2 ∧ u 11 = ((((((116 * 256 + 114) * 256 + 105) * 256 + 101) * 256 + 100) : Nat) : Int)) ↔ (gTk (tkL (b 3) t) j).1 = 23 := tk_w (v := 23) (by decide) (by decide) (by decide) hT
  generalize hs : (gTk (tkL (b 3) t) j).1 = s at *
  refine M.run 1 (pc' := 1) (lv' := [some (vr o)]) (st' := [vr o]) rfl ?_
  refine M.get fl_X11_91 rfl (isM_o hM) (kf := 9) (v := vi (u 9)) rfl ?_
  refine M.run 1 (pc' := 5) (lv' := [some (vr o)]) (st' := [vi 2, vi (u 9)]) rfl ?_
  refine M.icmp_eq (tgt := 10) rfl (qI (by omega)) (qI (by decide)) rfl (fun h9 => ?_) (fun h9 => ?_)
  · have h11 := hr.2 h9
    refine M.run 1 (pc' := 11) (lv' := [some (vr o)]) (st' := [vr o]) rfl ?_
    refine M.get fl_X11_105 rfl (isM_o hM) (kf := 11) (v := vl (u 11)) rfl ?_
    refine M.run 5 (pc' := 24) (lv' := [some (vr o)]) (st' := [vi 107, vi 99, vi 111, vi 108, vi 99, vl (u 11)]) rfl ?_
    refine M.callS (kX11_w5 l G 99 108 111 99 107 (by decide) (by decide) (by decide) (by decide) (by decide)) cs_X11_126 cd_X11_w5 rfl (st := [vl (u 11)]) rfl (by decide) (by decide) rfl (Nat.zero_le _) (Nat.zero_le _) trivial (fun rw0 ww0 qw0 => ?_)
    rw [qw0.1, qw0.2]
    refine M.lcmp rfl (qL (by omega)) (qL (by decide)) ?_
    refine M.if_ne (tgt := 33) rfl (qI (by split; decide; split <;> decide)) rfl (fun hn0 => ?_) (fun hz => ?_)
    rotate_left
    · have e11 : u 11 = ((((((99 * 256 + 108) * 256 + 111) * 256 + 99) * 256 + 107) : Nat) : Int) := by
        split at hz
        · exact absurd hz (by decide)
        · split at hz
          · assumption
          · exact absurd hz (by decide)
      have e17 := hw0.mp ⟨h9, e11⟩
      refine M.run 1 (pc' := 32) (lv' := [some (vr o)]) (st' := [vi 0]) rfl ?_
      exact M.iret rfl (Nat.zero_le _) (Nat.zero_le _) ⟨reI (by rw [if_pos (by omega), e17]; rfl), rfl⟩
    have hx0 : ¬ u 11 = ((((((99 * 256 + 108) * 256 + 111) * 256 + 99) * 256 + 107) : Nat) : Int) := fun z => hn0 (by rw [if_neg (by omega), if_pos z])
    refine M.run 1 (pc' := 34) (lv' := [some (vr o)]) (st' := [vr o]) rfl ?_
    refine M.get fl_X11_105 rfl (isM_o hM) (kf := 11) (v := vl (u 11)) rfl ?_
    refine M.run 3 (pc' := 43) (lv' := [some (vr o)]) (st' := [vi 110, vi 117, vi 115, vl (u 11)]) rfl ?_
    refine M.callS (kX11_w3 l G 115 117 110 (by decide) (by decide) (by decide)) cs_X11_118 cd_X11_w3 rfl (st := [vl (u 11)]) rfl (by decide) (by decide) rfl (Nat.zero_le _) (Nat.zero_le _) trivial (fun rw1 ww1 qw1 => ?_)
    rw [qw1.1, qw1.2]
    refine M.lcmp rfl (qL (by omega)) (qL (by decide)) ?_
    refine M.if_ne (tgt := 52) rfl (qI (by split; decide; split <;> decide)) rfl (fun hn1 => ?_) (fun hz => ?_)
    rotate_left
    · have e11 : u 11 = ((((115 * 256 + 117) * 256 + 110) : Nat) : Int) := by
        split at hz
        · exact absurd hz (by decide)
        · split at hz
          · assumption
          · exact absurd hz (by decide)
      have e17 := hw1.mp ⟨h9, e11⟩
      refine M.run 1 (pc' := 51) (lv' := [some (vr o)]) (st' := [vi 1]) rfl ?_
      exact M.iret rfl (Nat.zero_le _) (Nat.zero_le _) ⟨reI (by rw [if_pos (by omega), e17]; rfl), rfl⟩
    have hx1 : ¬ u 11 = ((((115 * 256 + 117) * 256 + 110) : Nat) : Int) := fun z => hn1 (by rw [if_neg (by omega), if_pos z])
    refine M.run 1 (pc' := 53) (lv' := [some (vr o)]) (st' := [vr o]) rfl ?_
    refine M.get fl_X11_105 rfl (isM_o hM) (kf := 11) (v := vl (u 11)) rfl ?_
    refine M.run 4 (pc' := 64) (lv' := [some (vr o)]) (st' := [vi 100, vi 110, vi 105, vi 107, vl (u 11)]) rfl ?_
    refine M.callS (kX11_w4 l G 107 105 110 100 (by decide) (by decide) (by decide) (by decide)) cs_X11_122 cd_X11_w4 rfl (st := [vl (u 11)]) rfl (by decide) (by decide) rfl (Nat.zero_le _) (Nat.zero_le _) trivial (fun rw2 ww2 qw2 => ?_)
    rw [qw2.1, qw2.2]
    refine M.lcmp rfl (qL (by omega)) (qL (by decide)) ?_
    refine M.if_ne (tgt := 73) rfl (qI (by split; decide; split <;> decide)) rfl (fun hn2 => ?_) (fun hz => ?_)
    rotate_left
    · have e11 : u 11 = (((((107 * 256 + 105) * 256 + 110) * 256 + 100) : Nat) : Int) := by
        split at hz
        · exact absurd hz (by decide)
        · split at hz
          · assumption
          · exact absurd hz (by decide)
      have e17 := hw2.mp ⟨h9, e11⟩
      refine M.run 1 (pc' := 72) (lv' := [some (vr o)]) (st' := [vi 2]) rfl ?_
      exact M.iret rfl (Nat.zero_le _) (Nat.zero_le _) ⟨reI (by rw [if_pos (by omega), e17]; rfl), rfl⟩
    have hx2 : ¬ u 11 = (((((107 * 256 + 105) * 256 + 110) * 256 + 100) : Nat) : Int) := fun z => hn2 (by rw [if_neg (by omega), if_pos z])
    refine M.run 1 (pc' := 74) (lv' := [some (vr o)]) (st' := [vr o]) rfl ?_
    refine M.get fl_X11_105 rfl (isM_o hM) (kf := 11) (v := vl (u 11)) rfl ?_
    refine M.run 6 (pc' := 89) (lv' := [some (vr o)]) (st' := [vi 114, vi 101, vi 98, vi 109, vi 117, vi 110, vl (u 11)]) rfl ?_
    refine M.callS (kX11_w6 l G 110 117 109 98 101 114 (by decide) (by decide) (by decide) (by decide) (by decide) (by decide)) cs_X11_136 cd_X11_w6 rfl (st := [vl (u 11)]) rfl (by decide) (by decide) rfl (Nat.zero_le _) (Nat.zero_le _) trivial (fun rw3 ww3 qw3 => ?_)
    rw [qw3.1, qw3.2]
    refine M.lcmp rfl (qL (by omega)) (qL (by decide)) ?_
    refine M.if_ne (tgt := 98) rfl (qI (by split; decide; split <;> decide)) rfl (fun hn3 => ?_) (fun hz => ?_)
    rotate_left
    · have e11 : u 11 = (((((((110 * 256 + 117) * 256 + 109) * 256 + 98) * 256 + 101) * 256 + 114) : Nat) : Int) := by
        split at hz
        · exact absurd hz (by decide)
        · split at hz
          · assumption
          · exact absurd hz (by decide)
      have e17 := hw3.mp ⟨h9, e11⟩
      refine M.run 1 (pc' := 97) (lv' := [some (vr o)]) (st' := [vi 3]) rfl ?_
      exact M.iret rfl (Nat.zero_le _) (Nat.zero_le _) ⟨reI (by rw [if_pos (by omega), e17]; rfl), rfl⟩
    have hx3 : ¬ u 11 = (((((((110 * 256 + 117) * 256 + 109) * 256 + 98) * 256 + 101) * 256 + 114) : Nat) : Int) := fun z => hn3 (by rw [if_neg (by omega), if_pos z])
    refine M.run 1 (pc' := 99) (lv' := [some (vr o)]) (st' := [vr o]) rfl ?_
    refine M.get fl_X11_105 rfl (isM_o hM) (kf := 11) (v := vl (u 11)) rfl ?_
    refine M.run 5 (pc' := 112) (lv' := [some (vr o)]) (st' := [vi 121, vi 97, vi 108, vi 101, vi 100, vl (u 11)]) rfl ?_
    refine M.callS (kX11_w5 l G 100 101 108 97 121 (by decide) (by decide) (by decide) (by decide) (by decide)) cs_X11_126 cd_X11_w5 rfl (st := [vl (u 11)]) rfl (by decide) (by decide) rfl (Nat.zero_le _) (Nat.zero_le _) trivial (fun rw4 ww4 qw4 => ?_)
    rw [qw4.1, qw4.2]
    refine M.lcmp rfl (qL (by omega)) (qL (by decide)) ?_
    refine M.if_ne (tgt := 121) rfl (qI (by split; decide; split <;> decide)) rfl (fun hn4 => ?_) (fun hz => ?_)
    rotate_left
    · have e11 : u 11 = ((((((100 * 256 + 101) * 256 + 108) * 256 + 97) * 256 + 121) : Nat) : Int) := by
        split at hz
        · exact absurd hz (by decide)
        · split at hz
          · assumption
          · exact absurd hz (by decide)
      have e17 := hw4.mp ⟨h9, e11⟩
      refine M.run 1 (pc' := 120) (lv' := [some (vr o)]) (st' := [vi 4]) rfl ?_
      exact M.iret rfl (Nat.zero_le _) (Nat.zero_le _) ⟨reI (by rw [if_pos (by omega), e17]; rfl), rfl⟩
    have hx4 : ¬ u 11 = ((((((100 * 256 + 101) * 256 + 108) * 256 + 97) * 256 + 121) : Nat) : Int) := fun z => hn4 (by rw [if_neg (by omega), if_pos z])
    refine M.run 1 (pc' := 122) (lv' := [some (vr o)]) (st' := [vr o]) rfl ?_
    refine M.get fl_X11_105 rfl (isM_o hM) (kf := 11) (v := vl (u 11)) rfl ?_
    refine M.run 5 (pc' := 135) (lv' := [some (vr o)]) (st' := [vi 115, vi 101, vi 116, vi 121, vi 98, vl (u 11)]) rfl ?_
    refine M.callS (kX11_w5 l G 98 121 116 101 115 (by decide) (by decide) (by decide) (by decide) (by decide)) cs_X11_126 cd_X11_w5 rfl (st := [vl (u 11)]) rfl (by decide) (by decide) rfl (Nat.zero_le _) (Nat.zero_le _) trivial (fun rw5 ww5 qw5 => ?_)
    rw [qw5.1, qw5.2]
    refine M.lcmp rfl (qL (by omega)) (qL (by decide)) ?_
    refine M.if_ne (tgt := 146) rfl (qI (by split; decide; split <;> decide)) rfl (fun hn5 => ?_) (fun hz => ?_)
    rotate_left
    · have e11 : u 11 = ((((((98 * 256 + 121) * 256 + 116) * 256 + 101) * 256 + 115) : Nat) : Int) := by
        split at hz
        · exact absurd hz (by decide)
        · split at hz
          · assumption
          · exact absurd hz (by decide)
      have e17 := hw5.mp ⟨h9, e11⟩
      refine M.run 2 (pc' := 173) (lv' := [some (vr o)]) (st' := [vi 5]) rfl ?_
      exact M.iret rfl (Nat.zero_le _) (Nat.zero_le _) ⟨reI (by rw [if_pos (by omega), e17]; rfl), rfl⟩
    have hx5 : ¬ u 11 = ((((((98 * 256 + 121) * 256 + 116) * 256 + 101) * 256 + 115) : Nat) : Int) := fun z => hn5 (by rw [if_neg (by omega), if_pos z])
    refine M.run 1 (pc' := 147) (lv' := [some (vr o)]) (st' := [vr o]) rfl ?_
    refine M.get fl_X11_105 rfl (isM_o hM) (kf := 11) (v := vl (u 11)) rfl ?_
    refine M.run 5 (pc' := 160) (lv' := [some (vr o)]) (st' := [vi 100, vi 101, vi 105, vi 114, vi 116, vl (u 11)]) rfl ?_
    refine M.callS (kX11_w5 l G 116 114 105 101 100 (by decide) (by decide) (by decide) (by decide) (by decide)) cs_X11_126 cd_X11_w5 rfl (st := [vl (u 11)]) rfl (by decide) (by decide) rfl (Nat.zero_le _) (Nat.zero_le _) trivial (fun rw6 ww6 qw6 => ?_)
    rw [qw6.1, qw6.2]
    refine M.lcmp rfl (qL (by omega)) (qL (by decide)) ?_
    refine M.if_ne (tgt := 172) rfl (qI (by split; decide; split <;> decide)) rfl (fun hn6 => ?_) (fun hz => ?_)
    rotate_left
    · have e11 : u 11 = ((((((116 * 256 + 114) * 256 + 105) * 256 + 101) * 256 + 100) : Nat) : Int) := by
        split at hz
        · exact absurd hz (by decide)
        · split at hz
          · assumption
          · exact absurd hz (by decide)
      have e17 := hw6.mp ⟨h9, e11⟩
      refine M.run 2 (pc' := 173) (lv' := [some (vr o)]) (st' := [vi 6]) rfl ?_
      exact M.iret rfl (Nat.zero_le _) (Nat.zero_le _) ⟨reI (by rw [if_pos (by omega), e17]; rfl), rfl⟩
    have hx6 : ¬ u 11 = ((((((116 * 256 + 114) * 256 + 105) * 256 + 101) * 256 + 100) : Nat) : Int) := fun z => hn6 (by rw [if_neg (by omega), if_pos z])
    refine M.run 1 (pc' := 173) (lv' := [some (vr o)]) (st' := [vi (-1)]) rfl ?_
    exact M.iret rfl (Nat.zero_le _) (Nat.zero_le _) ⟨reI (if_neg (by omega)).symm, rfl⟩
  · skip
    refine M.run 1 (pc' := 9) (lv' := [some (vr o)]) (st' := [vi (-1)]) rfl ?_
    exact M.iret rfl (Nat.zero_le _) (Nat.zero_le _) ⟨reI (if_neg (by omega)).symm, rfl⟩
set_option maxHeartbeats 4000000 in
set_option maxRecDepth 100000 in
theorem kX11_isClaimedWord (l : Launch) (G : GT) (o : Nat) (am : Nat → Nat) (u a : Nat → Int) (b : Nat → Nat → Int) (t j : Nat) (hb : ∀ k : Nat, k < 300 → 0 ≤ b 3 k ∧ b 3 k < 256) (ht : t ≤ 300) (hT : isTk (b 3) t j u) : Ctr l G yX11_isClaimedWord cX11_isClaimedWord 1 ((Option.some Jvm.ClassFile.FieldType.boolean)) 5 0 0 [vr o] (fun w => isM o am u a b w) (fun w r w' => r = some (vi (zb (decide ((gTk (tkL (b 3) t) j).1 = 8)))) ∧ w' = w) := by
  refine Ctr.of (t := tX11_isClaimedWord) (lv0 := [some (vr o)]) (by decide +kernel) tX11_isClaimedWord_ok rfl rfl (fun w g hM M => ?_)
  have hr := tk_r hT
  have hc := tk_c hT
  obtain ⟨s0, hs0, _⟩ := isTk_g hT
  obtain ⟨i1, i2, i3, i4, i5⟩ := hs0
  refine M.run 1 (pc' := 1) (lv' := [some (vr o)]) (st' := [vr o]) rfl ?_
  refine M.get fl_X11_91 rfl (isM_o hM) (kf := 9) (v := vi (u 9)) rfl ?_
  refine M.run 1 (pc' := 5) (lv' := [some (vr o)]) (st' := [vi 2, vi (u 9)]) rfl ?_
  refine M.icmp_ne (tgt := 129) rfl (qI (by omega)) (qI (by decide)) rfl (fun h9 => ?_) (fun h9 => ?_)
  · skip
    refine M.run 1 (pc' := 130) (lv' := [some (vr o)]) (st' := [vi 0]) rfl ?_
    exact M.zret rfl (Or.inl rfl) (Nat.zero_le _) (Nat.zero_le _) ⟨reI (by rw [decide_eq_false (fun z => h9 (hc.mpr z).1)]; rfl), rfl⟩
  · have h7r : 0 ≤ u 7 ∧ u 7 ≤ 300 := by
      rcases Nat.lt_or_ge s0 t with y | y
      · have y2 := (i5 y).2.1; have y3 := tkE_b (b := b 3) y; omega
      · have y2 := (i4 (by omega)).2; omega
    refine M.run 1 (pc' := 9) (lv' := [some (vr o)]) (st' := [vr o]) rfl ?_
    refine M.get fl_X11_82 rfl (isM_o hM) (kf := 7) (v := vi (u 7)) rfl ?_
    refine M.run 1 (pc' := 13) (lv' := [some (vr o)]) (st' := [vr o, vi (u 7)]) rfl ?_
    refine M.get fl_X11_88 rfl (isM_o hM) (kf := 8) (v := vi (u 8)) rfl ?_
    refine M.run 2 (pc' := 19) (lv' := [some (vr o)]) (st' := [vi 7, vi (u 7 - u 8)]) rfl ?_
    refine M.icmp_ne (tgt := 129) rfl (qI (by omega)) (qI (by decide)) rfl (fun h7 => ?_) (fun h7 => ?_)
    · skip
      refine M.run 1 (pc' := 130) (lv' := [some (vr o)]) (st' := [vi 0]) rfl ?_
      exact M.zret rfl (Or.inl rfl) (Nat.zero_le _) (Nat.zero_le _) ⟨reI (by rw [decide_eq_false (fun z => h7 (hc.mpr z).2.1)]; rfl), rfl⟩
    · have hst : s0 + 7 ≤ t := by
        rcases Nat.lt_or_ge s0 t with y | y
        · have y2 := (i5 y).2.1; have y3 := tkE_b (b := b 3) y; omega
        · have y2 := (i4 (by omega)).2; omega
      have hbt : ∀ k : Nat, k < 7 → ∃ y : Nat, byA (b 3) t (s0 + k) = ((y : Nat) : Int) ∧ y < 256 ∧ b 3 (s0 + k) = ((y : Nat) : Int) := fun k hk => by
        have y := hb (s0 + k) (by omega)
        refine ⟨(b 3 (s0 + k)).toNat, ?_, by omega, by omega⟩
        unfold byA
        rw [if_pos (by omega)]
        omega
      obtain ⟨y0, hy0, hz0, hv0⟩ := hbt 0 (by decide)
      obtain ⟨y1, hy1, hz1, hv1⟩ := hbt 1 (by decide)
      obtain ⟨y2, hy2, hz2, hv2⟩ := hbt 2 (by decide)
      obtain ⟨y3, hy3, hz3, hv3⟩ := hbt 3 (by decide)
      obtain ⟨y4, hy4, hz4, hv4⟩ := hbt 4 (by decide)
      obtain ⟨y5, hy5, hz5, hv5⟩ := hbt 5 (by decide)
      obtain ⟨y6, hy6, hz6, hv6⟩ := hbt 6 (by decide)
      refine M.run 2 (pc' := 24) (lv' := [some (vr o)]) (st' := [vr o, vr o]) rfl ?_
      refine M.get fl_X11_88 rfl (isM_o hM) (kf := 8) (v := vi (u 8)) rfl ?_
      rw [i2]
      refine M.callV (kX11_byteAt l G o am u a b t (s0 + 0) i1 ht (by omega)) cv_X11_85 cd_X11_byteAt rfl (st := []) rfl (isM_o hM) (by decide) (by decide) rfl (Nat.zero_le _) (Nat.zero_le _) hM (fun rb1 wb1 qb1 => ?_)
      rw [qb1.1, qb1.2, hy0]
      refine M.run 2 (pc' := 32) (lv' := [some (vr o)]) (st' := [vr o, vr o, vi ((y0 : Nat) : Int)]) rfl ?_
      refine M.get fl_X11_88 rfl (isM_o hM) (kf := 8) (v := vi (u 8)) rfl ?_
      rw [i2]
      refine M.run 2 (pc' := 37) (lv' := [some (vr o)]) (st' := [vi ((s0 + 1 : Nat) : Int), vr o, vi ((y0 : Nat) : Int)]) rfl ?_
      refine M.callV (kX11_byteAt l G o am u a b t (s0 + 1) i1 ht (by omega)) cv_X11_85 cd_X11_byteAt rfl (st := [vi ((y0 : Nat) : Int)]) rfl (isM_o hM) (by decide) (by decide) rfl (Nat.zero_le _) (Nat.zero_le _) hM (fun rb2 wb2 qb2 => ?_)
      rw [qb2.1, qb2.2, hy1]
      refine M.run 2 (pc' := 42) (lv' := [some (vr o)]) (st' := [vr o, vr o, vi ((y1 : Nat) : Int), vi ((y0 : Nat) : Int)]) rfl ?_
      refine M.get fl_X11_88 rfl (isM_o hM) (kf := 8) (v := vi (u 8)) rfl ?_
      rw [i2]
      refine M.run 2 (pc' := 47) (lv' := [some (vr o)]) (st' := [vi ((s0 + 2 : Nat) : Int), vr o, vi ((y1 : Nat) : Int), vi ((y0 : Nat) : Int)]) rfl ?_
      refine M.callV (kX11_byteAt l G o am u a b t (s0 + 2) i1 ht (by omega)) cv_X11_85 cd_X11_byteAt rfl (st := [vi ((y1 : Nat) : Int), vi ((y0 : Nat) : Int)]) rfl (isM_o hM) (by decide) (by decide) rfl (Nat.zero_le _) (Nat.zero_le _) hM (fun rb3 wb3 qb3 => ?_)
      rw [qb3.1, qb3.2, hy2]
      refine M.run 2 (pc' := 52) (lv' := [some (vr o)]) (st' := [vr o, vr o, vi ((y2 : Nat) : Int), vi ((y1 : Nat) : Int), vi ((y0 : Nat) : Int)]) rfl ?_
      refine M.get fl_X11_88 rfl (isM_o hM) (kf := 8) (v := vi (u 8)) rfl ?_
      rw [i2]
      refine M.run 2 (pc' := 57) (lv' := [some (vr o)]) (st' := [vi ((s0 + 3 : Nat) : Int), vr o, vi ((y2 : Nat) : Int), vi ((y1 : Nat) : Int), vi ((y0 : Nat) : Int)]) rfl ?_
      refine M.callV (kX11_byteAt l G o am u a b t (s0 + 3) i1 ht (by omega)) cv_X11_85 cd_X11_byteAt rfl (st := [vi ((y2 : Nat) : Int), vi ((y1 : Nat) : Int), vi ((y0 : Nat) : Int)]) rfl (isM_o hM) (by decide) (by decide) rfl (Nat.zero_le _) (Nat.zero_le _) hM (fun rb4 wb4 qb4 => ?_)
      rw [qb4.1, qb4.2, hy3]
      refine M.callS (kX11_w4 l G y0 y1 y2 y3 hz0 hz1 hz2 hz3) cs_X11_122 cd_X11_w4 rfl (st := []) rfl (by decide) (by decide) rfl (Nat.zero_le _) (Nat.zero_le _) trivial (fun rwa wwa qwa => ?_)
      rw [qwa.1, qwa.2]
      refine M.run 4 (pc' := 71) (lv' := [some (vr o)]) (st' := [vi 105, vi 97, vi 108, vi 99, vl (((((y0 * 256 + y1) * 256 + y2) * 256 + y3 : Nat)) : Int)]) rfl ?_
      refine M.callS (kX11_w4 l G 99 108 97 105 (by decide) (by decide) (by decide) (by decide)) cs_X11_122 cd_X11_w4 rfl (st := [vl (((((y0 * 256 + y1) * 256 + y2) * 256 + y3 : Nat)) : Int)]) rfl (by decide) (by decide) rfl (Nat.zero_le _) (Nat.zero_le _) trivial (fun rwb wwb qwb => ?_)
      rw [qwb.1, qwb.2]
      refine M.lcmp rfl (qL (by omega)) (qL (by decide)) ?_
      have hp4 : pk (b 3) s0 4 = ((((y0 * 256 + y1) * 256 + y2) * 256 + y3 : Nat) : Int) := by
        show (((0 * 256 + b 3 (s0 + 0)) * 256 + b 3 (s0 + 1)) * 256 + b 3 (s0 + 2)) * 256 + b 3 (s0 + 3) = _
        rw [hv0, hv1, hv2, hv3]
        omega
      have hp3 : pk (b 3) (s0 + 4) 3 = (((y4 * 256 + y5) * 256 + y6 : Nat) : Int) := by
        show ((0 * 256 + b 3 (s0 + 4 + 0)) * 256 + b 3 (s0 + 4 + 1)) * 256 + b 3 (s0 + 4 + 2) = _
        rw [show s0 + 4 + 0 = s0 + 4 from rfl, show s0 + 4 + 1 = s0 + 5 from rfl, show s0 + 4 + 2 = s0 + 6 from rfl, hv4, hv5, hv6]
        omega
      have hs1 : ∀ s : Nat, u 8 = ((s : Nat) : Int) → s = s0 := fun s hs => by omega
      refine M.if_ne (tgt := 129) rfl (qI (by split; decide; split <;> decide)) rfl (fun hn4 => ?_) (fun hzq4 => ?_)
      · skip
        have q4 : ¬ (gTk (tkL (b 3) t) j).1 = 8 := fun z => by
          obtain ⟨_, _, s, z3, z4, _⟩ := hc.mpr z
          rw [hs1 s z3, hp4] at z4
          exact hn4 (by rw [if_neg (by omega), if_pos (by omega)])
        refine M.run 1 (pc' := 130) (lv' := [some (vr o)]) (st' := [vi 0]) rfl ?_
        exact M.zret rfl (Or.inl rfl) (Nat.zero_le _) (Nat.zero_le _) ⟨reI (by rw [decide_eq_false (q4)]; rfl), rfl⟩
      · have e4 : pk (b 3) s0 4 = 1668047209 := by
          rw [hp4]
          split at hzq4
          · exact absurd hzq4 (by decide)
          · split at hzq4
            · omega
            · exact absurd hzq4 (by decide)
        refine M.run 2 (pc' := 80) (lv' := [some (vr o)]) (st' := [vr o, vr o]) rfl ?_
        refine M.get fl_X11_88 rfl (isM_o hM) (kf := 8) (v := vi (u 8)) rfl ?_
        rw [i2]
        refine M.run 2 (pc' := 85) (lv' := [some (vr o)]) (st' := [vi ((s0 + 4 : Nat) : Int), vr o]) rfl ?_
        refine M.callV (kX11_byteAt l G o am u a b t (s0 + 4) i1 ht (by omega)) cv_X11_85 cd_X11_byteAt rfl (st := []) rfl (isM_o hM) (by decide) (by decide) rfl (Nat.zero_le _) (Nat.zero_le _) hM (fun rb5 wb5 qb5 => ?_)
        rw [qb5.1, qb5.2, hy4]
        refine M.run 2 (pc' := 90) (lv' := [some (vr o)]) (st' := [vr o, vr o, vi ((y4 : Nat) : Int)]) rfl ?_
        refine M.get fl_X11_88 rfl (isM_o hM) (kf := 8) (v := vi (u 8)) rfl ?_
        rw [i2]
        refine M.run 2 (pc' := 95) (lv' := [some (vr o)]) (st' := [vi ((s0 + 5 : Nat) : Int), vr o, vi ((y4 : Nat) : Int)]) rfl ?_
        refine M.callV (kX11_byteAt l G o am u a b t (s0 + 5) i1 ht (by omega)) cv_X11_85 cd_X11_byteAt rfl (st := [vi ((y4 : Nat) : Int)]) rfl (isM_o hM) (by decide) (by decide) rfl (Nat.zero_le _) (Nat.zero_le _) hM (fun rb6 wb6 qb6 => ?_)
        rw [qb6.1, qb6.2, hy5]
        refine M.run 2 (pc' := 100) (lv' := [some (vr o)]) (st' := [vr o, vr o, vi ((y5 : Nat) : Int), vi ((y4 : Nat) : Int)]) rfl ?_
        refine M.get fl_X11_88 rfl (isM_o hM) (kf := 8) (v := vi (u 8)) rfl ?_
        rw [i2]
        refine M.run 2 (pc' := 106) (lv' := [some (vr o)]) (st' := [vi ((s0 + 6 : Nat) : Int), vr o, vi ((y5 : Nat) : Int), vi ((y4 : Nat) : Int)]) rfl ?_
        refine M.callV (kX11_byteAt l G o am u a b t (s0 + 6) i1 ht (by omega)) cv_X11_85 cd_X11_byteAt rfl (st := [vi ((y5 : Nat) : Int), vi ((y4 : Nat) : Int)]) rfl (isM_o hM) (by decide) (by decide) rfl (Nat.zero_le _) (Nat.zero_le _) hM (fun rb7 wb7 qb7 => ?_)
        rw [qb7.1, qb7.2, hy6]
        refine M.callS (kX11_w3 l G y4 y5 y6 hz4 hz5 hz6) cs_X11_118 cd_X11_w3 rfl (st := []) rfl (by decide) (by decide) rfl (Nat.zero_le _) (Nat.zero_le _) trivial (fun rwc wwc qwc => ?_)
        rw [qwc.1, qwc.2]
        refine M.run 3 (pc' := 118) (lv' := [some (vr o)]) (st' := [vi 100, vi 101, vi 109, vl ((((y4 * 256 + y5) * 256 + y6 : Nat)) : Int)]) rfl ?_
        refine M.callS (kX11_w3 l G 109 101 100 (by decide) (by decide) (by decide)) cs_X11_118 cd_X11_w3 rfl (st := [vl ((((y4 * 256 + y5) * 256 + y6 : Nat)) : Int)]) rfl (by decide) (by decide) rfl (Nat.zero_le _) (Nat.zero_le _) trivial (fun rwd wwd qwd => ?_)
        rw [qwd.1, qwd.2]
        refine M.lcmp rfl (qL (by omega)) (qL (by decide)) ?_
        refine M.if_ne (tgt := 129) rfl (qI (by split; decide; split <;> decide)) rfl (fun hn3 => ?_) (fun hzq3 => ?_)
        · skip
          have q4 : ¬ (gTk (tkL (b 3) t) j).1 = 8 := fun z => by
            obtain ⟨_, _, s, z3, _, z4⟩ := hc.mpr z
            rw [hs1 s z3, hp3] at z4
            exact hn3 (by rw [if_neg (by omega), if_pos (by omega)])
          refine M.run 1 (pc' := 130) (lv' := [some (vr o)]) (st' := [vi 0]) rfl ?_
          exact M.zret rfl (Or.inl rfl) (Nat.zero_le _) (Nat.zero_le _) ⟨reI (by rw [decide_eq_false (q4)]; rfl), rfl⟩
        · have e3 : pk (b 3) (s0 + 4) 3 = 7169380 := by
            rw [hp3]
            split at hzq3
            · exact absurd hzq3 (by decide)
            · split at hzq3
              · omega
              · exact absurd hzq3 (by decide)
          refine M.run 2 (pc' := 130) (lv' := [some (vr o)]) (st' := [vi 1]) rfl ?_
          exact M.zret rfl (Or.inr rfl) (Nat.zero_le _) (Nat.zero_le _) ⟨reI (by rw [decide_eq_true (hc.mp ⟨h9, h7, s0, i2, e4, e3⟩)]; rfl), rfl⟩
set_option maxHeartbeats 4000000 in
set_option maxRecDepth 100000 in
theorem kX11_compareOf (l : Launch) (G : GT) (o : Nat) (am : Nat → Nat) (u a : Nat → Int) (b : Nat → Nat → Int) (t j : Nat) (hT : isTk (b 3) t j u) : Ctr l G yX11_compareOf cX11_compareOf 1 ((Option.some Jvm.ClassFile.FieldType.int)) 1 0 0 [vr o] (fun w => isM o am u a b w) (fun w r w' => r = some (vi (cmpO (gTk (tkL (b 3) t) j).1)) ∧ w' = w) := by
  refine Ctr.of (t := tX11_compareOf) (lv0 := [some (vr o)]) (by decide +kernel) tX11_compareOf_ok rfl rfl (fun w g hM M => ?_)
  have hr := tk_r hT
  have hs30 : u 9 = 60 ↔ (gTk (tkL (b 3) t) j).1 = 30 := tk_s (v := 30) (by decide) hT
  have hs41 : u 9 = 4 ↔ (gTk (tkL (b 3) t) j).1 = 41 := tk_s (v := 41) (by decide) hT
  have hs31 : u 9 = 62 ↔ (gTk (tkL (b 3) t) j).1 = 31 := tk_s (v := 31) (by decide) hT
  have hs42 : u 9 = 5 ↔ (gTk (tkL (b 3) t) j).1 = 42 := tk_s (v := 42) (by decide) hT
  have hs32 : u 9 = 61 ↔ (gTk (tkL (b 3) t) j).1 = 32 := tk_s (v := 32) (by decide) hT
  have hs33 : u 9 = 35 ↔ (gTk (tkL (b 3) t) j).1 = 33 := tk_s (v := 33) (by decide) hT
  generalize hs : (gTk (tkL (b 3) t) j).1 = s at *
  refine M.run 1 (pc' := 1) (lv' := [some (vr o)]) (st' := [vr o]) rfl ?_
  refine M.get fl_X11_91 rfl (isM_o hM) (kf := 9) (v := vi (u 9)) rfl ?_
  refine M.run 1 (pc' := 6) (lv' := [some (vr o)]) (st' := [vi 60, vi (u 9)]) rfl ?_
  refine M.icmp_ne (tgt := 14) rfl (qI (by omega)) (qI (by decide)) rfl (fun hn0 => ?_) (fun hz0 => ?_)
  rotate_left
  · skip
    refine M.run 2 (pc' := 83) (lv' := [some (vr o)]) (st' := [vi 10]) rfl ?_
    exact M.iret rfl (Nat.zero_le _) (Nat.zero_le _) ⟨reI (by unfold cmpO; (repeat' split) <;> omega), rfl⟩
  refine M.run 1 (pc' := 15) (lv' := [some (vr o)]) (st' := [vr o]) rfl ?_
  refine M.get fl_X11_91 rfl (isM_o hM) (kf := 9) (v := vi (u 9)) rfl ?_
  refine M.run 1 (pc' := 19) (lv' := [some (vr o)]) (st' := [vi 4, vi (u 9)]) rfl ?_
  refine M.icmp_ne (tgt := 27) rfl (qI (by omega)) (qI (by decide)) rfl (fun hn1 => ?_) (fun hz1 => ?_)
  rotate_left
  · skip
    refine M.run 2 (pc' := 83) (lv' := [some (vr o)]) (st' := [vi 11]) rfl ?_
    exact M.iret rfl (Nat.zero_le _) (Nat.zero_le _) ⟨reI (by unfold cmpO; (repeat' split) <;> omega), rfl⟩
  refine M.run 1 (pc' := 28) (lv' := [some (vr o)]) (st' := [vr o]) rfl ?_
  refine M.get fl_X11_91 rfl (isM_o hM) (kf := 9) (v := vi (u 9)) rfl ?_
  refine M.run 1 (pc' := 33) (lv' := [some (vr o)]) (st' := [vi 62, vi (u 9)]) rfl ?_
  refine M.icmp_ne (tgt := 41) rfl (qI (by omega)) (qI (by decide)) rfl (fun hn2 => ?_) (fun hz2 => ?_)
  rotate_left
  · skip
    refine M.run 2 (pc' := 83) (lv' := [some (vr o)]) (st' := [vi 12]) rfl ?_
    exact M.iret rfl (Nat.zero_le _) (Nat.zero_le _) ⟨reI (by unfold cmpO; (repeat' split) <;> omega), rfl⟩
  refine M.run 1 (pc' := 42) (lv' := [some (vr o)]) (st' := [vr o]) rfl ?_
  refine M.get fl_X11_91 rfl (isM_o hM) (kf := 9) (v := vi (u 9)) rfl ?_
  refine M.run 1 (pc' := 46) (lv' := [some (vr o)]) (st' := [vi 5, vi (u 9)]) rfl ?_
  refine M.icmp_ne (tgt := 54) rfl (qI (by omega)) (qI (by decide)) rfl (fun hn3 => ?_) (fun hz3 => ?_)
  rotate_left
  · skip
    refine M.run 2 (pc' := 83) (lv' := [some (vr o)]) (st' := [vi 13]) rfl ?_
    exact M.iret rfl (Nat.zero_le _) (Nat.zero_le _) ⟨reI (by unfold cmpO; (repeat' split) <;> omega), rfl⟩
  refine M.run 1 (pc' := 55) (lv' := [some (vr o)]) (st' := [vr o]) rfl ?_
  refine M.get fl_X11_91 rfl (isM_o hM) (kf := 9) (v := vi (u 9)) rfl ?_
  refine M.run 1 (pc' := 60) (lv' := [some (vr o)]) (st' := [vi 61, vi (u 9)]) rfl ?_
  refine M.icmp_ne (tgt := 68) rfl (qI (by omega)) (qI (by decide)) rfl (fun hn4 => ?_) (fun hz4 => ?_)
  rotate_left
  · skip
    refine M.run 2 (pc' := 83) (lv' := [some (vr o)]) (st' := [vi 14]) rfl ?_
    exact M.iret rfl (Nat.zero_le _) (Nat.zero_le _) ⟨reI (by unfold cmpO; (repeat' split) <;> omega), rfl⟩
  refine M.run 1 (pc' := 69) (lv' := [some (vr o)]) (st' := [vr o]) rfl ?_
  refine M.get fl_X11_91 rfl (isM_o hM) (kf := 9) (v := vi (u 9)) rfl ?_
  refine M.run 1 (pc' := 74) (lv' := [some (vr o)]) (st' := [vi 35, vi (u 9)]) rfl ?_
  refine M.icmp_ne (tgt := 82) rfl (qI (by omega)) (qI (by decide)) rfl (fun hn5 => ?_) (fun hz5 => ?_)
  rotate_left
  · skip
    refine M.run 2 (pc' := 83) (lv' := [some (vr o)]) (st' := [vi 15]) rfl ?_
    exact M.iret rfl (Nat.zero_le _) (Nat.zero_le _) ⟨reI (by unfold cmpO; (repeat' split) <;> omega), rfl⟩
  refine M.run 1 (pc' := 83) (lv' := [some (vr o)]) (st' := [vi (-1)]) rfl ?_
  exact M.iret rfl (Nat.zero_le _) (Nat.zero_le _) ⟨reI (by unfold cmpO; (repeat' split) <;> omega), rfl⟩
set_option maxHeartbeats 4000000 in
set_option maxRecDepth 100000 in
theorem kX11_sortOf (l : Launch) (G : GT) (o : Nat) (am : Nat → Nat) (u a : Nat → Int) (b : Nat → Nat → Int) (t j : Nat) (hT : isTk (b 3) t j u) : Ctr l G yX11_sortOf cX11_sortOf 1 ((Option.some Jvm.ClassFile.FieldType.int)) 7 0 0 [vr o] (fun w => isM o am u a b w) (fun w r w' => r = some (vi (if 0 ≤ (gTk (tkL (b 3) t) j).1 ∧ (gTk (tkL (b 3) t) j).1 ≤ 5 then (gTk (tkL (b 3) t) j).1 else -1)) ∧ w' = w) := by
  refine Ctr.of (t := tX11_sortOf) (lv0 := [some (vr o)]) (by decide +kernel) tX11_sortOf_ok rfl rfl (fun w g hM M => ?_)
  refine M.run 6 (pc' := 11) (lv' := [some (vr o)]) (st' := [vi 115, vi 101, vi 115, vi 111, vi 108, vr o]) rfl ?_
  refine M.callS (kX11_w5 l G 108 111 115 101 115 (by decide) (by decide) (by decide) (by decide) (by decide)) cs_X11_126 cd_X11_w5 rfl (st := [vr o]) rfl (by decide) (by decide) rfl (Nat.zero_le _) (Nat.zero_le _) trivial (fun rw1 ww1 qw1 => ?_)
  rw [qw1.1, qw1.2]
  refine M.callV (kX11_isWordT l G o am u a b t j hT 0 ((((((108 * 256 + 111) * 256 + 115) * 256 + 101) * 256 + 115) : Nat) : Int) (by decide) (by decide) (by decide)) cv_X11_186 cd_X11_isWord rfl (st := []) rfl (isM_o hM) (by decide) (by decide) rfl (Nat.zero_le _) (Nat.zero_le _) hM (fun rx1 wx1 qx1 => ?_)
  rw [qx1.1, qx1.2]
  refine M.if_eq (tgt := 22) rfl (qI (by have := zb_01 (decide ((gTk (tkL (b 3) t) j).1 = ((0 : Nat) : Int))); omega)) rfl (fun hn0 => ?_) (fun hz0 => ?_)
  rotate_left
  · have y := zb_td hz0
    refine M.run 1 (pc' := 21) (lv' := [some (vr o)]) (st' := [vi 0]) rfl ?_
    exact M.iret rfl (Nat.zero_le _) (Nat.zero_le _) ⟨reI (by rw [if_pos (by omega)]; omega), rfl⟩
  have y0 := zb_fd hn0
  refine M.run 6 (pc' := 33) (lv' := [some (vr o)]) (st' := [vi 115, vi 116, vi 105, vi 97, vi 119, vr o]) rfl ?_
  refine M.callS (kX11_w5 l G 119 97 105 116 115 (by decide) (by decide) (by decide) (by decide) (by decide)) cs_X11_126 cd_X11_w5 rfl (st := [vr o]) rfl (by decide) (by decide) rfl (Nat.zero_le _) (Nat.zero_le _) trivial (fun rw2 ww2 qw2 => ?_)
  rw [qw2.1, qw2.2]
  refine M.callV (kX11_isWordT l G o am u a b t j hT 1 ((((((119 * 256 + 97) * 256 + 105) * 256 + 116) * 256 + 115) : Nat) : Int) (by decide) (by decide) (by decide)) cv_X11_186 cd_X11_isWord rfl (st := []) rfl (isM_o hM) (by decide) (by decide) rfl (Nat.zero_le _) (Nat.zero_le _) hM (fun rx2 wx2 qx2 => ?_)
  rw [qx2.1, qx2.2]
  refine M.if_eq (tgt := 44) rfl (qI (by have := zb_01 (decide ((gTk (tkL (b 3) t) j).1 = ((1 : Nat) : Int))); omega)) rfl (fun hn1 => ?_) (fun hz1 => ?_)
  rotate_left
  · have y := zb_td hz1
    refine M.run 1 (pc' := 43) (lv' := [some (vr o)]) (st' := [vi 1]) rfl ?_
    exact M.iret rfl (Nat.zero_le _) (Nat.zero_le _) ⟨reI (by rw [if_pos (by omega)]; omega), rfl⟩
  have y1 := zb_fd hn1
  refine M.run 6 (pc' := 55) (lv' := [some (vr o)]) (st' := [vi 107, vi 99, vi 111, vi 108, vi 98, vr o]) rfl ?_
  refine M.callS (kX11_w5 l G 98 108 111 99 107 (by decide) (by decide) (by decide) (by decide) (by decide)) cs_X11_126 cd_X11_w5 rfl (st := [vr o]) rfl (by decide) (by decide) rfl (Nat.zero_le _) (Nat.zero_le _) trivial (fun rw3 ww3 qw3 => ?_)
  rw [qw3.1, qw3.2]
  refine M.callV (kX11_isWordT l G o am u a b t j hT 2 ((((((98 * 256 + 108) * 256 + 111) * 256 + 99) * 256 + 107) : Nat) : Int) (by decide) (by decide) (by decide)) cv_X11_186 cd_X11_isWord rfl (st := []) rfl (isM_o hM) (by decide) (by decide) rfl (Nat.zero_le _) (Nat.zero_le _) hM (fun rx3 wx3 qx3 => ?_)
  rw [qx3.1, qx3.2]
  refine M.if_eq (tgt := 66) rfl (qI (by have := zb_01 (decide ((gTk (tkL (b 3) t) j).1 = ((2 : Nat) : Int))); omega)) rfl (fun hn2 => ?_) (fun hz2 => ?_)
  rotate_left
  · have y := zb_td hz2
    refine M.run 1 (pc' := 65) (lv' := [some (vr o)]) (st' := [vi 2]) rfl ?_
    exact M.iret rfl (Nat.zero_le _) (Nat.zero_le _) ⟨reI (by rw [if_pos (by omega)]; omega), rfl⟩
  have y2 := zb_fd hn2
  refine M.run 5 (pc' := 75) (lv' := [some (vr o)]) (st' := [vi 110, vi 101, vi 112, vi 111, vr o]) rfl ?_
  refine M.callS (kX11_w4 l G 111 112 101 110 (by decide) (by decide) (by decide) (by decide)) cs_X11_122 cd_X11_w4 rfl (st := [vr o]) rfl (by decide) (by decide) rfl (Nat.zero_le _) (Nat.zero_le _) trivial (fun rw4 ww4 qw4 => ?_)
  rw [qw4.1, qw4.2]
  refine M.callV (kX11_isWordT l G o am u a b t j hT 3 (((((111 * 256 + 112) * 256 + 101) * 256 + 110) : Nat) : Int) (by decide) (by decide) (by decide)) cv_X11_186 cd_X11_isWord rfl (st := []) rfl (isM_o hM) (by decide) (by decide) rfl (Nat.zero_le _) (Nat.zero_le _) hM (fun rx4 wx4 qx4 => ?_)
  rw [qx4.1, qx4.2]
  refine M.if_eq (tgt := 86) rfl (qI (by have := zb_01 (decide ((gTk (tkL (b 3) t) j).1 = ((3 : Nat) : Int))); omega)) rfl (fun hn3 => ?_) (fun hz3 => ?_)
  rotate_left
  · have y := zb_td hz3
    refine M.run 1 (pc' := 85) (lv' := [some (vr o)]) (st' := [vi 3]) rfl ?_
    exact M.iret rfl (Nat.zero_le _) (Nat.zero_le _) ⟨reI (by rw [if_pos (by omega)]; omega), rfl⟩
  have y3 := zb_fd hn3
  refine M.run 7 (pc' := 99) (lv' := [some (vr o)]) (st' := [vi 108, vi 101, vi 99, vi 110, vi 97, vi 99, vr o]) rfl ?_
  refine M.callS (kX11_w6 l G 99 97 110 99 101 108 (by decide) (by decide) (by decide) (by decide) (by decide) (by decide)) cs_X11_136 cd_X11_w6 rfl (st := [vr o]) rfl (by decide) (by decide) rfl (Nat.zero_le _) (Nat.zero_le _) trivial (fun rw5 ww5 qw5 => ?_)
  rw [qw5.1, qw5.2]
  refine M.callV (kX11_isWordT l G o am u a b t j hT 4 (((((((99 * 256 + 97) * 256 + 110) * 256 + 99) * 256 + 101) * 256 + 108) : Nat) : Int) (by decide) (by decide) (by decide)) cv_X11_186 cd_X11_isWord rfl (st := []) rfl (isM_o hM) (by decide) (by decide) rfl (Nat.zero_le _) (Nat.zero_le _) hM (fun rx5 wx5 qx5 => ?_)
  rw [qx5.1, qx5.2]
  refine M.if_eq (tgt := 112) rfl (qI (by have := zb_01 (decide ((gTk (tkL (b 3) t) j).1 = ((4 : Nat) : Int))); omega)) rfl (fun hn4 => ?_) (fun hz4 => ?_)
  rotate_left
  · have y := zb_td hz4
    refine M.run 2 (pc' := 133) (lv' := [some (vr o)]) (st' := [vi 4]) rfl ?_
    exact M.iret rfl (Nat.zero_le _) (Nat.zero_le _) ⟨reI (by rw [if_pos (by omega)]; omega), rfl⟩
  have y4 := zb_fd hn4
  refine M.run 4 (pc' := 119) (lv' := [some (vr o)]) (st' := [vi 121, vi 97, vi 100, vr o]) rfl ?_
  refine M.callS (kX11_w3 l G 100 97 121 (by decide) (by decide) (by decide)) cs_X11_118 cd_X11_w3 rfl (st := [vr o]) rfl (by decide) (by decide) rfl (Nat.zero_le _) (Nat.zero_le _) trivial (fun rw6 ww6 qw6 => ?_)
  rw [qw6.1, qw6.2]
  refine M.callV (kX11_isWordT l G o am u a b t j hT 5 ((((100 * 256 + 97) * 256 + 121) : Nat) : Int) (by decide) (by decide) (by decide)) cv_X11_186 cd_X11_isWord rfl (st := []) rfl (isM_o hM) (by decide) (by decide) rfl (Nat.zero_le _) (Nat.zero_le _) hM (fun rx6 wx6 qx6 => ?_)
  rw [qx6.1, qx6.2]
  refine M.if_eq (tgt := 132) rfl (qI (by have := zb_01 (decide ((gTk (tkL (b 3) t) j).1 = ((5 : Nat) : Int))); omega)) rfl (fun hn5 => ?_) (fun hz5 => ?_)
  rotate_left
  · have y := zb_td hz5
    refine M.run 2 (pc' := 133) (lv' := [some (vr o)]) (st' := [vi 5]) rfl ?_
    exact M.iret rfl (Nat.zero_le _) (Nat.zero_le _) ⟨reI (by rw [if_pos (by omega)]; omega), rfl⟩
  have y5 := zb_fd hn5
  refine M.run 1 (pc' := 133) (lv' := [some (vr o)]) (st' := [vi (-1)]) rfl ?_
  exact M.iret rfl (Nat.zero_le _) (Nat.zero_le _) ⟨reI (if_neg (by omega)).symm, rfl⟩
