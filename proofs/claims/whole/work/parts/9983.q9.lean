/-! the reference's reader: what stands behind a clause's word -/
/-- the numbers behind block, open, cancel or day, ahead of the sign of the end -/
def pBo (L : List (Int × Int × Int)) (x : Int) (j : Nat) : Dr :=
  if x = 2 then dB (pNum L 0 30 j) (fun a k => if (gTk L k).1 = 6 then dB (pNum L (max 1 a) 30 (k + 1)) (fun b k2 => .inl ((a, b), k2)) else .inr (1, k))
  else if x = 3 then dB (pNum L 0 2 j) (fun a k => .inl ((a, 0), k))
  else if x = 4 then dB (pNum L 0 2 j) (fun a k => if (gTk L k).1 = 7 then dB (pNum L 0 1 (k + 1)) (fun b k2 => .inl ((a, b), k2)) else .inr (1, k))
  else dB (pNum L 1 30 j) (fun a k => .inl ((a, 0), k))
theorem pDee_B {L : List (Int × Int × Int)} {x : Int} {j : Nat} : pDee L x j = match pBo L x j with
    | .inl (v, k) => dF L v.1 v.2 k
    | .inr e => .inr e := by
  unfold pDee pBo
  by_cases h2 : x = 2
  · rw [if_pos h2, if_pos h2]
    rcases pNum L 0 30 j with ⟨a, k⟩ | e
    · show (if (gTk L k).1 = 6 then _ else _) = (match (if (gTk L k).1 = 6 then _ else _ : Dr) with | .inl (v, k) => dF L v.1 v.2 k | .inr e => .inr e)
      by_cases h6 : (gTk L k).1 = 6
      · rw [if_pos h6, if_pos h6]
        rcases pNum L (max 1 a) 30 (k + 1) with ⟨b, k2⟩ | e
        · rfl
        · rfl
      · rw [if_neg h6, if_neg h6]
    · rfl
  · rw [if_neg h2, if_neg h2]
    by_cases h3 : x = 3
    · rw [if_pos h3, if_pos h3]
      rcases pNum L 0 2 j with ⟨a, k⟩ | e
      · rfl
      · rfl
    · rw [if_neg h3, if_neg h3]
      by_cases h4 : x = 4
      · rw [if_pos h4, if_pos h4]
        rcases pNum L 0 2 j with ⟨a, k⟩ | e
        · show (if (gTk L k).1 = 7 then _ else _) = (match (if (gTk L k).1 = 7 then _ else _ : Dr) with | .inl (v, k) => dF L v.1 v.2 k | .inr e => .inr e)
          by_cases h7 : (gTk L k).1 = 7
          · rw [if_pos h7, if_pos h7]
            rcases pNum L 0 1 (k + 1) with ⟨b, k2⟩ | e
            · rfl
            · rfl
          · rw [if_neg h7, if_neg h7]
        · rfl
      · rw [if_neg h4, if_neg h4]
        rcases pNum L 1 30 j with ⟨a, k⟩ | e
        · rfl
        · rfl
/-- what a number leaves -/
def QN (o : Nat) (am : Nat → Nat) (u a : Nat → Int) (b : Nat → Nat → Int) (t x : Nat) (lo hi : Int) (j : Nat) (w : Wo) (r : Option AV) (w' : Wo) : Nr → Prop
  | .inl (y, k) => r = some (vi 0) ∧ (lo ≤ y ∧ y ≤ hi) ∧ k = j + 1 ∧ ∃ v : Nat → Int, isM o am v a (uB b 2 (uN (b 2) x y)) w' ∧ isTk (b 3) t k v ∧ ∀ i : Nat, ¬ (7 ≤ i ∧ i ≤ 11) → v i = u i
  | .inr (f, k) => r = some (vi f) ∧ (1 ≤ f ∧ f ≤ 6) ∧ k = j ∧ w' = w
/-- what the numbers of a clause leave -/
def QD2 (o : Nat) (am : Nat → Nat) (u a : Nat → Int) (b : Nat → Nat → Int) (t x : Nat) (z : Int) (r : Option AV) (w' : Wo) : Dr → Prop
  | .inl (y, k) => r = some (vi 0) ∧ ((0 ≤ y.1 ∧ y.1 ≤ 30) ∧ 0 ≤ y.2 ∧ y.2 ≤ 30) ∧ ∃ (v : Nat → Int) (e : Nat → Nat → Int), isM o am v a e w' ∧ isTk (e 3) t k v ∧ (∀ i : Nat, ¬ (7 ≤ i ∧ i ≤ 11) → v i = u i) ∧ (∀ i : Nat, ¬ i = 2 → e i = b i) ∧ (∀ i : Nat, ¬ i = x + 1 → ¬ i = x + 2 → e 2 i = b 2 i) ∧ e 2 (x + 1) = y.1 ∧ (z = 2 ∨ z = 4 → e 2 (x + 2) = y.2)
  | .inr (f, k) => r = some (vi f) ∧ (1 ≤ f ∧ f ≤ 6) ∧ ∃ (v : Nat → Int) (e : Nat → Nat → Int), isM o am v a e w' ∧ isTk (e 3) t k v ∧ (∀ i : Nat, ¬ (7 ≤ i ∧ i ≤ 11) → v i = u i) ∧ (∀ i : Nat, ¬ i = 2 → e i = b i) ∧ (∀ i : Nat, ¬ i = x + 1 → ¬ i = x + 2 → e 2 i = b 2 i)
set_option maxHeartbeats 4000000 in
set_option maxRecDepth 100000 in
theorem kX11_figure (l : Launch) (G : GT) (o : Nat) (am : Nat → Nat) (u a : Nat → Int) (b : Nat → Nat → Int) (t j : Nat) (hb : ∀ k : Nat, k < 300 → 0 ≤ b 3 k ∧ b 3 k < 256) (ht : t ≤ 300) (hT : isTk (b 3) t j u) (x : Nat) (hx : x < 2724) (lo hi : Int) (hlo : 0 ≤ lo ∧ lo ≤ 30) (hhi : hi ≤ 30 ∧ 0 ≤ hi) : Ctr l G yX11_figure cX11_figure 4 ((Option.some Jvm.ClassFile.FieldType.int)) 3 0 0 [vr o, vi ((x : Nat) : Int), vi lo, vi hi] (fun w => isM o am u a b w) (fun w r w' => QN o am u a b t x lo hi j w r w' (pNum (tkL (b 3) t) lo hi j)) := by
  refine Ctr.of (t := tX11_figure) (lv0 := [some (vr o), some (vi ((x : Nat) : Int)), some (vi lo), some (vi hi)]) (by decide +kernel) tX11_figure_ok rfl rfl (fun w g hM M => ?_)
  have hr := tk_r hT
  have h1 := tk_1 hT
  have hv1 := fun z => tk_1v hT z
  refine M.run 1 (pc' := 1) (lv' := [some (vr o), some (vi ((x : Nat) : Int)), some (vi lo), some (vi hi)]) (st' := [vr o]) rfl ?_
  refine M.get fl_X11_91 rfl (isM_o hM) (kf := 9) (v := vi (u 9)) rfl ?_
  refine M.run 1 (pc' := 5) (lv' := [some (vr o), some (vi ((x : Nat) : Int)), some (vi lo), some (vi hi)]) (st' := [vi 1, vi (u 9)]) rfl ?_
  refine M.icmp_eq (tgt := 10) rfl (qI (by omega)) (qI (by decide)) rfl (fun hz => ?_) (fun hn => ?_)
  rotate_left
  · skip
    refine M.run 1 (pc' := 9) (lv' := [some (vr o), some (vi ((x : Nat) : Int)), some (vi lo), some (vi hi)]) (st' := [vi 1]) rfl ?_
    refine M.iret rfl (Nat.zero_le _) (Nat.zero_le _) ?_
    rw [pNum_c (fun z => hn (h1.mpr z))]
    exact ⟨rfl, q1_1, rfl, rfl⟩
  have c50 := h1.mp hz
  have hvv := hv1 c50
  refine M.run 1 (pc' := 11) (lv' := [some (vr o), some (vi ((x : Nat) : Int)), some (vi lo), some (vi hi)]) (st' := [vr o]) rfl ?_
  refine M.get fl_X11_98 rfl (isM_o hM) (kf := 10) (v := vi (u 10)) rfl ?_
  refine M.run 2 (pc' := 16) (lv' := [some (vr o), some (vi ((x : Nat) : Int)), some (vi lo), some (vi hi)]) (st' := [vi hi, vi lo, vi (u 10)]) rfl ?_
  refine M.callS (kX11_isIn l G (u 10) lo hi (qI (by omega)) (qI (by omega)) (qI (by omega))) cs_X11_50 cd_X11_isIn rfl (st := []) rfl (by decide) (by decide) rfl (Nat.zero_le _) (Nat.zero_le _) trivial (fun ri wi qi => ?_)
  rw [qi.1, qi.2]
  refine M.if_ne (tgt := 24) rfl (qI (by have := zb_01 (decide (lo ≤ u 10 ∧ u 10 ≤ hi)); omega)) rfl (fun hin => ?_) (fun hin => ?_)
  rotate_left
  · have y := zb_fd hin
    refine M.run 1 (pc' := 23) (lv' := [some (vr o), some (vi ((x : Nat) : Int)), some (vi lo), some (vi hi)]) (st' := [vi 2]) rfl ?_
    refine M.iret rfl (Nat.zero_le _) (Nat.zero_le _) ?_
    rw [pNum_b c50 (by omega)]
    exact ⟨rfl, q1_2, rfl, rfl⟩
  have y := zb_td hin
  have hval : (gTk (tkL (b 3) t) j).2.1 = u 10 := by omega
  refine M.run 1 (pc' := 25) (lv' := [some (vr o), some (vi ((x : Nat) : Int)), some (vi lo), some (vi hi)]) (st' := [vr o]) rfl ?_
  refine M.get fl_X11_16 rfl (isM_o hM) (kf := 2) (v := vr (am 2)) rfl ?_
  refine M.run 2 (pc' := 30) (lv' := [some (vr o), some (vi ((x : Nat) : Int)), some (vi lo), some (vi hi)]) (st' := [vr o, vi ((x : Nat) : Int), vr (am 2)]) rfl ?_
  refine M.get fl_X11_98 rfl (isM_o hM) (kf := 10) (v := vi (u 10)) rfl ?_
  refine M.iastN (x) rfl (isM_2 hM) (by omega) (by decide) ?_
  have hMp1 := isM_setB (k := 2) (t := 0) (n := 2724) hM (by decide) (uN (b 2) x (u 10))
  generalize up w (am 2) (Ar 0 2724 (uN (b 2) x (u 10))) = wp1 at hMp1 ⊢
  refine M.run 1 (pc' := 35) (lv' := [some (vr o), some (vi ((x : Nat) : Int)), some (vi lo), some (vi hi)]) (st' := [vr o]) rfl ?_
  refine M.callV (kX11_nextT l G o am u a (uB b 2 (uN (b 2) x (u 10))) t j hb ht hT (by show ¬ (gTk (tkL (b 3) t) j).1 = 51; rw [c50]; decide)) cv_X11_163 cd_X11_nextToken rfl (st := []) rfl (isM_o hMp1) (by decide) (by decide) rfl (Nat.zero_le _) (Nat.zero_le _) hMp1 (fun rn wn qn => ?_)
  obtain ⟨q1, v, q2, q3, q4⟩ := qn
  rw [q1]
  refine M.run 1 (pc' := 39) (lv' := [some (vr o), some (vi ((x : Nat) : Int)), some (vi lo), some (vi hi)]) (st' := [vi 0]) rfl ?_
  refine M.iret rfl (Nat.zero_le _) (Nat.zero_le _) ?_
  rw [pNum_a c50 (by omega), hval]
  exact ⟨rfl, y, rfl, v, q2, q3, q4⟩
set_option maxHeartbeats 4000000 in
set_option maxRecDepth 100000 in
theorem kX11_blockClause (l : Launch) (G : GT) (o : Nat) (am : Nat → Nat) (u a : Nat → Int) (b : Nat → Nat → Int) (t j : Nat) (hb : ∀ k : Nat, k < 300 → 0 ≤ b 3 k ∧ b 3 k < 256) (ht : t ≤ 300) (hT : isTk (b 3) t j u) (x : Nat) (hx : x + 2 < 2724) : Ctr l G yX11_blockClause cX11_blockClause 3 ((Option.some Jvm.ClassFile.FieldType.int)) 5 0 0 [vr o, vi ((x : Nat) : Int)] (fun w => isM o am u a b w) (fun w r w' => QD2 o am u a b t x 2 r w' (pBo (tkL (b 3) t) 2 j)) := by
  refine Ctr.of (t := tX11_blockClause) (lv0 := [some (vr o), some (vi ((x : Nat) : Int)), none]) (by decide +kernel) tX11_blockClause_ok rfl rfl (fun w g hM M => ?_)
  refine M.run 6 (pc' := 7) (lv' := [some (vr o), some (vi ((x : Nat) : Int)), none]) (st' := [vi 30, vi 0, vi ((x + 1 : Nat) : Int), vr o]) rfl ?_
  have hpb : pBo (tkL (b 3) t) 2 j = _ := if_pos rfl
  refine M.callV (kX11_figure l G o am u a b t (j) (hb) ht (hT) (x + 1) (by omega) 0 30 (by omega) (by omega)) cv_X11_214 cd_X11_figure rfl (st := []) rfl (isM_o hM) (by decide) (by decide) rfl (Nat.zero_le _) (Nat.zero_le _) hM (fun rf wf qf => ?_)
  rcases hE : pNum (tkL (b 3) t) 0 30 j with ⟨y, k⟩ | ⟨f, k⟩
  rotate_left
  · rw [hE] at qf hpb
    obtain ⟨q1, q2, q3, q4⟩ := qf
    rw [q1, q4]
    refine M.run 2 (pc' := 12) (lv' := [some (vr o), some (vi ((x : Nat) : Int)), some (vi f)]) (st' := [vi f]) rfl ?_
    refine M.if_eq (tgt := 17) rfl (qI (by omega)) rfl (fun z => absurd z (by omega)) (fun _ => ?_)
    refine M.run 1 (pc' := 16) (lv' := [some (vr o), some (vi ((x : Nat) : Int)), some (vi f)]) (st' := [vi f]) rfl ?_
    refine M.iret rfl (Nat.zero_le _) (Nat.zero_le _) ?_
    rw [hpb]
    exact ⟨rfl, q2, u, b, hM, by rw [q3]; exact hT, fun _ _ => rfl, fun _ _ => rfl, fun _ _ _ => rfl⟩
  rw [hE] at qf hpb
  obtain ⟨q1, q2, q3, v, hM2, hT2, hk⟩ := qf
  rw [q1]
  generalize he : uB b 2 (uN (b 2) (x + 1) y) = e at hM2
  have e3 : e 3 = b 3 := by rw [← he]; rfl
  have eo : ∀ i : Nat, ¬ i = 2 → e i = b i := fun i hi => by rw [← he]; exact if_neg hi
  have e2 : e 2 = uN (b 2) (x + 1) y := by rw [← he]; rfl
  rw [← e3] at hT2
  refine M.run 2 (pc' := 12) (lv' := [some (vr o), some (vi ((x : Nat) : Int)), some (vi 0)]) (st' := [vi 0]) rfl ?_
  refine M.if_eq (tgt := 17) rfl (qI (by decide)) rfl (fun _ => ?_) (fun z => absurd rfl z)
  refine M.run 3 (pc' := 22) (lv' := [some (vr o), some (vi ((x : Nat) : Int)), some (vi 0)]) (st' := [vi 102, vi 111, vr o]) rfl ?_
  refine M.callS (kX11_w2 l G 111 102 (by decide) (by decide)) cs_X11_114 cd_X11_w2 rfl (st := [vr o]) rfl (by decide) (by decide) rfl (Nat.zero_le _) (Nat.zero_le _) trivial (fun rw1 ww1 qw1 => ?_)
  rw [qw1.1, qw1.2]
  refine M.callV (kX11_isWordT l G o am v a e t k hT2 6 (((111 * 256 + 102) : Nat) : Int) (by decide) (by decide) (by decide)) cv_X11_186 cd_X11_isWord rfl (st := []) rfl (isM_o hM2) (by decide) (by decide) rfl (Nat.zero_le _) (Nat.zero_le _) hM2 (fun rx1 wx1 qx1 => ?_)
  rw [qx1.1, qx1.2]
  rw [e3]
  have hbe : ∀ k : Nat, k < 300 → 0 ≤ e 3 k ∧ e 3 k < 256 := by rw [e3]; exact hb
  refine M.if_ne (tgt := 33) rfl (qI (by have := zb_01 (decide ((gTk (tkL (b 3) t) k).1 = ((6 : Nat) : Int))); omega)) rfl (fun hz => ?_) (fun hn => ?_)
  rotate_left
  · have y6 : ¬ (gTk (tkL (b 3) t) k).1 = 6 := zb_fd hn
    refine M.run 1 (pc' := 32) (lv' := [some (vr o), some (vi ((x : Nat) : Int)), some (vi 0)]) (st' := [vi 1]) rfl ?_
    refine M.iret rfl (Nat.zero_le _) (Nat.zero_le _) ?_
    rw [show pBo (tkL (b 3) t) 2 j = .inr (1, k) from hpb.trans (if_neg y6)]
    exact ⟨rfl, q1_1, v, e, hM2, hT2, hk, eo, fun i h1 _ => by rw [e2]; exact uN_o h1⟩
  have y6 : (gTk (tkL (b 3) t) k).1 = 6 := zb_td hz
  refine M.run 1 (pc' := 34) (lv' := [some (vr o), some (vi ((x : Nat) : Int)), some (vi 0)]) (st' := [vr o]) rfl ?_
  refine M.callV (kX11_nextT l G o am v a e t k hbe ht hT2 (by rw [e3, y6]; decide)) cv_X11_163 cd_X11_nextToken rfl (st := []) rfl (isM_o hM2) (by decide) (by decide) rfl (Nat.zero_le _) (Nat.zero_le _) hM2 (fun rn wn qn => ?_)
  obtain ⟨qn1, v2, hM3, hT3, hk2⟩ := qn
  rw [qn1]
  have hpb2 : pBo (tkL (b 3) t) 2 j = dB (pNum (tkL (b 3) t) (max 1 y) 30 (k + 1)) (fun b k2 => .inl ((y, b), k2)) := hpb.trans (if_pos y6)
  have A64 : g 0 0 wn 64 [some (vr o), some (vi ((x : Nat) : Int)), some (vi 0)] [vi (max 1 y), vi ((x + 2 : Nat) : Int), vr o] := by
    refine M.run 1 (pc' := 66) (lv' := [some (vr o), some (vi ((x : Nat) : Int)), some (vi 0)]) (st' := [vi 30, vi (max 1 y), vi ((x + 2 : Nat) : Int), vr o]) rfl ?_
    refine M.callV (kX11_figure l G o am v2 a e t (k + 1) (hbe) ht (hT3) (x + 2) (by omega) (max 1 y) 30 (by omega) (by omega)) cv_X11_214 cd_X11_figure rfl (st := []) rfl (isM_o hM3) (by decide) (by decide) rfl (Nat.zero_le _) (Nat.zero_le _) hM3 (fun rg wg qg => ?_)
    rw [e3] at qg
    rcases hE2 : pNum (tkL (b 3) t) (max 1 y) 30 (k + 1) with ⟨y2, k2⟩ | ⟨f, k2⟩
    · rw [hE2] at qg hpb2
      obtain ⟨g1, g2, g3, v3, hM4, hT4, hk3⟩ := qg
      rw [g1]
      refine M.iret rfl (Nat.zero_le _) (Nat.zero_le _) ?_
      rw [hpb2]
      refine ⟨rfl, by show (0 ≤ y ∧ y ≤ 30) ∧ 0 ≤ y2 ∧ y2 ≤ 30; omega, v3, _, hM4, ?_, fun i hi => (hk3 i hi).trans ((hk2 i hi).trans (hk i hi)), fun i hi => (if_neg hi).trans (eo i hi), fun i h1 h2 => ?_, ?_, fun _ => uN_s _ _ _⟩
      · exact hT4
      · show uN (e 2) (x + 2) y2 i = b 2 i
        rw [uN_o h2, e2]
        exact uN_o h1
      · show uN (e 2) (x + 2) y2 (x + 1) = y
        rw [uN_o (by omega), e2]
        exact uN_s _ _ _
    · rw [hE2] at qg hpb2
      obtain ⟨g1, g2, g3, g4⟩ := qg
      rw [g1, g4]
      refine M.iret rfl (Nat.zero_le _) (Nat.zero_le _) ?_
      rw [hpb2]
      exact ⟨rfl, g2, v2, e, hM3, by rw [g3]; exact hT3, fun i hi => (hk2 i hi).trans (hk i hi), eo, fun i h1 _ => by rw [e2]; exact uN_o h1⟩
  refine M.run 5 (pc' := 42) (lv' := [some (vr o), some (vi ((x : Nat) : Int)), some (vi 0)]) (st' := [vr o, vi ((x + 2 : Nat) : Int), vr o]) rfl ?_
  refine M.get fl_X11_16 rfl (isM_o hM3) (kf := 2) (v := vr (am 2)) rfl ?_
  refine M.run 3 (pc' := 48) (lv' := [some (vr o), some (vi ((x : Nat) : Int)), some (vi 0)]) (st' := [vi ((x + 1 : Nat) : Int), vr (am 2), vi ((x + 2 : Nat) : Int), vr o]) rfl ?_
  refine M.ialdN (x + 1) rfl (isM_2 hM3) (by omega) (by decide) ?_
  rw [e2, uN_s]
  refine M.if_ne (tgt := 56) rfl (qI (by omega)) rfl (fun hy => ?_) (fun hy => ?_)
  · skip
    refine M.run 1 (pc' := 57) (lv' := [some (vr o), some (vi ((x : Nat) : Int)), some (vi 0)]) (st' := [vr o, vi ((x + 2 : Nat) : Int), vr o]) rfl ?_
    refine M.get fl_X11_16 rfl (isM_o hM3) (kf := 2) (v := vr (am 2)) rfl ?_
    refine M.run 3 (pc' := 63) (lv' := [some (vr o), some (vi ((x : Nat) : Int)), some (vi 0)]) (st' := [vi ((x + 1 : Nat) : Int), vr (am 2), vi ((x + 2 : Nat) : Int), vr o]) rfl ?_
    refine M.ialdN (x + 1) rfl (isM_2 hM3) (by omega) (by decide) ?_
    rw [e2, uN_s, show y = max 1 y by omega]
    skip
    exact A64
  · skip
    refine M.run 2 (pc' := 64) (lv' := [some (vr o), some (vi ((x : Nat) : Int)), some (vi 0)]) (st' := [vi 1, vi ((x + 2 : Nat) : Int), vr o]) rfl ?_
    rw [show (1 : Int) = max 1 y by omega]
    exact A64
set_option maxHeartbeats 4000000 in
set_option maxRecDepth 100000 in
theorem kX11_cancelClause (l : Launch) (G : GT) (o : Nat) (am : Nat → Nat) (u a : Nat → Int) (b : Nat → Nat → Int) (t j : Nat) (hb : ∀ k : Nat, k < 300 → 0 ≤ b 3 k ∧ b 3 k < 256) (ht : t ≤ 300) (hT : isTk (b 3) t j u) (x : Nat) (hx : x + 2 < 2724) : Ctr l G yX11_cancelClause cX11_cancelClause 3 ((Option.some Jvm.ClassFile.FieldType.int)) 5 0 0 [vr o, vi ((x : Nat) : Int)] (fun w => isM o am u a b w) (fun w r w' => QD2 o am u a b t x 4 r w' (pBo (tkL (b 3) t) 4 j)) := by
  refine Ctr.of (t := tX11_cancelClause) (lv0 := [some (vr o), some (vi ((x : Nat) : Int)), none]) (by decide +kernel) tX11_cancelClause_ok rfl rfl (fun w g hM M => ?_)
  refine M.run 6 (pc' := 6) (lv' := [some (vr o), some (vi ((x : Nat) : Int)), none]) (st' := [vi 2, vi 0, vi ((x + 1 : Nat) : Int), vr o]) rfl ?_
  have hpb : pBo (tkL (b 3) t) 4 j = _ := (if_neg (by decide)).trans ((if_neg (by decide)).trans (if_pos rfl))
  refine M.callV (kX11_figure l G o am u a b t (j) (hb) ht (hT) (x + 1) (by omega) 0 2 (by omega) (by omega)) cv_X11_214 cd_X11_figure rfl (st := []) rfl (isM_o hM) (by decide) (by decide) rfl (Nat.zero_le _) (Nat.zero_le _) hM (fun rf wf qf => ?_)
  rcases hE : pNum (tkL (b 3) t) 0 2 j with ⟨y, k⟩ | ⟨f, k⟩
  rotate_left
  · rw [hE] at qf hpb
    obtain ⟨q1, q2, q3, q4⟩ := qf
    rw [q1, q4]
    refine M.run 2 (pc' := 11) (lv' := [some (vr o), some (vi ((x : Nat) : Int)), some (vi f)]) (st' := [vi f]) rfl ?_
    refine M.if_eq (tgt := 16) rfl (qI (by omega)) rfl (fun z => absurd z (by omega)) (fun _ => ?_)
    refine M.run 1 (pc' := 15) (lv' := [some (vr o), some (vi ((x : Nat) : Int)), some (vi f)]) (st' := [vi f]) rfl ?_
    refine M.iret rfl (Nat.zero_le _) (Nat.zero_le _) ?_
    rw [hpb]
    exact ⟨rfl, q2, u, b, hM, by rw [q3]; exact hT, fun _ _ => rfl, fun _ _ => rfl, fun _ _ _ => rfl⟩
  rw [hE] at qf hpb
  obtain ⟨q1, q2, q3, v, hM2, hT2, hk⟩ := qf
  rw [q1]
  generalize he : uB b 2 (uN (b 2) (x + 1) y) = e at hM2
  have e3 : e 3 = b 3 := by rw [← he]; rfl
  have eo : ∀ i : Nat, ¬ i = 2 → e i = b i := fun i hi => by rw [← he]; exact if_neg hi
  have e2 : e 2 = uN (b 2) (x + 1) y := by rw [← he]; rfl
  rw [← e3] at hT2
  refine M.run 2 (pc' := 11) (lv' := [some (vr o), some (vi ((x : Nat) : Int)), some (vi 0)]) (st' := [vi 0]) rfl ?_
  refine M.if_eq (tgt := 16) rfl (qI (by decide)) rfl (fun _ => ?_) (fun z => absurd rfl z)
  refine M.run 3 (pc' := 21) (lv' := [some (vr o), some (vi ((x : Nat) : Int)), some (vi 0)]) (st' := [vi 121, vi 98, vr o]) rfl ?_
  refine M.callS (kX11_w2 l G 98 121 (by decide) (by decide)) cs_X11_114 cd_X11_w2 rfl (st := [vr o]) rfl (by decide) (by decide) rfl (Nat.zero_le _) (Nat.zero_le _) trivial (fun rw1 ww1 qw1 => ?_)
  rw [qw1.1, qw1.2]
  refine M.callV (kX11_isWordT l G o am v a e t k hT2 7 (((98 * 256 + 121) : Nat) : Int) (by decide) (by decide) (by decide)) cv_X11_186 cd_X11_isWord rfl (st := []) rfl (isM_o hM2) (by decide) (by decide) rfl (Nat.zero_le _) (Nat.zero_le _) hM2 (fun rx1 wx1 qx1 => ?_)
  rw [qx1.1, qx1.2]
  rw [e3]
  have hbe : ∀ k : Nat, k < 300 → 0 ≤ e 3 k ∧ e 3 k < 256 := by rw [e3]; exact hb
  refine M.if_ne (tgt := 32) rfl (qI (by have := zb_01 (decide ((gTk (tkL (b 3) t) k).1 = ((7 : Nat) : Int))); omega)) rfl (fun hz => ?_) (fun hn => ?_)
  rotate_left
  · have y6 : ¬ (gTk (tkL (b 3) t) k).1 = 7 := zb_fd hn
    refine M.run 1 (pc' := 31) (lv' := [some (vr o), some (vi ((x : Nat) : Int)), some (vi 0)]) (st' := [vi 1]) rfl ?_
    refine M.iret rfl (Nat.zero_le _) (Nat.zero_le _) ?_
    rw [show pBo (tkL (b 3) t) 4 j = .inr (1, k) from hpb.trans (if_neg y6)]
    exact ⟨rfl, q1_1, v, e, hM2, hT2, hk, eo, fun i h1 _ => by rw [e2]; exact uN_o h1⟩
  have y6 : (gTk (tkL (b 3) t) k).1 = 7 := zb_td hz
  refine M.run 1 (pc' := 33) (lv' := [some (vr o), some (vi ((x : Nat) : Int)), some (vi 0)]) (st' := [vr o]) rfl ?_
  refine M.callV (kX11_nextT l G o am v a e t k hbe ht hT2 (by rw [e3, y6]; decide)) cv_X11_163 cd_X11_nextToken rfl (st := []) rfl (isM_o hM2) (by decide) (by decide) rfl (Nat.zero_le _) (Nat.zero_le _) hM2 (fun rn wn qn => ?_)
  obtain ⟨qn1, v2, hM3, hT3, hk2⟩ := qn
  rw [qn1]
  have hpb2 : pBo (tkL (b 3) t) 4 j = dB (pNum (tkL (b 3) t) 0 1 (k + 1)) (fun b k2 => .inl ((y, b), k2)) := hpb.trans (if_pos y6)
  refine M.run 6 (pc' := 42) (lv' := [some (vr o), some (vi ((x : Nat) : Int)), some (vi 0)]) (st' := [vi 1, vi 0, vi ((x + 2 : Nat) : Int), vr o]) rfl ?_
  refine M.callV (kX11_figure l G o am v2 a e t (k + 1) (hbe) ht (hT3) (x + 2) (by omega) 0 1 (by omega) (by omega)) cv_X11_214 cd_X11_figure rfl (st := []) rfl (isM_o hM3) (by decide) (by decide) rfl (Nat.zero_le _) (Nat.zero_le _) hM3 (fun rg wg qg => ?_)
  rw [e3] at qg
  rcases hE2 : pNum (tkL (b 3) t) 0 1 (k + 1) with ⟨y2, k2⟩ | ⟨f, k2⟩
  · rw [hE2] at qg hpb2
    obtain ⟨g1, g2, g3, v3, hM4, hT4, hk3⟩ := qg
    rw [g1]
    refine M.iret rfl (Nat.zero_le _) (Nat.zero_le _) ?_
    rw [hpb2]
    refine ⟨rfl, by show (0 ≤ y ∧ y ≤ 30) ∧ 0 ≤ y2 ∧ y2 ≤ 30; omega, v3, _, hM4, ?_, fun i hi => (hk3 i hi).trans ((hk2 i hi).trans (hk i hi)), fun i hi => (if_neg hi).trans (eo i hi), fun i h1 h2 => ?_, ?_, fun _ => uN_s _ _ _⟩
    · exact hT4
    · show uN (e 2) (x + 2) y2 i = b 2 i
      rw [uN_o h2, e2]
      exact uN_o h1
    · show uN (e 2) (x + 2) y2 (x + 1) = y
      rw [uN_o (by omega), e2]
      exact uN_s _ _ _
  · rw [hE2] at qg hpb2
    obtain ⟨g1, g2, g3, g4⟩ := qg
    rw [g1, g4]
    refine M.iret rfl (Nat.zero_le _) (Nat.zero_le _) ?_
    rw [hpb2]
    exact ⟨rfl, g2, v2, e, hM3, by rw [g3]; exact hT3, fun i hi => (hk2 i hi).trans (hk i hi), eo, fun i h1 _ => by rw [e2]; exact uN_o h1⟩
/-- what a law leaves -/
def QL2 (o : Nat) (am : Nat → Nat) (u a : Nat → Int) (b : Nat → Nat → Int) (t c0 x : Nat) (C : List (Int × Int)) (r : Option AV) (w' : Wo) : Pr → Prop
  | .inl (y, k) => r = some (vi 0) ∧ ∃ (v : Nat → Int) (e : Nat → Nat → Int), isM o am v a e w' ∧ isTk (e 3) t k v ∧ rF c0 u v b (uB e 2 (b 2)) ∧ (∀ i : Nat, (i < c0 + 73 ∨ c0 + 681 ≤ i) → ¬ i = x + 1 → ¬ i = x + 2 → e 2 i = b 2 i) ∧ v 13 = (((C ++ post y).length : Nat) : Int) ∧ rCl (C ++ post y) (c0 + 73) (e 2) ∧ (C ++ post y).length ≤ k ∧ k ≤ 301 ∧ e 2 (x + 1) = ((C.length : Nat) : Int) ∧ e 2 (x + 2) = (((C ++ post y).length : Nat) : Int)
  | .inr (f, k) => r = some (vi f) ∧ (1 ≤ f ∧ f ≤ 6) ∧ ∃ (v : Nat → Int) (e : Nat → Nat → Int), isM o am v a e w' ∧ isTk (e 3) t k v ∧ rF c0 u v b (uB e 2 (b 2)) ∧ ∀ i : Nat, (i < c0 + 73 ∨ c0 + 681 ≤ i) → ¬ i = x + 1 → ¬ i = x + 2 → e 2 i = b 2 i
set_option maxHeartbeats 4000000 in
set_option maxRecDepth 100000 in
theorem kX11_lawClause (l : Launch) (G : GT) (o : Nat) (am : Nat → Nat) (u a : Nat → Int) (b : Nat → Nat → Int) (t j : Nat) (hb : ∀ k : Nat, k < 300 → 0 ≤ b 3 k ∧ b 3 k < 256) (ht : t ≤ 300) (hT : isTk (b 3) t j u) (c0 : Nat) (C : List (Int × Int)) (ly : Int) (hly : ly = 0 ∨ ly = 1) (h14 : u 14 = ly) (h12 : u 12 = ((c0 : Nat) : Int)) (h13 : u 13 = ((C.length : Nat) : Int)) (hC : rCl C (c0 + 73) (b 2)) (hcj : C.length ≤ j) (hc0 : c0 ≤ 2043) (x : Nat) (hx : c0 + 1 ≤ x ∧ x + 2 < c0 + 73) : Ctr l G yX11_lawClause cX11_lawClause 3 ((Option.some Jvm.ClassFile.FieldType.int)) 10 0 0 [vr o, vi ((x : Nat) : Int)] (fun w => isM o am u a b w) (fun w r w' => QL2 o am u a b t c0 x C r w' ((pLv (tkL (b 3) t) ly 8).2.1 j)) := by
  refine Ctr.of (t := tX11_lawClause) (lv0 := [some (vr o), some (vi ((x : Nat) : Int)), none]) (by decide +kernel) tX11_lawClause_ok rfl rfl (fun w g hM M => ?_)
  refine M.run 1 (pc' := 1) (lv' := [some (vr o), some (vi ((x : Nat) : Int)), none]) (st' := [vr o]) rfl ?_
  refine M.get fl_X11_16 rfl (isM_o hM) (kf := 2) (v := vr (am 2)) rfl ?_
  refine M.run 4 (pc' := 8) (lv' := [some (vr o), some (vi ((x : Nat) : Int)), none]) (st' := [vr o, vi ((x + 1 : Nat) : Int), vr (am 2)]) rfl ?_
  refine M.get fl_X11_133 rfl (isM_o hM) (kf := 13) (v := vi (u 13)) rfl ?_
  rw [h13]
  refine M.iastN (x + 1) rfl (isM_2 hM) (by omega) (by decide) ?_
  have hMp1 := isM_setB (k := 2) (t := 0) (n := 2724) hM (by decide) (uN (b 2) (x + 1) (((C.length : Nat) : Int)))
  generalize up w (am 2) (Ar 0 2724 (uN (b 2) (x + 1) (((C.length : Nat) : Int)))) = wp1 at hMp1 ⊢
  refine M.run 1 (pc' := 13) (lv' := [some (vr o), some (vi ((x : Nat) : Int)), none]) (st' := [vr o]) rfl ?_
  have hx51 := tkL_51 (b := b 3) ht
  have hsum := evM_sum (ly := ly) hx51 C j
  obtain ⟨res, hres, hev⟩ : ∃ res : MR, (match (pLv (tkL (b 3) t) ly 8).2.1 j with | .inl (y, k) => res = .inl (C ++ post y, k) | .inr (f, k) => res = .inr (f, k)) ∧ evM (tkL (b 3) t) ly ([], 0, false, C, j) res := by
    rcases hE : (pLv (tkL (b 3) t) ly 8).2.1 j with ⟨y, k⟩ | ⟨f, k⟩
    · exact ⟨_, rfl, hsum.1 y k hE⟩
    · exact ⟨_, rfl, hsum.2 f k hE⟩
  have hC2 : rCl C (c0 + 73) ((uB b 2 (uN (b 2) (x + 1) (((C.length : Nat) : Int)))) 2) := rCl_e hC (fun i h1 h2 => uN_o (by omega))
  refine M.callV (kX11_summed l G o am u a (uB b 2 (uN (b 2) (x + 1) (((C.length : Nat) : Int)))) t c0 C j ly hly h14 h12 hT h13 hC2 hcj hc0 hb ht res hev) cv_X11_211 cd_X11_summed rfl (st := []) rfl (isM_o hMp1) (by decide) (by decide) rfl (Nat.zero_le _) (Nat.zero_le _) hMp1 (fun rs ws qs => ?_)
  have hFr : ∀ (v : Nat → Int) (e : Nat → Nat → Int), rF c0 u v (uB b 2 (uN (b 2) (x + 1) (((C.length : Nat) : Int)))) e → rF c0 u v b (uB (uB e 2 (uN (e 2) (x + 2) (v 13))) 2 (b 2)) ∧ ∀ i : Nat, (i < c0 + 73 ∨ c0 + 681 ≤ i) → ¬ i = x + 1 → ¬ i = x + 2 → uN (e 2) (x + 2) (v 13) i = b 2 i := fun v e hF => ⟨⟨hF.1, fun k h1 h2 => (if_neg h1).trans ((if_neg h1).trans ((hF.2.1 k h1 h2).trans (if_neg h1))), fun i hi => rfl⟩, fun i h1 h2 h3 => (uN_o h3).trans ((hF.2.2 i h1).trans (uN_o h2))⟩
  rcases hE : (pLv (tkL (b 3) t) ly 8).2.1 j with ⟨y, k⟩ | ⟨f, k⟩
  · rw [hE] at hres
    have hres2 : res = .inl (C ++ post y, k) := hres
    rw [hres2] at qs
    obtain ⟨q1, v, e, hM2, ⟨hT2, k13, kC, kl, k301⟩, hF⟩ := qs
    rw [q1]
    refine M.run 2 (pc' := 18) (lv' := [some (vr o), some (vi ((x : Nat) : Int)), some (vi 0)]) (st' := [vr o]) rfl ?_
    refine M.get fl_X11_16 rfl (isM_o hM2) (kf := 2) (v := vr (am 2)) rfl ?_
    refine M.run 4 (pc' := 25) (lv' := [some (vr o), some (vi ((x : Nat) : Int)), some (vi 0)]) (st' := [vr o, vi ((x + 2 : Nat) : Int), vr (am 2)]) rfl ?_
    refine M.get fl_X11_133 rfl (isM_o hM2) (kf := 13) (v := vi (v 13)) rfl ?_
    refine M.iastN (x + 2) rfl (isM_2 hM2) (by omega) (by decide) ?_
    have hMp2 := isM_setB (k := 2) (t := 0) (n := 2724) hM2 (by decide) (uN (e 2) (x + 2) (v 13))
    generalize up ws (am 2) (Ar 0 2724 (uN (e 2) (x + 2) (v 13))) = wp2 at hMp2 ⊢
    refine M.run 1 (pc' := 30) (lv' := [some (vr o), some (vi ((x : Nat) : Int)), some (vi 0)]) (st' := [vi 0]) rfl ?_
    refine M.iret rfl (Nat.zero_le _) (Nat.zero_le _) ?_
    rw [hE]
    obtain ⟨z1, z2⟩ := hFr v e hF
    refine ⟨rfl, v, _, hMp2, hT2, z1, z2, k13, rCl_e kC (fun i h1 h2 => uN_o (by omega)), kl, k301, ?_, ?_⟩
    · show uN (e 2) (x + 2) (v 13) (x + 1) = _
      rw [uN_o (by omega), hF.2.2 (x + 1) (Or.inl (by omega))]
      exact uN_s _ _ _
    · show uN (e 2) (x + 2) (v 13) (x + 2) = _
      rw [uN_s]
      exact k13
  · rw [hE] at hres
    have hres2 : res = .inr (f, k) := hres
    rw [hres2] at qs
    obtain ⟨q1, q2, v, e, hM2, ⟨hT2, k13, k13b⟩, hF⟩ := qs
    rw [q1]
    refine M.run 2 (pc' := 18) (lv' := [some (vr o), some (vi ((x : Nat) : Int)), some (vi f)]) (st' := [vr o]) rfl ?_
    refine M.get fl_X11_16 rfl (isM_o hM2) (kf := 2) (v := vr (am 2)) rfl ?_
    refine M.run 4 (pc' := 25) (lv' := [some (vr o), some (vi ((x : Nat) : Int)), some (vi f)]) (st' := [vr o, vi ((x + 2 : Nat) : Int), vr (am 2)]) rfl ?_
    refine M.get fl_X11_133 rfl (isM_o hM2) (kf := 13) (v := vi (v 13)) rfl ?_
    refine M.iastN (x + 2) rfl (isM_2 hM2) (by omega) (by decide) ?_
    have hMp3 := isM_setB (k := 2) (t := 0) (n := 2724) hM2 (by decide) (uN (e 2) (x + 2) (v 13))
    generalize up ws (am 2) (Ar 0 2724 (uN (e 2) (x + 2) (v 13))) = wp3 at hMp3 ⊢
    refine M.run 1 (pc' := 30) (lv' := [some (vr o), some (vi ((x : Nat) : Int)), some (vi f)]) (st' := [vi f]) rfl ?_
    refine M.iret rfl (Nat.zero_le _) (Nat.zero_le _) ?_
    rw [hE]
    obtain ⟨z1, z2⟩ := hFr v e hF
    exact ⟨rfl, q2, v, _, hMp3, hT2, z1, z2⟩
