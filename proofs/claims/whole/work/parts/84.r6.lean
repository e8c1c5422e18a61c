theorem isRe_c {o : Nat} {L : List (Int × Int × Int)} {c1 d1 c2 j : Nat} {ly : Int} {r1 r2 : Nat} {f1 f2 : Int} {fc fq : Nat → Int} {w : Wo} (h : isRe o L c1 c2 j ly r1 r2 f1 f2 fc fq w) (e : c1 = d1) : isRe o L d1 c2 j ly r1 r2 f1 f2 fc fq w := by
  subst e
  exact h
def pCho (L : List (Int × Int × Int)) (fe fs : Nat → Pr) (j : Nat) : Pr := match fe j with
  | .inr (s, k) => .inr (s, k)
  | .inl (c, k) => if (gTk L k).1 = 11 then (match fs (k + 1) with
    | .inr (s, k2) => .inr (s, k2)
    | .inl (x, k2) => if (gTk L k2).1 = 12 then (match fs (k2 + 1) with
      | .inr (s, k3) => .inr (s, k3)
      | .inl (z, k3) => if (gTk L k3).1 = 13 then .inl (seE c x z, k3 + 1) else .inr (1, k3)) else .inr (1, k2)) else .inr (1, k)
section QPCH
variable {L : List (Int × Int × Int)} {fe fs : Nat → Pr} {j k k2 k3 : Nat} {c x z : Ex} {s : Int}
theorem pCho_1 (h : fe j = .inr (s, k)) : pCho L fe fs j = .inr (s, k) := by unfold pCho; rw [h]
theorem pCho_2 (h : fe j = .inl (c, k)) (h2 : ¬ (gTk L k).1 = 11) : pCho L fe fs j = .inr (1, k) := by unfold pCho; rw [h]; exact if_neg h2
theorem pCho_3 (h : fe j = .inl (c, k)) (h2 : (gTk L k).1 = 11) (h3 : fs (k + 1) = .inr (s, k2)) : pCho L fe fs j = .inr (s, k2) := by unfold pCho; rw [h]; refine (if_pos h2).trans ?_; rw [h3]
theorem pCho_4 (h : fe j = .inl (c, k)) (h2 : (gTk L k).1 = 11) (h3 : fs (k + 1) = .inl (x, k2)) (h4 : ¬ (gTk L k2).1 = 12) : pCho L fe fs j = .inr (1, k2) := by unfold pCho; rw [h]; refine (if_pos h2).trans ?_; rw [h3]; exact if_neg h4
theorem pCho_5 (h : fe j = .inl (c, k)) (h2 : (gTk L k).1 = 11) (h3 : fs (k + 1) = .inl (x, k2)) (h4 : (gTk L k2).1 = 12) (h5 : fs (k2 + 1) = .inr (s, k3)) : pCho L fe fs j = .inr (s, k3) := by unfold pCho; rw [h]; refine (if_pos h2).trans ?_; rw [h3]; refine (if_pos h4).trans ?_; rw [h5]
theorem pCho_6 (h : fe j = .inl (c, k)) (h2 : (gTk L k).1 = 11) (h3 : fs (k + 1) = .inl (x, k2)) (h4 : (gTk L k2).1 = 12) (h5 : fs (k2 + 1) = .inl (z, k3)) (h6 : ¬ (gTk L k3).1 = 13) : pCho L fe fs j = .inr (1, k3) := by unfold pCho; rw [h]; refine (if_pos h2).trans ?_; rw [h3]; refine (if_pos h4).trans ?_; rw [h5]; exact if_neg h6
theorem pCho_7 (h : fe j = .inl (c, k)) (h2 : (gTk L k).1 = 11) (h3 : fs (k + 1) = .inl (x, k2)) (h4 : (gTk L k2).1 = 12) (h5 : fs (k2 + 1) = .inl (z, k3)) (h6 : (gTk L k3).1 = 13) : pCho L fe fs j = .inl (seE c x z, k3 + 1) := by unfold pCho; rw [h]; refine (if_pos h2).trans ?_; rw [h3]; refine (if_pos h4).trans ?_; rw [h5]; exact if_pos h6
end QPCH
theorem se_at {g1 g2 g3 : Nat → Int} {c1 : Nat} {c x z : Ex} (hc : okE c) (hx : okE x) (hz : okE z) (h1 : cdAt g1 c1 (cdE c c1)) (h2 : cdAt g2 (c1 + 2 * szE c + 2) (cdE x (c1 + 2 * szE c + 2))) (u2 : ∀ i : Nat, i < c1 + 2 * szE c + 2 → g2 i = uN (uN g1 (c1 + 2 * szE c) 61) (c1 + 2 * szE c + 1) 0 i)
    (h3 : cdAt g3 (c1 + 2 * szE c + 2 + 2 * szE x + 2) (cdE z (c1 + 2 * szE c + 2 + 2 * szE x + 2))) (u3 : ∀ i : Nat, i < c1 + 2 * szE c + 2 + 2 * szE x + 2 → g3 i = uN (uN (uN g2 (c1 + 2 * szE c + 2 + 2 * szE x) 62) (c1 + 2 * szE c + 2 + 2 * szE x + 1) 0) (c1 + 2 * szE c + 1) ((c1 + 2 * szE c + 2 + 2 * szE x + 2 : Nat) : Int) i) :
    cdAt (uN g3 (c1 + 2 * szE c + 2 + 2 * szE x + 1) ((c1 + 2 * szE c + 2 + 2 * szE x + 2 + 2 * szE z : Nat) : Int)) c1 (cdE (seE c x z) c1) := by
  show cdAt _ c1 (cdE c c1 ++ ((61, ((c1 + 2 * (szE c + szE x + 2) : Nat) : Int)) :: (cdE x (c1 + 2 * (szE c + 1)) ++ ((62, ((c1 + 2 * (szE c + szE x + szE z + 2) : Nat) : Int)) :: cdE z (c1 + 2 * (szE c + szE x + 2))))))
  rw [show c1 + 2 * (szE c + 1) = c1 + 2 * szE c + 2 by omega, show c1 + 2 * (szE c + szE x + 2) = c1 + 2 * szE c + 2 + 2 * szE x + 2 by omega, show c1 + 2 * (szE c + szE x + szE z + 2) = c1 + 2 * szE c + 2 + 2 * szE x + 2 + 2 * szE z by omega]
  refine cdAt_app _ (cdAt_eq _ h1 (fun i a b => ?_)) ?_
  · rw [hc] at b
    rw [uN_o (by omega), u3 i (by omega), uN_o (by omega), uN_o (by omega), uN_o (by omega), u2 i (by omega), uN_o (by omega), uN_o (by omega)]
  · rw [hc]
    refine ⟨⟨?_, ?_⟩, cdAt_app _ (cdAt_eq _ h2 (fun i a b => ?_)) ?_⟩
    · rw [uN_o (by omega), u3 _ (by omega), uN_o (by omega), uN_o (by omega), uN_o (by omega), u2 _ (by omega), uN_o (by omega), uN_s]
    · rw [uN_o (by omega), u3 _ (by omega), uN_s]
    · rw [hx] at b
      rw [uN_o (by omega), u3 i (by omega), uN_o (by omega), uN_o (by omega), uN_o (by omega)]
    · rw [hx]
      refine ⟨⟨?_, ?_⟩, cdAt_eq _ h3 (fun i a b => ?_)⟩
      · rw [uN_o (by omega), u3 _ (by omega), uN_o (by omega), uN_o (by omega), uN_s]
      · rw [uN_s]
      · rw [uN_o (by omega)]
theorem lf_at {g : Nat → Int} {c1 : Nat} {x v : Int} : cdAt (uN (uN g c1 x) (c1 + 1) v) c1 (cdE (lfE x v) c1) := ⟨⟨by rw [uN_o (by omega), uN_s], by rw [uN_s]⟩, trivial⟩
abbrev isOp (s : Int) : Prop := s = 38 ∨ s = 35 ∨ s = 8 ∨ s = 9 ∨ s = 10
def pOne (L : List (Int × Int × Int)) (ly : Int) (op : Nat) (fs fo fe : Nat → Pr) (j : Nat) : Pr :=
  if isOp (gTk L j).1 ∧ 8 ≤ op then .inr (3, j)
  else if 17 ≤ (gTk L j).1 ∧ (gTk L j).1 ≤ 23 then (if (gTk L j).1 = (if ly = 0 then 23 else 22) then .inr (5, j) else .inl (lfE (gTk L j).1 0, j + 1))
  else if (gTk L j).1 = 50 then (if (gTk L j).2.1 ≤ 9999 then .inl (lfE 50 (gTk L j).2.1, j + 1) else .inr (2, j))
  else if (gTk L j).1 = 38 then (match fs (j + 1) with
    | .inl (e, k) => if (gTk L k).1 = 39 then .inl (e, k + 1) else .inr (1, k)
    | .inr (s, k) => .inr (s, k))
  else if (gTk L j).1 = 35 then (match fo (j + 1) with
    | .inl (e, k) => .inl (unE 60 e, k)
    | .inr (s, k) => .inr (s, k))
  else if (gTk L j).1 = 8 ∨ (gTk L j).1 = 9 then (match fo (j + 1) with
    | .inl (e, k) => .inl (unE (gTk L j).1 e, k)
    | .inr (s, k) => .inr (s, k))
  else if (gTk L j).1 = 10 then fe (j + 1) else .inr (1, j)
section QPON
variable {L : List (Int × Int × Int)} {ly : Int} {op : Nat} {fs fo fe : Nat → Pr} {j k : Nat} {e : Ex} {s : Int}
theorem pOne_d (h : isOp (gTk L j).1 ∧ 8 ≤ op) : pOne L ly op fs fo fe j = .inr (3, j) := by unfold pOne; exact if_pos h
theorem pOne_x (h : ¬ (isOp (gTk L j).1 ∧ 8 ≤ op)) (h2 : 17 ≤ (gTk L j).1 ∧ (gTk L j).1 ≤ 23) (h3 : (gTk L j).1 = (if ly = 0 then 23 else 22)) : pOne L ly op fs fo fe j = .inr (5, j) := by unfold pOne; rw [if_neg h, if_pos h2]; exact if_pos h3
theorem pOne_y (h : ¬ (isOp (gTk L j).1 ∧ 8 ≤ op)) (h2 : 17 ≤ (gTk L j).1 ∧ (gTk L j).1 ≤ 23) (h3 : ¬ (gTk L j).1 = (if ly = 0 then 23 else 22)) : pOne L ly op fs fo fe j = .inl (lfE (gTk L j).1 0, j + 1) := by unfold pOne; rw [if_neg h, if_pos h2]; exact if_neg h3
theorem pOne_f (h2 : (gTk L j).1 = 50) (h3 : (gTk L j).2.1 ≤ 9999) : pOne L ly op fs fo fe j = .inl (lfE 50 (gTk L j).2.1, j + 1) := by unfold pOne; rw [if_neg (by omega), if_neg (by omega), if_pos h2]; exact if_pos h3
theorem pOne_g (h2 : (gTk L j).1 = 50) (h3 : ¬ (gTk L j).2.1 ≤ 9999) : pOne L ly op fs fo fe j = .inr (2, j) := by unfold pOne; rw [if_neg (by omega), if_neg (by omega), if_pos h2]; exact if_neg h3
theorem pOne_b (ho : op < 8) (h2 : (gTk L j).1 = 38) (h3 : fs (j + 1) = .inl (e, k)) (h4 : (gTk L k).1 = 39) : pOne L ly op fs fo fe j = .inl (e, k + 1) := by unfold pOne; rw [if_neg (by omega), if_neg (by omega), if_neg (by omega), if_pos h2, h3]; exact if_pos h4
theorem pOne_c (ho : op < 8) (h2 : (gTk L j).1 = 38) (h3 : fs (j + 1) = .inl (e, k)) (h4 : ¬ (gTk L k).1 = 39) : pOne L ly op fs fo fe j = .inr (1, k) := by unfold pOne; rw [if_neg (by omega), if_neg (by omega), if_neg (by omega), if_pos h2, h3]; exact if_neg h4
theorem pOne_e (ho : op < 8) (h2 : (gTk L j).1 = 38) (h3 : fs (j + 1) = .inr (s, k)) : pOne L ly op fs fo fe j = .inr (s, k) := by unfold pOne; rw [if_neg (by omega), if_neg (by omega), if_neg (by omega), if_pos h2, h3]
theorem pOne_m (ho : op < 8) (h2 : (gTk L j).1 = 35) (h3 : fo (j + 1) = .inl (e, k)) : pOne L ly op fs fo fe j = .inl (unE 60 e, k) := by unfold pOne; rw [if_neg (by omega), if_neg (by omega), if_neg (by omega), if_neg (by omega), if_pos h2, h3]
theorem pOne_n (ho : op < 8) (h2 : (gTk L j).1 = 35) (h3 : fo (j + 1) = .inr (s, k)) : pOne L ly op fs fo fe j = .inr (s, k) := by unfold pOne; rw [if_neg (by omega), if_neg (by omega), if_neg (by omega), if_neg (by omega), if_pos h2, h3]
theorem pOne_u (ho : op < 8) (h2 : (gTk L j).1 = 8 ∨ (gTk L j).1 = 9) (h3 : fo (j + 1) = .inl (e, k)) : pOne L ly op fs fo fe j = .inl (unE (gTk L j).1 e, k) := by unfold pOne; rw [if_neg (by omega), if_neg (by omega), if_neg (by omega), if_neg (by omega), if_neg (by omega), if_pos h2, h3]
theorem pOne_v (ho : op < 8) (h2 : (gTk L j).1 = 8 ∨ (gTk L j).1 = 9) (h3 : fo (j + 1) = .inr (s, k)) : pOne L ly op fs fo fe j = .inr (s, k) := by unfold pOne; rw [if_neg (by omega), if_neg (by omega), if_neg (by omega), if_neg (by omega), if_neg (by omega), if_pos h2, h3]
theorem pOne_i (ho : op < 8) (h2 : (gTk L j).1 = 10) : pOne L ly op fs fo fe j = fe (j + 1) := by unfold pOne; rw [if_neg (by omega), if_neg (by omega), if_neg (by omega), if_neg (by omega), if_neg (by omega), if_neg (by omega)]; exact if_pos h2
theorem pOne_o (h1 : ¬ isOp (gTk L j).1) (h2 : ¬ (17 ≤ (gTk L j).1 ∧ (gTk L j).1 ≤ 23)) (h3 : ¬ (gTk L j).1 = 50) : pOne L ly op fs fo fe j = .inr (1, j) := by unfold pOne; rw [if_neg (by omega), if_neg h2, if_neg h3, if_neg (by omega), if_neg (by omega), if_neg (by omega)]; exact if_neg (by omega)
end QPON

set_option maxHeartbeats 4000000 in
set_option maxRecDepth 100000 in
theorem kX3_choice (l : Launch) (G : GT) (o : Nat) (L : List (Int × Int × Int)) (ly : Int) (op d : Nat) (hd : 3 ≤ d) (hop : op ≤ 100) (hB : tkB L) (hx51 : ∀ j : Nat, (gTk L j).1 ≠ 51 → j ≤ 300) (hd4 : 4 ≤ d) (de ds : Nat) (hds : de < d ∧ ds < d) (fe fs : Nat → Pr) (he : PC l G yX3_either cX3_either 3 de o L ly op fe) (hs : PC l G yX3_sum cX3_sum 4 ds o L ly op fs) : PC l G yX3_choice cX3_choice 4 d o L ly op (pCho L fe fs) := by
  intro c1 c2 j m1 m2 f1 f2 fc fq hc hj
  refine Ctr.of (t := tX3_choice) (lv0 := [some (vr o), some (vi ((op : Nat) : Int)), none, none]) (by decide +kernel) tX3_choice_ok rfl rfl (fun w g hP M => ?_)
  refine M.run 2 (pc' := 2) (lv' := [some (vr o), some (vi ((op : Nat) : Int)), none, none]) (st' := [vi ((op : Nat) : Int), vr o]) rfl ?_
  refine M.callV (he c1 c2 j m1 m2 f1 f2 fc fq (by omega) (by omega)) cv_X3_127 cd_X3_either rfl (st := []) rfl (hP.1) (by omega) (by decide) rfl (Nat.zero_le _) (Nat.zero_le _) hP (fun r1 w1 q1 => ?_)
  rcases hR1 : fe j with ⟨e1, k1⟩ | ⟨s1, k1⟩
  · skip
    rw [hR1] at q1
    obtain ⟨hr1, hg1, ⟨hz1, hy1⟩, hK1, gc1, hS1, hC1, hU1⟩ := q1
    rw [hr1]
    have hG1 := FrR.tr FrR.rf hg1
    refine M.if_eq (tgt := 17) rfl (qI (by decide)) (by decide) (fun q => absurd q (by decide)) (fun _ => ?_)
    refine M.run 2 (pc' := 11) (lv' := [some (vr o), some (vi ((op : Nat) : Int)), none, none]) (st' := [vi 11, vr o]) rfl ?_
    refine M.callV (kX3_take l G o L (c1 + 2 * szE e1) c2 k1 ly m1 m2 f1 f2 gc1 fq (by omega) hB 11 (by omega)) cv_X3_92 cd_X3_take rfl (st := []) rfl (hS1.1) (by omega) (by decide) rfl (Nat.zero_le _) (Nat.zero_le _) hS1 (fun r2 w2 q2 => ?_)
    by_cases hT1 : (gTk L k1).1 = 11
    · skip
      rw [if_pos hT1] at q2
      obtain ⟨hr1_, hS1_, hg1_⟩ := q2
      rw [hr1_]
      have hG1_ := FrR.tr hG1 hg1_
      have hk300 := hx51 k1 (by omega)
      refine M.if_ne (tgt := 19) rfl (qI (by decide)) (by decide) (fun _ => ?_) (fun q => absurd q (by decide))
      refine M.run 1 (pc' := 20) (lv' := [some (vr o), some (vi ((op : Nat) : Int)), none, none]) (st' := [vr o]) rfl ?_
      refine M.get fl_X3_86 rfl hS1_.1 (kf := 3) (v := vi ((c1 + 2 * szE e1 : Nat) : Int)) rfl ?_
      refine M.run 4 (pc' := 28) (lv' := [some (vr o), some (vi ((op : Nat) : Int)), some (vi ((c1 + 2 * szE e1 : Nat) : Int)), none]) (st' := [vi 0, vi 61, vr o]) rfl ?_
      refine M.callV (kX3_emit l G o L (c1 + 2 * szE e1) c2 (k1 + 1) ly m1 m2 f1 f2 gc1 fq (by omega) 61 0 (by omega) (by omega)) cv_X3_114 cd_X3_emit rfl (st := []) rfl hS1_.1 (by omega) (by decide) rfl (Nat.zero_le _) (Nat.zero_le _) hS1_ (fun r4 w5 q6 => ?_)
      obtain ⟨q6r, hR3, q6f⟩ := q6
      rw [q6r]
      have hF3 : FrR o w w5 := FrR.tr hG1_ q6f
      refine M.if_eq (tgt := 51) rfl (qI (by decide)) (by decide) (fun q => absurd q (by decide)) (fun _ => ?_)
      refine M.run 2 (pc' := 36) (lv' := [some (vr o), some (vi ((op : Nat) : Int)), some (vi ((c1 + 2 * szE e1 : Nat) : Int)), none]) (st' := [vi ((op : Nat) : Int), vr o]) rfl ?_
      refine M.callV (hs (c1 + 2 * szE e1 + 2) c2 (k1 + 1) m1 m2 f1 f2 (uN (uN gc1 (c1 + 2 * szE e1) 61) (c1 + 2 * szE e1 + 1) 0) fq (by omega) (by omega)) cv_X3_89 cd_X3_sum rfl (st := []) rfl (hR3.1) (by omega) (by decide) rfl (Nat.zero_le _) (Nat.zero_le _) hR3 (fun r8 w8 q8 => ?_)
      rcases hR2 : fs (k1 + 1) with ⟨e2, k2⟩ | ⟨s2, k2⟩
      · skip
        rw [hR2] at q8
        obtain ⟨hr2, hg2, ⟨hz2, hy2⟩, hK2, gc2, hS2, hC2, hU2⟩ := q8
        rw [hr2]
        have hG2 := FrR.tr hF3 hg2
        refine M.if_eq (tgt := 51) rfl (qI (by decide)) (by decide) (fun q => absurd q (by decide)) (fun _ => ?_)
        refine M.run 2 (pc' := 45) (lv' := [some (vr o), some (vi ((op : Nat) : Int)), some (vi ((c1 + 2 * szE e1 : Nat) : Int)), none]) (st' := [vi 12, vr o]) rfl ?_
        refine M.callV (kX3_take l G o L (c1 + 2 * szE e1 + 2 + 2 * szE e2) c2 k2 ly m1 m2 f1 f2 gc2 fq (by omega) hB 12 (by omega)) cv_X3_92 cd_X3_take rfl (st := []) rfl (hS2.1) (by omega) (by decide) rfl (Nat.zero_le _) (Nat.zero_le _) hS2 (fun r9 w9 q9 => ?_)
        by_cases hT2 : (gTk L k2).1 = 12
        · skip
          rw [if_pos hT2] at q9
          obtain ⟨hr2_, hS2_, hg2_⟩ := q9
          rw [hr2_]
          have hG2_ := FrR.tr hG2 hg2_
          have hk301 := hx51 k2 (by omega)
          refine M.if_ne (tgt := 53) rfl (qI (by decide)) (by decide) (fun _ => ?_) (fun q => absurd q (by decide))
          refine M.run 1 (pc' := 54) (lv' := [some (vr o), some (vi ((op : Nat) : Int)), some (vi ((c1 + 2 * szE e1 : Nat) : Int)), none]) (st' := [vr o]) rfl ?_
          refine M.get fl_X3_86 rfl hS2_.1 (kf := 3) (v := vi ((c1 + 2 * szE e1 + 2 + 2 * szE e2 : Nat) : Int)) rfl ?_
          refine M.run 4 (pc' := 62) (lv' := [some (vr o), some (vi ((op : Nat) : Int)), some (vi ((c1 + 2 * szE e1 : Nat) : Int)), some (vi ((c1 + 2 * szE e1 + 2 + 2 * szE e2 : Nat) : Int))]) (st' := [vi 0, vi 62, vr o]) rfl ?_
          refine M.callV (kX3_emit l G o L (c1 + 2 * szE e1 + 2 + 2 * szE e2) c2 (k2 + 1) ly m1 m2 f1 f2 gc2 fq (by omega) 62 0 (by omega) (by omega)) cv_X3_114 cd_X3_emit rfl (st := []) rfl hS2_.1 (by omega) (by decide) rfl (Nat.zero_le _) (Nat.zero_le _) hS2_ (fun r11 w12 q13 => ?_)
          obtain ⟨q13r, hR10, q13f⟩ := q13
          rw [q13r]
          have hF10 : FrR o w w12 := FrR.tr hG2_ q13f
          refine M.if_ne (tgt := 70) rfl (qI (by decide)) (by decide) (fun _ => ?_) (fun q => absurd q (by decide))
          refine M.run 2 (pc' := 72) (lv' := [some (vr o), some (vi ((op : Nat) : Int)), some (vi ((c1 + 2 * szE e1 : Nat) : Int)), some (vi ((c1 + 2 * szE e1 + 2 + 2 * szE e2 : Nat) : Int))]) (st' := [vi ((c1 + 2 * szE e1 : Nat) : Int), vr o]) rfl ?_
          refine M.callV (kX3_landHere l G o L (c1 + 2 * szE e1 + 2 + 2 * szE e2 + 2) c2 (k2 + 1) ly m1 m2 f1 f2 (uN (uN gc2 (c1 + 2 * szE e1 + 2 + 2 * szE e2) 62) (c1 + 2 * szE e1 + 2 + 2 * szE e2 + 1) 0) fq (c1 + 2 * szE e1) (by omega) (by omega)) cv_X3_130 cd_X3_landHere rfl (st := []) rfl hR10.1 (by omega) (by decide) rfl (Nat.zero_le _) (Nat.zero_le _) hR10 (fun r16 w17 q18 => ?_)
          obtain ⟨q18r, hR15, q18f⟩ := q18
          rw [q18r]
          have hF15 : FrR o w w17 := FrR.tr hF10 q18f
          refine M.run 2 (pc' := 77) (lv' := [some (vr o), some (vi ((op : Nat) : Int)), some (vi ((c1 + 2 * szE e1 : Nat) : Int)), some (vi ((c1 + 2 * szE e1 + 2 + 2 * szE e2 : Nat) : Int))]) (st' := [vi ((op : Nat) : Int), vr o]) rfl ?_
          refine M.callV (hs (c1 + 2 * szE e1 + 2 + 2 * szE e2 + 2) c2 (k2 + 1) m1 m2 f1 f2 (uN (uN (uN gc2 (c1 + 2 * szE e1 + 2 + 2 * szE e2) 62) (c1 + 2 * szE e1 + 2 + 2 * szE e2 + 1) 0) (c1 + 2 * szE e1 + 1) ((c1 + 2 * szE e1 + 2 + 2 * szE e2 + 2 : Nat) : Int)) fq (by omega) (by omega)) cv_X3_89 cd_X3_sum rfl (st := []) rfl (hR15.1) (by omega) (by decide) rfl (Nat.zero_le _) (Nat.zero_le _) hR15 (fun r20 w20 q20 => ?_)
          rcases hR3 : fs (k2 + 1) with ⟨e3, k3⟩ | ⟨s3, k3⟩
          · skip
            rw [hR3] at q20
            obtain ⟨hr3, hg3, ⟨hz3, hy3⟩, hK3, gc3, hS3, hC3, hU3⟩ := q20
            rw [hr3]
            have hG3 := FrR.tr hF15 hg3
            refine M.if_eq (tgt := 92) rfl (qI (by decide)) (by decide) (fun q => absurd q (by decide)) (fun _ => ?_)
            refine M.run 2 (pc' := 86) (lv' := [some (vr o), some (vi ((op : Nat) : Int)), some (vi ((c1 + 2 * szE e1 : Nat) : Int)), some (vi ((c1 + 2 * szE e1 + 2 + 2 * szE e2 : Nat) : Int))]) (st' := [vi 13, vr o]) rfl ?_
            refine M.callV (kX3_take l G o L (c1 + 2 * szE e1 + 2 + 2 * szE e2 + 2 + 2 * szE e3) c2 k3 ly m1 m2 f1 f2 gc3 fq (by omega) hB 13 (by omega)) cv_X3_92 cd_X3_take rfl (st := []) rfl (hS3.1) (by omega) (by decide) rfl (Nat.zero_le _) (Nat.zero_le _) hS3 (fun r21 w21 q21 => ?_)
            by_cases hT3 : (gTk L k3).1 = 13
            · skip
              rw [if_pos hT3] at q21
              obtain ⟨hr3_, hS3_, hg3_⟩ := q21
              rw [hr3_]
              have hG3_ := FrR.tr hG3 hg3_
              have hk302 := hx51 k3 (by omega)
              refine M.if_ne (tgt := 94) rfl (qI (by decide)) (by decide) (fun _ => ?_) (fun q => absurd q (by decide))
              refine M.run 2 (pc' := 96) (lv' := [some (vr o), some (vi ((op : Nat) : Int)), some (vi ((c1 + 2 * szE e1 : Nat) : Int)), some (vi ((c1 + 2 * szE e1 + 2 + 2 * szE e2 : Nat) : Int))]) (st' := [vi ((c1 + 2 * szE e1 + 2 + 2 * szE e2 : Nat) : Int), vr o]) rfl ?_
              refine M.callV (kX3_landHere l G o L (c1 + 2 * szE e1 + 2 + 2 * szE e2 + 2 + 2 * szE e3) c2 (k3 + 1) ly m1 m2 f1 f2 gc3 fq (c1 + 2 * szE e1 + 2 + 2 * szE e2) (by omega) (by omega)) cv_X3_130 cd_X3_landHere rfl (st := []) rfl hS3_.1 (by omega) (by decide) rfl (Nat.zero_le _) (Nat.zero_le _) hS3_ (fun r23 w24 q25 => ?_)
              obtain ⟨q25r, hR22, q25f⟩ := q25
              rw [q25r]
              have hF22 : FrR o w w24 := FrR.tr hG3_ q25f
              refine M.run 1 (pc' := 100) (lv' := [some (vr o), some (vi ((op : Nat) : Int)), some (vi ((c1 + 2 * szE e1 : Nat) : Int)), some (vi ((c1 + 2 * szE e1 + 2 + 2 * szE e2 : Nat) : Int))]) (st' := [vi 1]) rfl ?_
              exact M.zret rfl (Or.inr rfl) (Nat.zero_le _) (Nat.zero_le _) (by show PQ o L c1 c2 j ly m1 m2 f1 f2 fc fq w _ _ ((pCho L fe fs) j); rw [pCho_7 hR1 hT1 hR2 hT2 hR3 hT3]; exact ⟨rfl, hF22, ⟨(by show szE e1 + szE e2 + szE e3 + 2 + j ≤ k3 + 1; omega), by omega⟩, okE_se hK1 hK2 hK3, _, isRe_c hR22 (by show _ = c1 + 2 * (szE e1 + szE e2 + szE e3 + 2); omega), se_at hK1 hK2 hK3 hC1 hC2 hU2 hC3 hU3, fun i hi => by rw [uN_o (by omega), hU3 i (by omega), uN_o (by omega), uN_o (by omega), uN_o (by omega), hU2 i (by omega), uN_o (by omega), uN_o (by omega)]; exact hU1 i hi⟩)
            · skip
              rw [if_neg hT3] at q21
              obtain ⟨hr3_, hS3_, hg3_⟩ := q21
              rw [hr3_]
              have hG3_ := FrR.tr hG3 hg3_
              refine M.if_ne (tgt := 94) rfl (qI (by decide)) (by decide) (fun q => absurd q (by decide)) (fun _ => ?_)
              refine M.run 1 (pc' := 93) (lv' := [some (vr o), some (vi ((op : Nat) : Int)), some (vi ((c1 + 2 * szE e1 : Nat) : Int)), some (vi ((c1 + 2 * szE e1 + 2 + 2 * szE e2 : Nat) : Int))]) (st' := [vi 0]) rfl ?_
              exact M.zret rfl (Or.inl rfl) (Nat.zero_le _) (Nat.zero_le _) (by show PQ o L c1 c2 j ly m1 m2 f1 f2 fc fq w _ _ ((pCho L fe fs) j); rw [pCho_6 hR1 hT1 hR2 hT2 hR3 hT3]; exact ⟨rfl, hG3_, hy3, _, _, hS3_⟩)
          · skip
            rw [hR3] at q20
            obtain ⟨hr3, hg3, hy3, dd3, gc3, hS3⟩ := q20
            rw [hr3]
            have hG3 := FrR.tr hF15 hg3
            refine M.if_eq (tgt := 92) rfl (qI (by decide)) (by decide) (fun _ => ?_) (fun q => absurd q (by decide))
            refine M.run 1 (pc' := 93) (lv' := [some (vr o), some (vi ((op : Nat) : Int)), some (vi ((c1 + 2 * szE e1 : Nat) : Int)), some (vi ((c1 + 2 * szE e1 + 2 + 2 * szE e2 : Nat) : Int))]) (st' := [vi 0]) rfl ?_
            exact M.zret rfl (Or.inl rfl) (Nat.zero_le _) (Nat.zero_le _) (by show PQ o L c1 c2 j ly m1 m2 f1 f2 fc fq w _ _ ((pCho L fe fs) j); rw [pCho_5 hR1 hT1 hR2 hT2 hR3]; exact ⟨rfl, hG3, hy3, _, _, hS3⟩)
        · skip
          rw [if_neg hT2] at q9
          obtain ⟨hr2_, hS2_, hg2_⟩ := q9
          rw [hr2_]
          have hG2_ := FrR.tr hG2 hg2_
          refine M.if_ne (tgt := 53) rfl (qI (by decide)) (by decide) (fun q => absurd q (by decide)) (fun _ => ?_)
          refine M.run 1 (pc' := 52) (lv' := [some (vr o), some (vi ((op : Nat) : Int)), some (vi ((c1 + 2 * szE e1 : Nat) : Int)), none]) (st' := [vi 0]) rfl ?_
          exact M.zret rfl (Or.inl rfl) (Nat.zero_le _) (Nat.zero_le _) (by show PQ o L c1 c2 j ly m1 m2 f1 f2 fc fq w _ _ ((pCho L fe fs) j); rw [pCho_4 hR1 hT1 hR2 hT2]; exact ⟨rfl, hG2_, hy2, _, _, hS2_⟩)
      · skip
        rw [hR2] at q8
        obtain ⟨hr2, hg2, hy2, dd2, gc2, hS2⟩ := q8
        rw [hr2]
        have hG2 := FrR.tr hF3 hg2
        refine M.if_eq (tgt := 51) rfl (qI (by decide)) (by decide) (fun _ => ?_) (fun q => absurd q (by decide))
        refine M.run 1 (pc' := 52) (lv' := [some (vr o), some (vi ((op : Nat) : Int)), some (vi ((c1 + 2 * szE e1 : Nat) : Int)), none]) (st' := [vi 0]) rfl ?_
        exact M.zret rfl (Or.inl rfl) (Nat.zero_le _) (Nat.zero_le _) (by show PQ o L c1 c2 j ly m1 m2 f1 f2 fc fq w _ _ ((pCho L fe fs) j); rw [pCho_3 hR1 hT1 hR2]; exact ⟨rfl, hG2, hy2, _, _, hS2⟩)
    · skip
      rw [if_neg hT1] at q2
      obtain ⟨hr1_, hS1_, hg1_⟩ := q2
      rw [hr1_]
      have hG1_ := FrR.tr hG1 hg1_
      refine M.if_ne (tgt := 19) rfl (qI (by decide)) (by decide) (fun q => absurd q (by decide)) (fun _ => ?_)
      refine M.run 1 (pc' := 18) (lv' := [some (vr o), some (vi ((op : Nat) : Int)), none, none]) (st' := [vi 0]) rfl ?_
      exact M.zret rfl (Or.inl rfl) (Nat.zero_le _) (Nat.zero_le _) (by show PQ o L c1 c2 j ly m1 m2 f1 f2 fc fq w _ _ ((pCho L fe fs) j); rw [pCho_2 hR1 hT1]; exact ⟨rfl, hG1_, hy1, _, _, hS1_⟩)
  · skip
    rw [hR1] at q1
    obtain ⟨hr1, hg1, hy1, dd1, gc1, hS1⟩ := q1
    rw [hr1]
    have hG1 := FrR.tr FrR.rf hg1
    refine M.if_eq (tgt := 17) rfl (qI (by decide)) (by decide) (fun _ => ?_) (fun q => absurd q (by decide))
    refine M.run 1 (pc' := 18) (lv' := [some (vr o), some (vi ((op : Nat) : Int)), none, none]) (st' := [vi 0]) rfl ?_
    exact M.zret rfl (Or.inl rfl) (Nat.zero_le _) (Nat.zero_le _) (by show PQ o L c1 c2 j ly m1 m2 f1 f2 fc fq w _ _ ((pCho L fe fs) j); rw [pCho_1 hR1]; exact ⟨rfl, hG1, hy1, _, _, hS1⟩)
set_option maxHeartbeats 4000000 in
set_option maxRecDepth 100000 in
theorem kX3_one (l : Launch) (G : GT) (o : Nat) (L : List (Int × Int × Int)) (ly : Int) (op d : Nat) (hd : 3 ≤ d) (hop : op ≤ 100) (hB : tkB L) (hx51 : ∀ j : Nat, (gTk L j).1 ≠ 51 → j ≤ 300) (hd4 : 4 ≤ d) (hly : 0 ≤ ly ∧ ly ≤ 1) (hop8 : op ≤ 8) (ds do_ de : Nat) (hds : ds < d ∧ do_ < d ∧ de < d) (fs fo fe : Nat → Pr) (hs : op < 8 → PC l G yX3_sum cX3_sum 4 ds o L ly (op + 1) fs) (ho : op < 8 → PC l G yX3_one cX3_one 5 do_ o L ly (op + 1) fo) (he : op < 8 → PC l G yX3_choice cX3_choice 4 de o L ly (op + 1) fe) : PC l G yX3_one cX3_one 5 d o L ly op (pOne L ly op fs fo fe) := by
  intro c1 c2 j m1 m2 f1 f2 fc fq hc hj
  obtain ⟨⟨ht1, ht2⟩, ⟨hv1, hv2⟩, _⟩ := hB j
  refine Ctr.of (t := tX3_one) (lv0 := [some (vr o), some (vi ((op : Nat) : Int)), none, none, none]) (by decide +kernel) tX3_one_ok rfl rfl (fun w g hP M => ?_)
  refine M.run 1 (pc' := 1) (lv' := [some (vr o), some (vi ((op : Nat) : Int)), none, none, none]) (st' := [vr o]) rfl ?_
  refine M.get fl_X3_12 rfl hP.1 (kf := 0) (v := vr (o + 1)) rfl ?_
  refine M.run 1 (pc' := 5) (lv' := [some (vr o), some (vi ((op : Nat) : Int)), none, none, none]) (st' := [vr o, vr (o + 1)]) rfl ?_
  refine M.get fl_X3_38 rfl hP.1 (kf := 5) (v := vi ((j : Nat) : Int)) rfl ?_
  obtain ⟨_, _, _, hKo, _⟩ := id hP.2.2.2
  refine M.callV (kX8_sort l G (o + 1) (o + 2) (o + 3) (o + 4) (ap4_o o) L j (by omega)) cv_X3_51 cd_X8_sort rfl (st := []) rfl hKo (by omega) (by decide) rfl (Nat.zero_le _) (Nat.zero_le _) hP.2.2.2 (fun r1 w2 q3 => ?_)
  rw [q3.1, q3.2]
  refine M.run 2 (pc' := 13) (lv' := [some (vr o), some (vi ((op : Nat) : Int)), some (vi ((gTk L j).1)), none, none]) (st' := [vr o]) rfl ?_
  refine M.get fl_X3_12 rfl hP.1 (kf := 0) (v := vr (o + 1)) rfl ?_
  refine M.run 1 (pc' := 17) (lv' := [some (vr o), some (vi ((op : Nat) : Int)), some (vi ((gTk L j).1)), none, none]) (st' := [vr o, vr (o + 1)]) rfl ?_
  refine M.get fl_X3_38 rfl hP.1 (kf := 5) (v := vi ((j : Nat) : Int)) rfl ?_
  obtain ⟨_, _, _, hKo, _⟩ := id hP.2.2.2
  refine M.callV (kX8_value l G (o + 1) (o + 2) (o + 3) (o + 4) (ap4_o o) L j (by omega)) cv_X3_108 cd_X8_value rfl (st := []) rfl hKo (by omega) (by decide) rfl (Nat.zero_le _) (Nat.zero_le _) hP.2.2.2 (fun r5 w6 q7 => ?_)
  rw [q7.1, q7.2]
  refine M.run 3 (pc' := 27) (lv' := [some (vr o), some (vi ((op : Nat) : Int)), some (vi ((gTk L j).1)), some (vi ((gTk L j).2.1)), none]) (st' := [vi 38, vi ((gTk L j).1)]) rfl ?_
  refine M.icmp_eq (tgt := 54) rfl (qI (by omega)) (qI (by decide)) (by decide) (fun h27 => ?_) (fun h27 => ?_)
  · skip
    refine M.run 4 (pc' := 63) (lv' := [some (vr o), some (vi ((op : Nat) : Int)), some (vi ((gTk L j).1)), some (vi ((gTk L j).2.1)), some (vi 1)]) (st' := [vi 1]) rfl ?_
    refine M.if_eq (tgt := 78) rfl (qI (by decide)) (by decide) (fun q => absurd q (by decide)) (fun _ => ?_)
    refine M.run 2 (pc' := 69) (lv' := [some (vr o), some (vi ((op : Nat) : Int)), some (vi ((gTk L j).1)), some (vi ((gTk L j).2.1)), some (vi 1)]) (st' := [vi 8, vi ((op : Nat) : Int)]) rfl ?_
    refine M.icmp_lt (tgt := 78) rfl (qI (by omega)) (qI (by decide)) (by decide) (fun h69 => ?_) (fun h69 => ?_)
    · skip
      refine M.run 2 (pc' := 81) (lv' := [some (vr o), some (vi ((op : Nat) : Int)), some (vi ((gTk L j).1)), some (vi ((gTk L j).2.1)), some (vi 1)]) (st' := [vi 17, vi ((gTk L j).1)]) rfl ?_
      refine M.icmp_lt (tgt := 96) rfl (qI (by omega)) (qI (by decide)) (by decide) (fun h81 => ?_) (fun h81 => ?_)
      · skip
        refine M.run 1 (pc' := 97) (lv' := [some (vr o), some (vi ((op : Nat) : Int)), some (vi ((gTk L j).1)), some (vi ((gTk L j).2.1)), some (vi 1)]) (st' := [vi ((gTk L j).1)]) rfl ?_
        by_cases hs97_0 : (gTk L j).1 = 8
        · refine M.lsw (tgt := 258) (off := 161) rfl (qI (by omega)) (by decide) (by rw [hs97_0]; rfl) (by decide) ?_
          have hk300 := hx51 j (by omega)
          refine M.run 2 (pc' := 260) (lv' := [some (vr o), some (vi ((op : Nat) : Int)), some (vi ((gTk L j).1)), some (vi ((gTk L j).2.1)), some (vi 1)]) (st' := [vr o, vr o]) rfl ?_
          refine M.get fl_X3_38 rfl hP.1 (kf := 5) (v := vi ((j : Nat) : Int)) rfl ?_
          refine M.run 2 (pc' := 265) (lv' := [some (vr o), some (vi ((op : Nat) : Int)), some (vi ((gTk L j).1)), some (vi ((gTk L j).2.1)), some (vi 1)]) (st' := [vi (((j : Nat) : Int) + 1), vr o]) rfl ?_
          rw [show ((j : Nat) : Int) + 1 = ((j + 1 : Nat) : Int) from by omega]
          refine M.put fl_X3_38 rfl (hP.1) rfl rfl (Nat.le_of_ble_eq_true rfl) ?_
          change g 0 0 (up w o (Ob 2 [vr (o + 1), vr (o + 5), vr (o + 6), vi ((c1 : Nat) : Int), vi ((c2 : Nat) : Int), vi ((j + 1 : Nat) : Int), vi ly, vr m1, vr m2, vi f1, vi f2])) 268 [some (vr o), some (vi ((op : Nat) : Int)), some (vi ((gTk L j).1)), some (vi ((gTk L j).2.1)), some (vi 1)] []
          have hR9 : isRe o L c1 c2 (j + 1) ly m1 m2 f1 f2 fc fq (up w o (Ob 2 [vr (o + 1), vr (o + 5), vr (o + 6), vi ((c1 : Nat) : Int), vi ((c2 : Nat) : Int), vi ((j + 1 : Nat) : Int), vi ly, vr m1, vr m2, vi f1, vi f2])) := isRe_1 hP
          have hF9 : FrR o w (up w o (Ob 2 [vr (o + 1), vr (o + 5), vr (o + 6), vi ((c1 : Nat) : Int), vi ((c2 : Nat) : Int), vi ((j + 1 : Nat) : Int), vi ly, vr m1, vr m2, vi f1, vi f2])) := FrR.u FrR.rf o (by omega)
          generalize up w o (Ob 2 [vr (o + 1), vr (o + 5), vr (o + 6), vi ((c1 : Nat) : Int), vi ((c2 : Nat) : Int), vi ((j + 1 : Nat) : Int), vi ly, vr m1, vr m2, vi f1, vi f2]) = w9 at hR9 hF9 ⊢
          refine M.run 4 (pc' := 272) (lv' := [some (vr o), some (vi ((op : Nat) : Int)), some (vi ((gTk L j).1)), some (vi ((gTk L j).2.1)), some (vi 1)]) (st' := [vi (((op : Nat) : Int) + 1), vr o]) rfl ?_
          rw [show ((op : Nat) : Int) + 1 = ((op + 1 : Nat) : Int) from (by omega)]
          refine M.callV (ho (by omega) c1 c2 (j + 1) m1 m2 f1 f2 fc fq (by omega) (by omega)) cv_X3_118 cd_X3_one rfl (st := []) rfl (hR9.1) (by omega) (by decide) rfl (Nat.zero_le _) (Nat.zero_le _) hR9 (fun r10 w10 q10 => ?_)
          rcases hR1 : fo (j + 1) with ⟨e1, k1⟩ | ⟨s1, k1⟩
          · skip
            rw [hR1] at q10
            obtain ⟨hr1, hg1, ⟨hz1, hy1⟩, hK1, gc1, hS1, hC1, hU1⟩ := q10
            rw [hr1]
            have hG1 := FrR.tr hF9 hg1
            refine M.if_eq (tgt := 291) rfl (qI (by decide)) (by decide) (fun q => absurd q (by decide)) (fun _ => ?_)
            refine M.run 3 (pc' := 281) (lv' := [some (vr o), some (vi ((op : Nat) : Int)), some (vi ((gTk L j).1)), some (vi ((gTk L j).2.1)), some (vi 1)]) (st' := [vi 0, vi ((gTk L j).1), vr o]) rfl ?_
            refine M.callV (kX3_emit l G o L (c1 + 2 * szE e1) c2 k1 ly m1 m2 f1 f2 gc1 fq (by omega) ((gTk L j).1) 0 (by omega) (by omega)) cv_X3_114 cd_X3_emit rfl (st := []) rfl hS1.1 (by omega) (by decide) rfl (Nat.zero_le _) (Nat.zero_le _) hS1 (fun r12 w13 q14 => ?_)
            obtain ⟨q14r, hR11, q14f⟩ := q14
            rw [q14r]
            have hF11 : FrR o w w13 := FrR.tr hG1 q14f
            refine M.if_eq (tgt := 291) rfl (qI (by decide)) (by decide) (fun q => absurd q (by decide)) (fun _ => ?_)
            refine M.run 2 (pc' := 292) (lv' := [some (vr o), some (vi ((op : Nat) : Int)), some (vi ((gTk L j).1)), some (vi ((gTk L j).2.1)), some (vi 1)]) (st' := [vi 1]) rfl ?_
            exact M.zret rfl (Or.inr rfl) (Nat.zero_le _) (Nat.zero_le _) (by show PQ o L c1 c2 j ly m1 m2 f1 f2 fc fq w _ _ ((pOne L ly op fs fo fe) j); rw [pOne_u (by omega) (by omega) hR1]; exact ⟨rfl, hF11, ⟨(by show szE e1 + 1 + j ≤ k1; omega), hy1⟩, okE_un hK1, _, (by have hq9 := hR11; rw [show c1 + 2 * szE e1 + 2 = c1 + 2 * szE (unE (gTk L j).1 e1) from by show _ = c1 + 2 * (szE e1 + 1); omega] at hq9; exact hq9), un_at hK1 hC1, fun i hi => by rw [uN_o (by omega), uN_o (by omega)]; exact hU1 i hi⟩)
          · skip
            rw [hR1] at q10
            obtain ⟨hr1, hg1, hy1, dd1, gc1, hS1⟩ := q10
            rw [hr1]
            have hG1 := FrR.tr hF9 hg1
            refine M.if_eq (tgt := 291) rfl (qI (by decide)) (by decide) (fun _ => ?_) (fun q => absurd q (by decide))
            refine M.run 1 (pc' := 292) (lv' := [some (vr o), some (vi ((op : Nat) : Int)), some (vi ((gTk L j).1)), some (vi ((gTk L j).2.1)), some (vi 1)]) (st' := [vi 0]) rfl ?_
            exact M.zret rfl (Or.inl rfl) (Nat.zero_le _) (Nat.zero_le _) (by show PQ o L c1 c2 j ly m1 m2 f1 f2 fc fq w _ _ ((pOne L ly op fs fo fe) j); rw [pOne_v (by omega) (by omega) hR1]; exact ⟨rfl, hG1, hy1, _, _, hS1⟩)
        by_cases hs97_1 : (gTk L j).1 = 9
        · refine M.lsw (tgt := 258) (off := 161) rfl (qI (by omega)) (by decide) (by rw [hs97_1]; rfl) (by decide) ?_
          have hk300 := hx51 j (by omega)
          refine M.run 2 (pc' := 260) (lv' := [some (vr o), some (vi ((op : Nat) : Int)), some (vi ((gTk L j).1)), some (vi ((gTk L j).2.1)), some (vi 1)]) (st' := [vr o, vr o]) rfl ?_
          refine M.get fl_X3_38 rfl hP.1 (kf := 5) (v := vi ((j : Nat) : Int)) rfl ?_
          refine M.run 2 (pc' := 265) (lv' := [some (vr o), some (vi ((op : Nat) : Int)), some (vi ((gTk L j).1)), some (vi ((gTk L j).2.1)), some (vi 1)]) (st' := [vi (((j : Nat) : Int) + 1), vr o]) rfl ?_
          rw [show ((j : Nat) : Int) + 1 = ((j + 1 : Nat) : Int) from by omega]
          refine M.put fl_X3_38 rfl (hP.1) rfl rfl (Nat.le_of_ble_eq_true rfl) ?_
          change g 0 0 (up w o (Ob 2 [vr (o + 1), vr (o + 5), vr (o + 6), vi ((c1 : Nat) : Int), vi ((c2 : Nat) : Int), vi ((j + 1 : Nat) : Int), vi ly, vr m1, vr m2, vi f1, vi f2])) 268 [some (vr o), some (vi ((op : Nat) : Int)), some (vi ((gTk L j).1)), some (vi ((gTk L j).2.1)), some (vi 1)] []
          have hR16 : isRe o L c1 c2 (j + 1) ly m1 m2 f1 f2 fc fq (up w o (Ob 2 [vr (o + 1), vr (o + 5), vr (o + 6), vi ((c1 : Nat) : Int), vi ((c2 : Nat) : Int), vi ((j + 1 : Nat) : Int), vi ly, vr m1, vr m2, vi f1, vi f2])) := isRe_1 hP
          have hF16 : FrR o w (up w o (Ob 2 [vr (o + 1), vr (o + 5), vr (o + 6), vi ((c1 : Nat) : Int), vi ((c2 : Nat) : Int), vi ((j + 1 : Nat) : Int), vi ly, vr m1, vr m2, vi f1, vi f2])) := FrR.u FrR.rf o (by omega)
          generalize up w o (Ob 2 [vr (o + 1), vr (o + 5), vr (o + 6), vi ((c1 : Nat) : Int), vi ((c2 : Nat) : Int), vi ((j + 1 : Nat) : Int), vi ly, vr m1, vr m2, vi f1, vi f2]) = w16 at hR16 hF16 ⊢
          refine M.run 4 (pc' := 272) (lv' := [some (vr o), some (vi ((op : Nat) : Int)), some (vi ((gTk L j).1)), some (vi ((gTk L j).2.1)), some (vi 1)]) (st' := [vi (((op : Nat) : Int) + 1), vr o]) rfl ?_
          rw [show ((op : Nat) : Int) + 1 = ((op + 1 : Nat) : Int) from (by omega)]
          refine M.callV (ho (by omega) c1 c2 (j + 1) m1 m2 f1 f2 fc fq (by omega) (by omega)) cv_X3_118 cd_X3_one rfl (st := []) rfl (hR16.1) (by omega) (by decide) rfl (Nat.zero_le _) (Nat.zero_le _) hR16 (fun r17 w17 q17 => ?_)
          rcases hR1 : fo (j + 1) with ⟨e1, k1⟩ | ⟨s1, k1⟩
          · skip
            rw [hR1] at q17
            obtain ⟨hr1, hg1, ⟨hz1, hy1⟩, hK1, gc1, hS1, hC1, hU1⟩ := q17
            rw [hr1]
            have hG1 := FrR.tr hF16 hg1
            refine M.if_eq (tgt := 291) rfl (qI (by decide)) (by decide) (fun q => absurd q (by decide)) (fun _ => ?_)
            refine M.run 3 (pc' := 281) (lv' := [some (vr o), some (vi ((op : Nat) : Int)), some (vi ((gTk L j).1)), some (vi ((gTk L j).2.1)), some (vi 1)]) (st' := [vi 0, vi ((gTk L j).1), vr o]) rfl ?_
            refine M.callV (kX3_emit l G o L (c1 + 2 * szE e1) c2 k1 ly m1 m2 f1 f2 gc1 fq (by omega) ((gTk L j).1) 0 (by omega) (by omega)) cv_X3_114 cd_X3_emit rfl (st := []) rfl hS1.1 (by omega) (by decide) rfl (Nat.zero_le _) (Nat.zero_le _) hS1 (fun r19 w20 q21 => ?_)
            obtain ⟨q21r, hR18, q21f⟩ := q21
            rw [q21r]
            have hF18 : FrR o w w20 := FrR.tr hG1 q21f
            refine M.if_eq (tgt := 291) rfl (qI (by decide)) (by decide) (fun q => absurd q (by decide)) (fun _ => ?_)
            refine M.run 2 (pc' := 292) (lv' := [some (vr o), some (vi ((op : Nat) : Int)), some (vi ((gTk L j).1)), some (vi ((gTk L j).2.1)), some (vi 1)]) (st' := [vi 1]) rfl ?_
            exact M.zret rfl (Or.inr rfl) (Nat.zero_le _) (Nat.zero_le _) (by show PQ o L c1 c2 j ly m1 m2 f1 f2 fc fq w _ _ ((pOne L ly op fs fo fe) j); rw [pOne_u (by omega) (by omega) hR1]; exact ⟨rfl, hF18, ⟨(by show szE e1 + 1 + j ≤ k1; omega), hy1⟩, okE_un hK1, _, (by have hq9 := hR18; rw [show c1 + 2 * szE e1 + 2 = c1 + 2 * szE (unE (gTk L j).1 e1) from by show _ = c1 + 2 * (szE e1 + 1); omega] at hq9; exact hq9), un_at hK1 hC1, fun i hi => by rw [uN_o (by omega), uN_o (by omega)]; exact hU1 i hi⟩)
          · skip
            rw [hR1] at q17
            obtain ⟨hr1, hg1, hy1, dd1, gc1, hS1⟩ := q17
            rw [hr1]
            have hG1 := FrR.tr hF16 hg1
            refine M.if_eq (tgt := 291) rfl (qI (by decide)) (by decide) (fun _ => ?_) (fun q => absurd q (by decide))
            refine M.run 1 (pc' := 292) (lv' := [some (vr o), some (vi ((op : Nat) : Int)), some (vi ((gTk L j).1)), some (vi ((gTk L j).2.1)), some (vi 1)]) (st' := [vi 0]) rfl ?_
            exact M.zret rfl (Or.inl rfl) (Nat.zero_le _) (Nat.zero_le _) (by show PQ o L c1 c2 j ly m1 m2 f1 f2 fc fq w _ _ ((pOne L ly op fs fo fe) j); rw [pOne_v (by omega) (by omega) hR1]; exact ⟨rfl, hG1, hy1, _, _, hS1⟩)
        by_cases hs97_2 : (gTk L j).1 = 10
        · refine M.lsw (tgt := 293) (off := 196) rfl (qI (by omega)) (by decide) (by rw [hs97_2]; rfl) (by decide) ?_
          have hk300 := hx51 j (by omega)
          refine M.run 2 (pc' := 295) (lv' := [some (vr o), some (vi ((op : Nat) : Int)), some (vi ((gTk L j).1)), some (vi ((gTk L j).2.1)), some (vi 1)]) (st' := [vr o, vr o]) rfl ?_
          refine M.get fl_X3_38 rfl hP.1 (kf := 5) (v := vi ((j : Nat) : Int)) rfl ?_
          refine M.run 2 (pc' := 300) (lv' := [some (vr o), some (vi ((op : Nat) : Int)), some (vi ((gTk L j).1)), some (vi ((gTk L j).2.1)), some (vi 1)]) (st' := [vi (((j : Nat) : Int) + 1), vr o]) rfl ?_
          rw [show ((j : Nat) : Int) + 1 = ((j + 1 : Nat) : Int) from by omega]
          refine M.put fl_X3_38 rfl (hP.1) rfl rfl (Nat.le_of_ble_eq_true rfl) ?_
          change g 0 0 (up w o (Ob 2 [vr (o + 1), vr (o + 5), vr (o + 6), vi ((c1 : Nat) : Int), vi ((c2 : Nat) : Int), vi ((j + 1 : Nat) : Int), vi ly, vr m1, vr m2, vi f1, vi f2])) 303 [some (vr o), some (vi ((op : Nat) : Int)), some (vi ((gTk L j).1)), some (vi ((gTk L j).2.1)), some (vi 1)] []
          have hR23 : isRe o L c1 c2 (j + 1) ly m1 m2 f1 f2 fc fq (up w o (Ob 2 [vr (o + 1), vr (o + 5), vr (o + 6), vi ((c1 : Nat) : Int), vi ((c2 : Nat) : Int), vi ((j + 1 : Nat) : Int), vi ly, vr m1, vr m2, vi f1, vi f2])) := isRe_1 hP
          have hF23 : FrR o w (up w o (Ob 2 [vr (o + 1), vr (o + 5), vr (o + 6), vi ((c1 : Nat) : Int), vi ((c2 : Nat) : Int), vi ((j + 1 : Nat) : Int), vi ly, vr m1, vr m2, vi f1, vi f2])) := FrR.u FrR.rf o (by omega)
          generalize up w o (Ob 2 [vr (o + 1), vr (o + 5), vr (o + 6), vi ((c1 : Nat) : Int), vi ((c2 : Nat) : Int), vi ((j + 1 : Nat) : Int), vi ly, vr m1, vr m2, vi f1, vi f2]) = w23 at hR23 hF23 ⊢
          refine M.run 4 (pc' := 307) (lv' := [some (vr o), some (vi ((op : Nat) : Int)), some (vi ((gTk L j).1)), some (vi ((gTk L j).2.1)), some (vi 1)]) (st' := [vi (((op : Nat) : Int) + 1), vr o]) rfl ?_
          rw [show ((op : Nat) : Int) + 1 = ((op + 1 : Nat) : Int) from (by omega)]
          refine M.callV (he (by omega) c1 c2 (j + 1) m1 m2 f1 f2 fc fq (by omega) (by omega)) cv_X3_124 cd_X3_choice rfl (st := []) rfl (hR23.1) (by omega) (by decide) rfl (Nat.zero_le _) (Nat.zero_le _) hR23 (fun r24 w24 q24 => ?_)
          rcases hR1 : fe (j + 1) with ⟨e1, k1⟩ | ⟨s1, k1⟩
          · skip
            rw [hR1] at q24
            obtain ⟨hr1, hg1, ⟨hz1, hy1⟩, hK1, gc1, hS1, hC1, hU1⟩ := q24
            rw [hr1]
            have hG1 := FrR.tr hF23 hg1
            exact M.zret rfl (Or.inr rfl) (Nat.zero_le _) (Nat.zero_le _) (by show PQ o L c1 c2 j ly m1 m2 f1 f2 fc fq w _ _ ((pOne L ly op fs fo fe) j); rw [pOne_i (by omega) (by omega), hR1]; exact ⟨rfl, hG1, ⟨by omega, hy1⟩, hK1, _, hS1, hC1, hU1⟩)
          · skip
            rw [hR1] at q24
            obtain ⟨hr1, hg1, hy1, dd1, gc1, hS1⟩ := q24
            rw [hr1]
            have hG1 := FrR.tr hF23 hg1
            exact M.zret rfl (Or.inl rfl) (Nat.zero_le _) (Nat.zero_le _) (by show PQ o L c1 c2 j ly m1 m2 f1 f2 fc fq w _ _ ((pOne L ly op fs fo fe) j); rw [pOne_i (by omega) (by omega), hR1]; exact ⟨rfl, hG1, hy1, _, _, hS1⟩)
        by_cases hs97_3 : (gTk L j).1 = 35
        · refine M.lsw (tgt := 222) (off := 125) rfl (qI (by omega)) (by decide) (by rw [hs97_3]; rfl) (by decide) ?_
          have hk300 := hx51 j (by omega)
          refine M.run 2 (pc' := 224) (lv' := [some (vr o), some (vi ((op : Nat) : Int)), some (vi ((gTk L j).1)), some (vi ((gTk L j).2.1)), some (vi 1)]) (st' := [vr o, vr o]) rfl ?_
          refine M.get fl_X3_38 rfl hP.1 (kf := 5) (v := vi ((j : Nat) : Int)) rfl ?_
          refine M.run 2 (pc' := 229) (lv' := [some (vr o), some (vi ((op : Nat) : Int)), some (vi ((gTk L j).1)), some (vi ((gTk L j).2.1)), some (vi 1)]) (st' := [vi (((j : Nat) : Int) + 1), vr o]) rfl ?_
          rw [show ((j : Nat) : Int) + 1 = ((j + 1 : Nat) : Int) from by omega]
          refine M.put fl_X3_38 rfl (hP.1) rfl rfl (Nat.le_of_ble_eq_true rfl) ?_
          change g 0 0 (up w o (Ob 2 [vr (o + 1), vr (o + 5), vr (o + 6), vi ((c1 : Nat) : Int), vi ((c2 : Nat) : Int), vi ((j + 1 : Nat) : Int), vi ly, vr m1, vr m2, vi f1, vi f2])) 232 [some (vr o), some (vi ((op : Nat) : Int)), some (vi ((gTk L j).1)), some (vi ((gTk L j).2.1)), some (vi 1)] []
          have hR25 : isRe o L c1 c2 (j + 1) ly m1 m2 f1 f2 fc fq (up w o (Ob 2 [vr (o + 1), vr (o + 5), vr (o + 6), vi ((c1 : Nat) : Int), vi ((c2 : Nat) : Int), vi ((j + 1 : Nat) : Int), vi ly, vr m1, vr m2, vi f1, vi f2])) := isRe_1 hP
          have hF25 : FrR o w (up w o (Ob 2 [vr (o + 1), vr (o + 5), vr (o + 6), vi ((c1 : Nat) : Int), vi ((c2 : Nat) : Int), vi ((j + 1 : Nat) : Int), vi ly, vr m1, vr m2, vi f1, vi f2])) := FrR.u FrR.rf o (by omega)
          generalize up w o (Ob 2 [vr (o + 1), vr (o + 5), vr (o + 6), vi ((c1 : Nat) : Int), vi ((c2 : Nat) : Int), vi ((j + 1 : Nat) : Int), vi ly, vr m1, vr m2, vi f1, vi f2]) = w25 at hR25 hF25 ⊢
          refine M.run 4 (pc' := 236) (lv' := [some (vr o), some (vi ((op : Nat) : Int)), some (vi ((gTk L j).1)), some (vi ((gTk L j).2.1)), some (vi 1)]) (st' := [vi (((op : Nat) : Int) + 1), vr o]) rfl ?_
          rw [show ((op : Nat) : Int) + 1 = ((op + 1 : Nat) : Int) from (by omega)]
          refine M.callV (ho (by omega) c1 c2 (j + 1) m1 m2 f1 f2 fc fq (by omega) (by omega)) cv_X3_118 cd_X3_one rfl (st := []) rfl (hR25.1) (by omega) (by decide) rfl (Nat.zero_le _) (Nat.zero_le _) hR25 (fun r26 w26 q26 => ?_)
          rcases hR1 : fo (j + 1) with ⟨e1, k1⟩ | ⟨s1, k1⟩
          · skip
            rw [hR1] at q26
            obtain ⟨hr1, hg1, ⟨hz1, hy1⟩, hK1, gc1, hS1, hC1, hU1⟩ := q26
            rw [hr1]
            have hG1 := FrR.tr hF25 hg1
            refine M.if_eq (tgt := 256) rfl (qI (by decide)) (by decide) (fun q => absurd q (by decide)) (fun _ => ?_)
            refine M.run 3 (pc' := 246) (lv' := [some (vr o), some (vi ((op : Nat) : Int)), some (vi ((gTk L j).1)), some (vi ((gTk L j).2.1)), some (vi 1)]) (st' := [vi 0, vi 60, vr o]) rfl ?_
            refine M.callV (kX3_emit l G o L (c1 + 2 * szE e1) c2 k1 ly m1 m2 f1 f2 gc1 fq (by omega) 60 0 (by omega) (by omega)) cv_X3_114 cd_X3_emit rfl (st := []) rfl hS1.1 (by omega) (by decide) rfl (Nat.zero_le _) (Nat.zero_le _) hS1 (fun r28 w29 q30 => ?_)
            obtain ⟨q30r, hR27, q30f⟩ := q30
            rw [q30r]
            have hF27 : FrR o w w29 := FrR.tr hG1 q30f
            refine M.if_eq (tgt := 256) rfl (qI (by decide)) (by decide) (fun q => absurd q (by decide)) (fun _ => ?_)
            refine M.run 2 (pc' := 257) (lv' := [some (vr o), some (vi ((op : Nat) : Int)), some (vi ((gTk L j).1)), some (vi ((gTk L j).2.1)), some (vi 1)]) (st' := [vi 1]) rfl ?_
            exact M.zret rfl (Or.inr rfl) (Nat.zero_le _) (Nat.zero_le _) (by show PQ o L c1 c2 j ly m1 m2 f1 f2 fc fq w _ _ ((pOne L ly op fs fo fe) j); rw [pOne_m (by omega) (by omega) hR1]; exact ⟨rfl, hF27, ⟨(by show szE e1 + 1 + j ≤ k1; omega), hy1⟩, okE_un hK1, _, (by have hq9 := hR27; rw [show c1 + 2 * szE e1 + 2 = c1 + 2 * szE (unE 60 e1) from by show _ = c1 + 2 * (szE e1 + 1); omega] at hq9; exact hq9), un_at hK1 hC1, fun i hi => by rw [uN_o (by omega), uN_o (by omega)]; exact hU1 i hi⟩)
          · skip
            rw [hR1] at q26
            obtain ⟨hr1, hg1, hy1, dd1, gc1, hS1⟩ := q26
            rw [hr1]
            have hG1 := FrR.tr hF25 hg1
            refine M.if_eq (tgt := 256) rfl (qI (by decide)) (by decide) (fun _ => ?_) (fun q => absurd q (by decide))
            refine M.run 1 (pc' := 257) (lv' := [some (vr o), some (vi ((op : Nat) : Int)), some (vi ((gTk L j).1)), some (vi ((gTk L j).2.1)), some (vi 1)]) (st' := [vi 0]) rfl ?_
            exact M.zret rfl (Or.inl rfl) (Nat.zero_le _) (Nat.zero_le _) (by show PQ o L c1 c2 j ly m1 m2 f1 f2 fc fq w _ _ ((pOne L ly op fs fo fe) j); rw [pOne_n (by omega) (by omega) hR1]; exact ⟨rfl, hG1, hy1, _, _, hS1⟩)
        by_cases hs97_4 : (gTk L j).1 = 38
        · refine M.lsw (tgt := 187) (off := 90) rfl (qI (by omega)) (by decide) (by rw [hs97_4]; rfl) (by decide) ?_
          have hk300 := hx51 j (by omega)
          refine M.run 2 (pc' := 189) (lv' := [some (vr o), some (vi ((op : Nat) : Int)), some (vi ((gTk L j).1)), some (vi ((gTk L j).2.1)), some (vi 1)]) (st' := [vr o, vr o]) rfl ?_
          refine M.get fl_X3_38 rfl hP.1 (kf := 5) (v := vi ((j : Nat) : Int)) rfl ?_
          refine M.run 2 (pc' := 194) (lv' := [some (vr o), some (vi ((op : Nat) : Int)), some (vi ((gTk L j).1)), some (vi ((gTk L j).2.1)), some (vi 1)]) (st' := [vi (((j : Nat) : Int) + 1), vr o]) rfl ?_
          rw [show ((j : Nat) : Int) + 1 = ((j + 1 : Nat) : Int) from by omega]
          refine M.put fl_X3_38 rfl (hP.1) rfl rfl (Nat.le_of_ble_eq_true rfl) ?_
          change g 0 0 (up w o (Ob 2 [vr (o + 1), vr (o + 5), vr (o + 6), vi ((c1 : Nat) : Int), vi ((c2 : Nat) : Int), vi ((j + 1 : Nat) : Int), vi ly, vr m1, vr m2, vi f1, vi f2])) 197 [some (vr o), some (vi ((op : Nat) : Int)), some (vi ((gTk L j).1)), some (vi ((gTk L j).2.1)), some (vi 1)] []
          have hR32 : isRe o L c1 c2 (j + 1) ly m1 m2 f1 f2 fc fq (up w o (Ob 2 [vr (o + 1), vr (o + 5), vr (o + 6), vi ((c1 : Nat) : Int), vi ((c2 : Nat) : Int), vi ((j + 1 : Nat) : Int), vi ly, vr m1, vr m2, vi f1, vi f2])) := isRe_1 hP
          have hF32 : FrR o w (up w o (Ob 2 [vr (o + 1), vr (o + 5), vr (o + 6), vi ((c1 : Nat) : Int), vi ((c2 : Nat) : Int), vi ((j + 1 : Nat) : Int), vi ly, vr m1, vr m2, vi f1, vi f2])) := FrR.u FrR.rf o (by omega)
          generalize up w o (Ob 2 [vr (o + 1), vr (o + 5), vr (o + 6), vi ((c1 : Nat) : Int), vi ((c2 : Nat) : Int), vi ((j + 1 : Nat) : Int), vi ly, vr m1, vr m2, vi f1, vi f2]) = w32 at hR32 hF32 ⊢
          refine M.run 4 (pc' := 201) (lv' := [some (vr o), some (vi ((op : Nat) : Int)), some (vi ((gTk L j).1)), some (vi ((gTk L j).2.1)), some (vi 1)]) (st' := [vi (((op : Nat) : Int) + 1), vr o]) rfl ?_
          rw [show ((op : Nat) : Int) + 1 = ((op + 1 : Nat) : Int) from (by omega)]
          refine M.callV (hs (by omega) c1 c2 (j + 1) m1 m2 f1 f2 fc fq (by omega) (by omega)) cv_X3_89 cd_X3_sum rfl (st := []) rfl (hR32.1) (by omega) (by decide) rfl (Nat.zero_le _) (Nat.zero_le _) hR32 (fun r33 w33 q33 => ?_)
          rcases hR1 : fs (j + 1) with ⟨e1, k1⟩ | ⟨s1, k1⟩
          · skip
            rw [hR1] at q33
            obtain ⟨hr1, hg1, ⟨hz1, hy1⟩, hK1, gc1, hS1, hC1, hU1⟩ := q33
            rw [hr1]
            have hG1 := FrR.tr hF32 hg1
            refine M.if_eq (tgt := 220) rfl (qI (by decide)) (by decide) (fun q => absurd q (by decide)) (fun _ => ?_)
            refine M.run 2 (pc' := 210) (lv' := [some (vr o), some (vi ((op : Nat) : Int)), some (vi ((gTk L j).1)), some (vi ((gTk L j).2.1)), some (vi 1)]) (st' := [vi 39, vr o]) rfl ?_
            refine M.callV (kX3_take l G o L (c1 + 2 * szE e1) c2 k1 ly m1 m2 f1 f2 gc1 fq (by omega) hB 39 (by omega)) cv_X3_92 cd_X3_take rfl (st := []) rfl (hS1.1) (by omega) (by decide) rfl (Nat.zero_le _) (Nat.zero_le _) hS1 (fun r34 w34 q34 => ?_)
            by_cases hT1 : (gTk L k1).1 = 39
            · skip
              rw [if_pos hT1] at q34
              obtain ⟨hr1_, hS1_, hg1_⟩ := q34
              rw [hr1_]
              have hG1_ := FrR.tr hG1 hg1_
              have hk301 := hx51 k1 (by omega)
              refine M.if_eq (tgt := 220) rfl (qI (by decide)) (by decide) (fun q => absurd q (by decide)) (fun _ => ?_)
              refine M.run 2 (pc' := 221) (lv' := [some (vr o), some (vi ((op : Nat) : Int)), some (vi ((gTk L j).1)), some (vi ((gTk L j).2.1)), some (vi 1)]) (st' := [vi 1]) rfl ?_
              exact M.zret rfl (Or.inr rfl) (Nat.zero_le _) (Nat.zero_le _) (by show PQ o L c1 c2 j ly m1 m2 f1 f2 fc fq w _ _ ((pOne L ly op fs fo fe) j); rw [pOne_b (by omega) (by omega) hR1 hT1]; exact ⟨rfl, hG1_, ⟨by omega, by omega⟩, hK1, _, hS1_, hC1, hU1⟩)
            · skip
              rw [if_neg hT1] at q34
              obtain ⟨hr1_, hS1_, hg1_⟩ := q34
              rw [hr1_]
              have hG1_ := FrR.tr hG1 hg1_
              refine M.if_eq (tgt := 220) rfl (qI (by decide)) (by decide) (fun _ => ?_) (fun q => absurd q (by decide))
              refine M.run 1 (pc' := 221) (lv' := [some (vr o), some (vi ((op : Nat) : Int)), some (vi ((gTk L j).1)), some (vi ((gTk L j).2.1)), some (vi 1)]) (st' := [vi 0]) rfl ?_
              exact M.zret rfl (Or.inl rfl) (Nat.zero_le _) (Nat.zero_le _) (by show PQ o L c1 c2 j ly m1 m2 f1 f2 fc fq w _ _ ((pOne L ly op fs fo fe) j); rw [pOne_c (by omega) (by omega) hR1 hT1]; exact ⟨rfl, hG1_, hy1, _, _, hS1_⟩)
          · skip
            rw [hR1] at q33
            obtain ⟨hr1, hg1, hy1, dd1, gc1, hS1⟩ := q33
            rw [hr1]
            have hG1 := FrR.tr hF32 hg1
            refine M.if_eq (tgt := 220) rfl (qI (by decide)) (by decide) (fun _ => ?_) (fun q => absurd q (by decide))
            refine M.run 1 (pc' := 221) (lv' := [some (vr o), some (vi ((op : Nat) : Int)), some (vi ((gTk L j).1)), some (vi ((gTk L j).2.1)), some (vi 1)]) (st' := [vi 0]) rfl ?_
            exact M.zret rfl (Or.inl rfl) (Nat.zero_le _) (Nat.zero_le _) (by show PQ o L c1 c2 j ly m1 m2 f1 f2 fc fq w _ _ ((pOne L ly op fs fo fe) j); rw [pOne_e (by omega) (by omega) hR1]; exact ⟨rfl, hG1, hy1, _, _, hS1⟩)
        by_cases hs97_5 : (gTk L j).1 = 50
        · refine M.lsw (tgt := 156) (off := 59) rfl (qI (by omega)) (by decide) (by rw [hs97_5]; rfl) (by decide) ?_
          refine M.run 2 (pc' := 160) (lv' := [some (vr o), some (vi ((op : Nat) : Int)), some (vi ((gTk L j).1)), some (vi ((gTk L j).2.1)), some (vi 1)]) (st' := [vi 9999, vi ((gTk L j).2.1)]) rfl ?_
          refine M.icmp_le (tgt := 169) rfl (qI (by omega)) (qI (by decide)) (by decide) (fun h160 => ?_) (fun h160 => ?_)
          · skip
            have hk300 := hx51 j (by omega)
            refine M.run 2 (pc' := 171) (lv' := [some (vr o), some (vi ((op : Nat) : Int)), some (vi ((gTk L j).1)), some (vi ((gTk L j).2.1)), some (vi 1)]) (st' := [vr o, vr o]) rfl ?_
            refine M.get fl_X3_38 rfl hP.1 (kf := 5) (v := vi ((j : Nat) : Int)) rfl ?_
            refine M.run 2 (pc' := 176) (lv' := [some (vr o), some (vi ((op : Nat) : Int)), some (vi ((gTk L j).1)), some (vi ((gTk L j).2.1)), some (vi 1)]) (st' := [vi (((j : Nat) : Int) + 1), vr o]) rfl ?_
            rw [show ((j : Nat) : Int) + 1 = ((j + 1 : Nat) : Int) from by omega]
            refine M.put fl_X3_38 rfl (hP.1) rfl rfl (Nat.le_of_ble_eq_true rfl) ?_
            change g 0 0 (up w o (Ob 2 [vr (o + 1), vr (o + 5), vr (o + 6), vi ((c1 : Nat) : Int), vi ((c2 : Nat) : Int), vi ((j + 1 : Nat) : Int), vi ly, vr m1, vr m2, vi f1, vi f2])) 179 [some (vr o), some (vi ((op : Nat) : Int)), some (vi ((gTk L j).1)), some (vi ((gTk L j).2.1)), some (vi 1)] []
            have hR35 : isRe o L c1 c2 (j + 1) ly m1 m2 f1 f2 fc fq (up w o (Ob 2 [vr (o + 1), vr (o + 5), vr (o + 6), vi ((c1 : Nat) : Int), vi ((c2 : Nat) : Int), vi ((j + 1 : Nat) : Int), vi ly, vr m1, vr m2, vi f1, vi f2])) := isRe_1 hP
            have hF35 : FrR o w (up w o (Ob 2 [vr (o + 1), vr (o + 5), vr (o + 6), vi ((c1 : Nat) : Int), vi ((c2 : Nat) : Int), vi ((j + 1 : Nat) : Int), vi ly, vr m1, vr m2, vi f1, vi f2])) := FrR.u FrR.rf o (by omega)
            generalize up w o (Ob 2 [vr (o + 1), vr (o + 5), vr (o + 6), vi ((c1 : Nat) : Int), vi ((c2 : Nat) : Int), vi ((j + 1 : Nat) : Int), vi ly, vr m1, vr m2, vi f1, vi f2]) = w35 at hR35 hF35 ⊢
            refine M.run 3 (pc' := 183) (lv' := [some (vr o), some (vi ((op : Nat) : Int)), some (vi ((gTk L j).1)), some (vi ((gTk L j).2.1)), some (vi 1)]) (st' := [vi ((gTk L j).2.1), vi 50, vr o]) rfl ?_
            refine M.callV (kX3_emit l G o L c1 c2 (j + 1) ly m1 m2 f1 f2 fc fq (by omega) 50 ((gTk L j).2.1) (by omega) (by omega)) cv_X3_114 cd_X3_emit rfl (st := []) rfl hR35.1 (by omega) (by decide) rfl (Nat.zero_le _) (Nat.zero_le _) hR35 (fun r37 w38 q39 => ?_)
            obtain ⟨q39r, hR36, q39f⟩ := q39
            rw [q39r]
            have hF36 : FrR o w w38 := FrR.tr hF35 q39f
            exact M.zret rfl (Or.inr rfl) (Nat.zero_le _) (Nat.zero_le _) (by show PQ o L c1 c2 j ly m1 m2 f1 f2 fc fq w _ _ ((pOne L ly op fs fo fe) j); rw [pOne_f (by omega) (by omega)]; exact ⟨rfl, hF36, ⟨(by show 1 + j ≤ j + 1; omega), by omega⟩, okE_lf, _, hR36, lf_at, fun i hi => by rw [uN_o (by omega), uN_o (by omega)]⟩)
          · skip
            refine M.run 2 (pc' := 165) (lv' := [some (vr o), some (vi ((op : Nat) : Int)), some (vi ((gTk L j).1)), some (vi ((gTk L j).2.1)), some (vi 1)]) (st' := [vi 2, vr o]) rfl ?_
            refine M.callV (kX3_refuse l G o L c1 c2 j ly m1 m2 f1 f2 fc fq (by omega) hB 2 (by omega)) cv_X3_73 cd_X3_refuse rfl (st := []) rfl hP.1 (by omega) (by decide) rfl (Nat.zero_le _) (Nat.zero_le _) hP (fun r42 w43 q44 => ?_)
            obtain ⟨q44r, hR41, q44f⟩ := q44
            rw [q44r]
            have hF41 : FrR o w w43 := FrR.tr FrR.rf q44f
            exact M.zret rfl (Or.inl rfl) (Nat.zero_le _) (Nat.zero_le _) (by show PQ o L c1 c2 j ly m1 m2 f1 f2 fc fq w _ _ ((pOne L ly op fs fo fe) j); rw [pOne_g (by omega) (by omega)]; exact ⟨rfl, hF41, hj, _, _, hR41⟩)
        refine M.lsw (tgt := 311) (off := 214) rfl (qI (by omega)) (by decide) (by rw [Op.lookupswitch.offset_cons, if_neg (fun q => hs97_0 q.symm), Op.lookupswitch.offset_cons, if_neg (fun q => hs97_1 q.symm), Op.lookupswitch.offset_cons, if_neg (fun q => hs97_2 q.symm), Op.lookupswitch.offset_cons, if_neg (fun q => hs97_3 q.symm), Op.lookupswitch.offset_cons, if_neg (fun q => hs97_4 q.symm), Op.lookupswitch.offset_cons, if_neg (fun q => hs97_5 q.symm)]; rfl) (by decide) ?_
        refine M.run 2 (pc' := 313) (lv' := [some (vr o), some (vi ((op : Nat) : Int)), some (vi ((gTk L j).1)), some (vi ((gTk L j).2.1)), some (vi 1)]) (st' := [vi 1, vr o]) rfl ?_
        refine M.callV (kX3_refuse l G o L c1 c2 j ly m1 m2 f1 f2 fc fq (by omega) hB 1 (by omega)) cv_X3_73 cd_X3_refuse rfl (st := []) rfl hP.1 (by omega) (by decide) rfl (Nat.zero_le _) (Nat.zero_le _) hP (fun r47 w48 q49 => ?_)
        obtain ⟨q49r, hR46, q49f⟩ := q49
        rw [q49r]
        have hF46 : FrR o w w48 := FrR.tr FrR.rf q49f
        exact M.zret rfl (Or.inl rfl) (Nat.zero_le _) (Nat.zero_le _) (by show PQ o L c1 c2 j ly m1 m2 f1 f2 fc fq w _ _ ((pOne L ly op fs fo fe) j); rw [pOne_o (by omega) (by omega) (by omega)]; exact ⟨rfl, hF46, hj, _, _, hR46⟩)
      · skip
        refine M.run 2 (pc' := 87) (lv' := [some (vr o), some (vi ((op : Nat) : Int)), some (vi ((gTk L j).1)), some (vi ((gTk L j).2.1)), some (vi 1)]) (st' := [vi 23, vi ((gTk L j).1)]) rfl ?_
        refine M.icmp_gt (tgt := 96) rfl (qI (by omega)) (qI (by decide)) (by decide) (fun h87 => ?_) (fun h87 => ?_)
        · skip
          refine M.run 1 (pc' := 97) (lv' := [some (vr o), some (vi ((op : Nat) : Int)), some (vi ((gTk L j).1)), some (vi ((gTk L j).2.1)), some (vi 1)]) (st' := [vi ((gTk L j).1)]) rfl ?_
          by_cases hs97_0 : (gTk L j).1 = 8
          · refine M.lsw (tgt := 258) (off := 161) rfl (qI (by omega)) (by decide) (by rw [hs97_0]; rfl) (by decide) ?_
            have hk300 := hx51 j (by omega)
            refine M.run 2 (pc' := 260) (lv' := [some (vr o), some (vi ((op : Nat) : Int)), some (vi ((gTk L j).1)), some (vi ((gTk L j).2.1)), some (vi 1)]) (st' := [vr o, vr o]) rfl ?_
            refine M.get fl_X3_38 rfl hP.1 (kf := 5) (v := vi ((j : Nat) : Int)) rfl ?_
            refine M.run 2 (pc' := 265) (lv' := [some (vr o), some (vi ((op : Nat) : Int)), some (vi ((gTk L j).1)), some (vi ((gTk L j).2.1)), some (vi 1)]) (st' := [vi (((j : Nat) : Int) + 1), vr o]) rfl ?_
            rw [show ((j : Nat) : Int) + 1 = ((j + 1 : Nat) : Int) from by omega]
            refine M.put fl_X3_38 rfl (hP.1) rfl rfl (Nat.le_of_ble_eq_true rfl) ?_
            change g 0 0 (up w o (Ob 2 [vr (o + 1), vr (o + 5), vr (o + 6), vi ((c1 : Nat) : Int), vi ((c2 : Nat) : Int), vi ((j + 1 : Nat) : Int), vi ly, vr m1, vr m2, vi f1, vi f2])) 268 [some (vr o), some (vi ((op : Nat) : Int)), some (vi ((gTk L j).1)), some (vi ((gTk L j).2.1)), some (vi 1)] []
            have hR51 : isRe o L c1 c2 (j + 1) ly m1 m2 f1 f2 fc fq (up w o (Ob 2 [vr (o + 1), vr (o + 5), vr (o + 6), vi ((c1 : Nat) : Int), vi ((c2 : Nat) : Int), vi ((j + 1 : Nat) : Int), vi ly, vr m1, vr m2, vi f1, vi f2])) := isRe_1 hP
            have hF51 : FrR o w (up w o (Ob 2 [vr (o + 1), vr (o + 5), vr (o + 6), vi ((c1 : Nat) : Int), vi ((c2 : Nat) : Int), vi ((j + 1 : Nat) : Int), vi ly, vr m1, vr m2, vi f1, vi f2])) := FrR.u FrR.rf o (by omega)
            generalize up w o (Ob 2 [vr (o + 1), vr (o + 5), vr (o + 6), vi ((c1 : Nat) : Int), vi ((c2 : Nat) : Int), vi ((j + 1 : Nat) : Int), vi ly, vr m1, vr m2, vi f1, vi f2]) = w51 at hR51 hF51 ⊢
            refine M.run 4 (pc' := 272) (lv' := [some (vr o), some (vi ((op : Nat) : Int)), some (vi ((gTk L j).1)), some (vi ((gTk L j).2.1)), some (vi 1)]) (st' := [vi (((op : Nat) : Int) + 1), vr o]) rfl ?_
            rw [show ((op : Nat) : Int) + 1 = ((op + 1 : Nat) : Int) from (by omega)]
            refine M.callV (ho (by omega) c1 c2 (j + 1) m1 m2 f1 f2 fc fq (by omega) (by omega)) cv_X3_118 cd_X3_one rfl (st := []) rfl (hR51.1) (by omega) (by decide) rfl (Nat.zero_le _) (Nat.zero_le _) hR51 (fun r52 w52 q52 => ?_)
            rcases hR1 : fo (j + 1) with ⟨e1, k1⟩ | ⟨s1, k1⟩
            · skip
              rw [hR1] at q52
              obtain ⟨hr1, hg1, ⟨hz1, hy1⟩, hK1, gc1, hS1, hC1, hU1⟩ := q52
              rw [hr1]
              have hG1 := FrR.tr hF51 hg1
              refine M.if_eq (tgt := 291) rfl (qI (by decide)) (by decide) (fun q => absurd q (by decide)) (fun _ => ?_)
              refine M.run 3 (pc' := 281) (lv' := [some (vr o), some (vi ((op : Nat) : Int)), some (vi ((gTk L j).1)), some (vi ((gTk L j).2.1)), some (vi 1)]) (st' := [vi 0, vi ((gTk L j).1), vr o]) rfl ?_
              refine M.callV (kX3_emit l G o L (c1 + 2 * szE e1) c2 k1 ly m1 m2 f1 f2 gc1 fq (by omega) ((gTk L j).1) 0 (by omega) (by omega)) cv_X3_114 cd_X3_emit rfl (st := []) rfl hS1.1 (by omega) (by decide) rfl (Nat.zero_le _) (Nat.zero_le _) hS1 (fun r54 w55 q56 => ?_)
              obtain ⟨q56r, hR53, q56f⟩ := q56
              rw [q56r]
              have hF53 : FrR o w w55 := FrR.tr hG1 q56f
              refine M.if_eq (tgt := 291) rfl (qI (by decide)) (by decide) (fun q => absurd q (by decide)) (fun _ => ?_)
              refine M.run 2 (pc' := 292) (lv' := [some (vr o), some (vi ((op : Nat) : Int)), some (vi ((gTk L j).1)), some (vi ((gTk L j).2.1)), some (vi 1)]) (st' := [vi 1]) rfl ?_
              exact M.zret rfl (Or.inr rfl) (Nat.zero_le _) (Nat.zero_le _) (by show PQ o L c1 c2 j ly m1 m2 f1 f2 fc fq w _ _ ((pOne L ly op fs fo fe) j); rw [pOne_u (by omega) (by omega) hR1]; exact ⟨rfl, hF53, ⟨(by show szE e1 + 1 + j ≤ k1; omega), hy1⟩, okE_un hK1, _, (by have hq9 := hR53; rw [show c1 + 2 * szE e1 + 2 = c1 + 2 * szE (unE (gTk L j).1 e1) from by show _ = c1 + 2 * (szE e1 + 1); omega] at hq9; exact hq9), un_at hK1 hC1, fun i hi => by rw [uN_o (by omega), uN_o (by omega)]; exact hU1 i hi⟩)
            · skip
              rw [hR1] at q52
              obtain ⟨hr1, hg1, hy1, dd1, gc1, hS1⟩ := q52
              rw [hr1]
              have hG1 := FrR.tr hF51 hg1
              refine M.if_eq (tgt := 291) rfl (qI (by decide)) (by decide) (fun _ => ?_) (fun q => absurd q (by decide))
              refine M.run 1 (pc' := 292) (lv' := [some (vr o), some (vi ((op : Nat) : Int)), some (vi ((gTk L j).1)), some (vi ((gTk L j).2.1)), some (vi 1)]) (st' := [vi 0]) rfl ?_
              exact M.zret rfl (Or.inl rfl) (Nat.zero_le _) (Nat.zero_le _) (by show PQ o L c1 c2 j ly m1 m2 f1 f2 fc fq w _ _ ((pOne L ly op fs fo fe) j); rw [pOne_v (by omega) (by omega) hR1]; exact ⟨rfl, hG1, hy1, _, _, hS1⟩)
          by_cases hs97_1 : (gTk L j).1 = 9
          · refine M.lsw (tgt := 258) (off := 161) rfl (qI (by omega)) (by decide) (by rw [hs97_1]; rfl) (by decide) ?_
            have hk300 := hx51 j (by omega)
            refine M.run 2 (pc' := 260) (lv' := [some (vr o), some (vi ((op : Nat) : Int)), some (vi ((gTk L j).1)), some (vi ((gTk L j).2.1)), some (vi 1)]) (st' := [vr o, vr o]) rfl ?_
            refine M.get fl_X3_38 rfl hP.1 (kf := 5) (v := vi ((j : Nat) : Int)) rfl ?_
            refine M.run 2 (pc' := 265) (lv' := [some (vr o), some (vi ((op : Nat) : Int)), some (vi ((gTk L j).1)), some (vi ((gTk L j).2.1)), some (vi 1)]) (st' := [vi (((j : Nat) : Int) + 1), vr o]) rfl ?_
            rw [show ((j : Nat) : Int) + 1 = ((j + 1 : Nat) : Int) from by omega]
            refine M.put fl_X3_38 rfl (hP.1) rfl rfl (Nat.le_of_ble_eq_true rfl) ?_
            change g 0 0 (up w o (Ob 2 [vr (o + 1), vr (o + 5), vr (o + 6), vi ((c1 : Nat) : Int), vi ((c2 : Nat) : Int), vi ((j + 1 : Nat) : Int), vi ly, vr m1, vr m2, vi f1, vi f2])) 268 [some (vr o), some (vi ((op : Nat) : Int)), some (vi ((gTk L j).1)), some (vi ((gTk L j).2.1)), some (vi 1)] []
            have hR58 : isRe o L c1 c2 (j + 1) ly m1 m2 f1 f2 fc fq (up w o (Ob 2 [vr (o + 1), vr (o + 5), vr (o + 6), vi ((c1 : Nat) : Int), vi ((c2 : Nat) : Int), vi ((j + 1 : Nat) : Int), vi ly, vr m1, vr m2, vi f1, vi f2])) := isRe_1 hP
            have hF58 : FrR o w (up w o (Ob 2 [vr (o + 1), vr (o + 5), vr (o + 6), vi ((c1 : Nat) : Int), vi ((c2 : Nat) : Int), vi ((j + 1 : Nat) : Int), vi ly, vr m1, vr m2, vi f1, vi f2])) := FrR.u FrR.rf o (by omega)
            generalize up w o (Ob 2 [vr (o + 1), vr (o + 5), vr (o + 6), vi ((c1 : Nat) : Int), vi ((c2 : Nat) : Int), vi ((j + 1 : Nat) : Int), vi ly, vr m1, vr m2, vi f1, vi f2]) = w58 at hR58 hF58 ⊢
            refine M.run 4 (pc' := 272) (lv' := [some (vr o), some (vi ((op : Nat) : Int)), some (vi ((gTk L j).1)), some (vi ((gTk L j).2.1)), some (vi 1)]) (st' := [vi (((op : Nat) : Int) + 1), vr o]) rfl ?_
            rw [show ((op : Nat) : Int) + 1 = ((op + 1 : Nat) : Int) from (by omega)]
            refine M.callV (ho (by omega) c1 c2 (j + 1) m1 m2 f1 f2 fc fq (by omega) (by omega)) cv_X3_118 cd_X3_one rfl (st := []) rfl (hR58.1) (by omega) (by decide) rfl (Nat.zero_le _) (Nat.zero_le _) hR58 (fun r59 w59 q59 => ?_)
            rcases hR1 : fo (j + 1) with ⟨e1, k1⟩ | ⟨s1, k1⟩
            · skip
              rw [hR1] at q59
              obtain ⟨hr1, hg1, ⟨hz1, hy1⟩, hK1, gc1, hS1, hC1, hU1⟩ := q59
              rw [hr1]
              have hG1 := FrR.tr hF58 hg1
              refine M.if_eq (tgt := 291) rfl (qI (by decide)) (by decide) (fun q => absurd q (by decide)) (fun _ => ?_)
              refine M.run 3 (pc' := 281) (lv' := [some (vr o), some (vi ((op : Nat) : Int)), some (vi ((gTk L j).1)), some (vi ((gTk L j).2.1)), some (vi 1)]) (st' := [vi 0, vi ((gTk L j).1), vr o]) rfl ?_
              refine M.callV (kX3_emit l G o L (c1 + 2 * szE e1) c2 k1 ly m1 m2 f1 f2 gc1 fq (by omega) ((gTk L j).1) 0 (by omega) (by omega)) cv_X3_114 cd_X3_emit rfl (st := []) rfl hS1.1 (by omega) (by decide) rfl (Nat.zero_le _) (Nat.zero_le _) hS1 (fun r61 w62 q63 => ?_)
              obtain ⟨q63r, hR60, q63f⟩ := q63
              rw [q63r]
              have hF60 : FrR o w w62 := FrR.tr hG1 q63f
              refine M.if_eq (tgt := 291) rfl (qI (by decide)) (by decide) (fun q => absurd q (by decide)) (fun _ => ?_)
              refine M.run 2 (pc' := 292) (lv' := [some (vr o), some (vi ((op : Nat) : Int)), some (vi ((gTk L j).1)), some (vi ((gTk L j).2.1)), some (vi 1)]) (st' := [vi 1]) rfl ?_
              exact M.zret rfl (Or.inr rfl) (Nat.zero_le _) (Nat.zero_le _) (by show PQ o L c1 c2 j ly m1 m2 f1 f2 fc fq w _ _ ((pOne L ly op fs fo fe) j); rw [pOne_u (by omega) (by omega) hR1]; exact ⟨rfl, hF60, ⟨(by show szE e1 + 1 + j ≤ k1; omega), hy1⟩, okE_un hK1, _, (by have hq9 := hR60; rw [show c1 + 2 * szE e1 + 2 = c1 + 2 * szE (unE (gTk L j).1 e1) from by show _ = c1 + 2 * (szE e1 + 1); omega] at hq9; exact hq9), un_at hK1 hC1, fun i hi => by rw [uN_o (by omega), uN_o (by omega)]; exact hU1 i hi⟩)
            · skip
              rw [hR1] at q59
              obtain ⟨hr1, hg1, hy1, dd1, gc1, hS1⟩ := q59
              rw [hr1]
              have hG1 := FrR.tr hF58 hg1
              refine M.if_eq (tgt := 291) rfl (qI (by decide)) (by decide) (fun _ => ?_) (fun q => absurd q (by decide))
              refine M.run 1 (pc' := 292) (lv' := [some (vr o), some (vi ((op : Nat) : Int)), some (vi ((gTk L j).1)), some (vi ((gTk L j).2.1)), some (vi 1)]) (st' := [vi 0]) rfl ?_
              exact M.zret rfl (Or.inl rfl) (Nat.zero_le _) (Nat.zero_le _) (by show PQ o L c1 c2 j ly m1 m2 f1 f2 fc fq w _ _ ((pOne L ly op fs fo fe) j); rw [pOne_v (by omega) (by omega) hR1]; exact ⟨rfl, hG1, hy1, _, _, hS1⟩)
          by_cases hs97_2 : (gTk L j).1 = 10
          · refine M.lsw (tgt := 293) (off := 196) rfl (qI (by omega)) (by decide) (by rw [hs97_2]; rfl) (by decide) ?_
            have hk300 := hx51 j (by omega)
            refine M.run 2 (pc' := 295) (lv' := [some (vr o), some (vi ((op : Nat) : Int)), some (vi ((gTk L j).1)), some (vi ((gTk L j).2.1)), some (vi 1)]) (st' := [vr o, vr o]) rfl ?_
            refine M.get fl_X3_38 rfl hP.1 (kf := 5) (v := vi ((j : Nat) : Int)) rfl ?_
            refine M.run 2 (pc' := 300) (lv' := [some (vr o), some (vi ((op : Nat) : Int)), some (vi ((gTk L j).1)), some (vi ((gTk L j).2.1)), some (vi 1)]) (st' := [vi (((j : Nat) : Int) + 1), vr o]) rfl ?_
            rw [show ((j : Nat) : Int) + 1 = ((j + 1 : Nat) : Int) from by omega]
            refine M.put fl_X3_38 rfl (hP.1) rfl rfl (Nat.le_of_ble_eq_true rfl) ?_
            change g 0 0 (up w o (Ob 2 [vr (o + 1), vr (o + 5), vr (o + 6), vi ((c1 : Nat) : Int), vi ((c2 : Nat) : Int), vi ((j + 1 : Nat) : Int), vi ly, vr m1, vr m2, vi f1, vi f2])) 303 [some (vr o), some (vi ((op : Nat) : Int)), some (vi ((gTk L j).1)), some (vi ((gTk L j).2.1)), some (vi 1)] []
            have hR65 : isRe o L c1 c2 (j + 1) ly m1 m2 f1 f2 fc fq (up w o (Ob 2 [vr (o + 1), vr (o + 5), vr (o + 6), vi ((c1 : Nat) : Int), vi ((c2 : Nat) : Int), vi ((j + 1 : Nat) : Int), vi ly, vr m1, vr m2, vi f1, vi f2])) := isRe_1 hP
            have hF65 : FrR o w (up w o (Ob 2 [vr (o + 1), vr (o + 5), vr (o + 6), vi ((c1 : Nat) : Int), vi ((c2 : Nat) : Int), vi ((j + 1 : Nat) : Int), vi ly, vr m1, vr m2, vi f1, vi f2])) := FrR.u FrR.rf o (by omega)
            generalize up w o (Ob 2 [vr (o + 1), vr (o + 5), vr (o + 6), vi ((c1 : Nat) : Int), vi ((c2 : Nat) : Int), vi ((j + 1 : Nat) : Int), vi ly, vr m1, vr m2, vi f1, vi f2]) = w65 at hR65 hF65 ⊢
            refine M.run 4 (pc' := 307) (lv' := [some (vr o), some (vi ((op : Nat) : Int)), some (vi ((gTk L j).1)), some (vi ((gTk L j).2.1)), some (vi 1)]) (st' := [vi (((op : Nat) : Int) + 1), vr o]) rfl ?_
            rw [show ((op : Nat) : Int) + 1 = ((op + 1 : Nat) : Int) from (by omega)]
            refine M.callV (he (by omega) c1 c2 (j + 1) m1 m2 f1 f2 fc fq (by omega) (by omega)) cv_X3_124 cd_X3_choice rfl (st := []) rfl (hR65.1) (by omega) (by decide) rfl (Nat.zero_le _) (Nat.zero_le _) hR65 (fun r66 w66 q66 => ?_)
            rcases hR1 : fe (j + 1) with ⟨e1, k1⟩ | ⟨s1, k1⟩
            · skip
              rw [hR1] at q66
              obtain ⟨hr1, hg1, ⟨hz1, hy1⟩, hK1, gc1, hS1, hC1, hU1⟩ := q66
              rw [hr1]
              have hG1 := FrR.tr hF65 hg1
              exact M.zret rfl (Or.inr rfl) (Nat.zero_le _) (Nat.zero_le _) (by show PQ o L c1 c2 j ly m1 m2 f1 f2 fc fq w _ _ ((pOne L ly op fs fo fe) j); rw [pOne_i (by omega) (by omega), hR1]; exact ⟨rfl, hG1, ⟨by omega, hy1⟩, hK1, _, hS1, hC1, hU1⟩)
            · skip
              rw [hR1] at q66
              obtain ⟨hr1, hg1, hy1, dd1, gc1, hS1⟩ := q66
              rw [hr1]
              have hG1 := FrR.tr hF65 hg1
              exact M.zret rfl (Or.inl rfl) (Nat.zero_le _) (Nat.zero_le _) (by show PQ o L c1 c2 j ly m1 m2 f1 f2 fc fq w _ _ ((pOne L ly op fs fo fe) j); rw [pOne_i (by omega) (by omega), hR1]; exact ⟨rfl, hG1, hy1, _, _, hS1⟩)
          by_cases hs97_3 : (gTk L j).1 = 35
          · refine M.lsw (tgt := 222) (off := 125) rfl (qI (by omega)) (by decide) (by rw [hs97_3]; rfl) (by decide) ?_
            have hk300 := hx51 j (by omega)
            refine M.run 2 (pc' := 224) (lv' := [some (vr o), some (vi ((op : Nat) : Int)), some (vi ((gTk L j).1)), some (vi ((gTk L j).2.1)), some (vi 1)]) (st' := [vr o, vr o]) rfl ?_
            refine M.get fl_X3_38 rfl hP.1 (kf := 5) (v := vi ((j : Nat) : Int)) rfl ?_
            refine M.run 2 (pc' := 229) (lv' := [some (vr o), some (vi ((op : Nat) : Int)), some (vi ((gTk L j).1)), some (vi ((gTk L j).2.1)), some (vi 1)]) (st' := [vi (((j : Nat) : Int) + 1), vr o]) rfl ?_
            rw [show ((j : Nat) : Int) + 1 = ((j + 1 : Nat) : Int) from by omega]
            refine M.put fl_X3_38 rfl (hP.1) rfl rfl (Nat.le_of_ble_eq_true rfl) ?_
            change g 0 0 (up w o (Ob 2 [vr (o + 1), vr (o + 5), vr (o + 6), vi ((c1 : Nat) : Int), vi ((c2 : Nat) : Int), vi ((j + 1 : Nat) : Int), vi ly, vr m1, vr m2, vi f1, vi f2])) 232 [some (vr o), some (vi ((op : Nat) : Int)), some (vi ((gTk L j).1)), some (vi ((gTk L j).2.1)), some (vi 1)] []
            have hR67 : isRe o L c1 c2 (j + 1) ly m1 m2 f1 f2 fc fq (up w o (Ob 2 [vr (o + 1), vr (o + 5), vr (o + 6), vi ((c1 : Nat) : Int), vi ((c2 : Nat) : Int), vi ((j + 1 : Nat) : Int), vi ly, vr m1, vr m2, vi f1, vi f2])) := isRe_1 hP
            have hF67 : FrR o w (up w o (Ob 2 [vr (o + 1), vr (o + 5), vr (o + 6), vi ((c1 : Nat) : Int), vi ((c2 : Nat) : Int), vi ((j + 1 : Nat) : Int), vi ly, vr m1, vr m2, vi f1, vi f2])) := FrR.u FrR.rf o (by omega)
            generalize up w o (Ob 2 [vr (o + 1), vr (o + 5), vr (o + 6), vi ((c1 : Nat) : Int), vi ((c2 : Nat) : Int), vi ((j + 1 : Nat) : Int), vi ly, vr m1, vr m2, vi f1, vi f2]) = w67 at hR67 hF67 ⊢
            refine M.run 4 (pc' := 236) (lv' := [some (vr o), some (vi ((op : Nat) : Int)), some (vi ((gTk L j).1)), some (vi ((gTk L j).2.1)), some (vi 1)]) (st' := [vi (((op : Nat) : Int) + 1), vr o]) rfl ?_
            rw [show ((op : Nat) : Int) + 1 = ((op + 1 : Nat) : Int) from (by omega)]
            refine M.callV (ho (by omega) c1 c2 (j + 1) m1 m2 f1 f2 fc fq (by omega) (by omega)) cv_X3_118 cd_X3_one rfl (st := []) rfl (hR67.1) (by omega) (by decide) rfl (Nat.zero_le _) (Nat.zero_le _) hR67 (fun r68 w68 q68 => ?_)
            rcases hR1 : fo (j + 1) with ⟨e1, k1⟩ | ⟨s1, k1⟩
            · skip
              rw [hR1] at q68
              obtain ⟨hr1, hg1, ⟨hz1, hy1⟩, hK1, gc1, hS1, hC1, hU1⟩ := q68
              rw [hr1]
              have hG1 := FrR.tr hF67 hg1
              refine M.if_eq (tgt := 256) rfl (qI (by decide)) (by decide) (fun q => absurd q (by decide)) (fun _ => ?_)
              refine M.run 3 (pc' := 246) (lv' := [some (vr o), some (vi ((op : Nat) : Int)), some (vi ((gTk L j).1)), some (vi ((gTk L j).2.1)), some (vi 1)]) (st' := [vi 0, vi 60, vr o]) rfl ?_
              refine M.callV (kX3_emit l G o L (c1 + 2 * szE e1) c2 k1 ly m1 m2 f1 f2 gc1 fq (by omega) 60 0 (by omega) (by omega)) cv_X3_114 cd_X3_emit rfl (st := []) rfl hS1.1 (by omega) (by decide) rfl (Nat.zero_le _) (Nat.zero_le _) hS1 (fun r70 w71 q72 => ?_)
              obtain ⟨q72r, hR69, q72f⟩ := q72
              rw [q72r]
              have hF69 : FrR o w w71 := FrR.tr hG1 q72f
              refine M.if_eq (tgt := 256) rfl (qI (by decide)) (by decide) (fun q => absurd q (by decide)) (fun _ => ?_)
              refine M.run 2 (pc' := 257) (lv' := [some (vr o), some (vi ((op : Nat) : Int)), some (vi ((gTk L j).1)), some (vi ((gTk L j).2.1)), some (vi 1)]) (st' := [vi 1]) rfl ?_
              exact M.zret rfl (Or.inr rfl) (Nat.zero_le _) (Nat.zero_le _) (by show PQ o L c1 c2 j ly m1 m2 f1 f2 fc fq w _ _ ((pOne L ly op fs fo fe) j); rw [pOne_m (by omega) (by omega) hR1]; exact ⟨rfl, hF69, ⟨(by show szE e1 + 1 + j ≤ k1; omega), hy1⟩, okE_un hK1, _, (by have hq9 := hR69; rw [show c1 + 2 * szE e1 + 2 = c1 + 2 * szE (unE 60 e1) from by show _ = c1 + 2 * (szE e1 + 1); omega] at hq9; exact hq9), un_at hK1 hC1, fun i hi => by rw [uN_o (by omega), uN_o (by omega)]; exact hU1 i hi⟩)
            · skip
              rw [hR1] at q68
              obtain ⟨hr1, hg1, hy1, dd1, gc1, hS1⟩ := q68
              rw [hr1]
              have hG1 := FrR.tr hF67 hg1
              refine M.if_eq (tgt := 256) rfl (qI (by decide)) (by decide) (fun _ => ?_) (fun q => absurd q (by decide))
              refine M.run 1 (pc' := 257) (lv' := [some (vr o), some (vi ((op : Nat) : Int)), some (vi ((gTk L j).1)), some (vi ((gTk L j).2.1)), some (vi 1)]) (st' := [vi 0]) rfl ?_
              exact M.zret rfl (Or.inl rfl) (Nat.zero_le _) (Nat.zero_le _) (by show PQ o L c1 c2 j ly m1 m2 f1 f2 fc fq w _ _ ((pOne L ly op fs fo fe) j); rw [pOne_n (by omega) (by omega) hR1]; exact ⟨rfl, hG1, hy1, _, _, hS1⟩)
          by_cases hs97_4 : (gTk L j).1 = 38
          · refine M.lsw (tgt := 187) (off := 90) rfl (qI (by omega)) (by decide) (by rw [hs97_4]; rfl) (by decide) ?_
            have hk300 := hx51 j (by omega)
            refine M.run 2 (pc' := 189) (lv' := [some (vr o), some (vi ((op : Nat) : Int)), some (vi ((gTk L j).1)), some (vi ((gTk L j).2.1)), some (vi 1)]) (st' := [vr o, vr o]) rfl ?_
            refine M.get fl_X3_38 rfl hP.1 (kf := 5) (v := vi ((j : Nat) : Int)) rfl ?_
            refine M.run 2 (pc' := 194) (lv' := [some (vr o), some (vi ((op : Nat) : Int)), some (vi ((gTk L j).1)), some (vi ((gTk L j).2.1)), some (vi 1)]) (st' := [vi (((j : Nat) : Int) + 1), vr o]) rfl ?_
            rw [show ((j : Nat) : Int) + 1 = ((j + 1 : Nat) : Int) from by omega]
            refine M.put fl_X3_38 rfl (hP.1) rfl rfl (Nat.le_of_ble_eq_true rfl) ?_
            change g 0 0 (up w o (Ob 2 [vr (o + 1), vr (o + 5), vr (o + 6), vi ((c1 : Nat) : Int), vi ((c2 : Nat) : Int), vi ((j + 1 : Nat) : Int), vi ly, vr m1, vr m2, vi f1, vi f2])) 197 [some (vr o), some (vi ((op : Nat) : Int)), some (vi ((gTk L j).1)), some (vi ((gTk L j).2.1)), some (vi 1)] []
            have hR74 : isRe o L c1 c2 (j + 1) ly m1 m2 f1 f2 fc fq (up w o (Ob 2 [vr (o + 1), vr (o + 5), vr (o + 6), vi ((c1 : Nat) : Int), vi ((c2 : Nat) : Int), vi ((j + 1 : Nat) : Int), vi ly, vr m1, vr m2, vi f1, vi f2])) := isRe_1 hP
            have hF74 : FrR o w (up w o (Ob 2 [vr (o + 1), vr (o + 5), vr (o + 6), vi ((c1 : Nat) : Int), vi ((c2 : Nat) : Int), vi ((j + 1 : Nat) : Int), vi ly, vr m1, vr m2, vi f1, vi f2])) := FrR.u FrR.rf o (by omega)
            generalize up w o (Ob 2 [vr (o + 1), vr (o + 5), vr (o + 6), vi ((c1 : Nat) : Int), vi ((c2 : Nat) : Int), vi ((j + 1 : Nat) : Int), vi ly, vr m1, vr m2, vi f1, vi f2]) = w74 at hR74 hF74 ⊢
            refine M.run 4 (pc' := 201) (lv' := [some (vr o), some (vi ((op : Nat) : Int)), some (vi ((gTk L j).1)), some (vi ((gTk L j).2.1)), some (vi 1)]) (st' := [vi (((op : Nat) : Int) + 1), vr o]) rfl ?_
            rw [show ((op : Nat) : Int) + 1 = ((op + 1 : Nat) : Int) from (by omega)]
            refine M.callV (hs (by omega) c1 c2 (j + 1) m1 m2 f1 f2 fc fq (by omega) (by omega)) cv_X3_89 cd_X3_sum rfl (st := []) rfl (hR74.1) (by omega) (by decide) rfl (Nat.zero_le _) (Nat.zero_le _) hR74 (fun r75 w75 q75 => ?_)
            rcases hR1 : fs (j + 1) with ⟨e1, k1⟩ | ⟨s1, k1⟩
            · skip
              rw [hR1] at q75
              obtain ⟨hr1, hg1, ⟨hz1, hy1⟩, hK1, gc1, hS1, hC1, hU1⟩ := q75
              rw [hr1]
              have hG1 := FrR.tr hF74 hg1
              refine M.if_eq (tgt := 220) rfl (qI (by decide)) (by decide) (fun q => absurd q (by decide)) (fun _ => ?_)
              refine M.run 2 (pc' := 210) (lv' := [some (vr o), some (vi ((op : Nat) : Int)), some (vi ((gTk L j).1)), some (vi ((gTk L j).2.1)), some (vi 1)]) (st' := [vi 39, vr o]) rfl ?_
              refine M.callV (kX3_take l G o L (c1 + 2 * szE e1) c2 k1 ly m1 m2 f1 f2 gc1 fq (by omega) hB 39 (by omega)) cv_X3_92 cd_X3_take rfl (st := []) rfl (hS1.1) (by omega) (by decide) rfl (Nat.zero_le _) (Nat.zero_le _) hS1 (fun r76 w76 q76 => ?_)
              by_cases hT1 : (gTk L k1).1 = 39
              · skip
                rw [if_pos hT1] at q76
                obtain ⟨hr1_, hS1_, hg1_⟩ := q76
                rw [hr1_]
                have hG1_ := FrR.tr hG1 hg1_
                have hk301 := hx51 k1 (by omega)
                refine M.if_eq (tgt := 220) rfl (qI (by decide)) (by decide) (fun q => absurd q (by decide)) (fun _ => ?_)
                refine M.run 2 (pc' := 221) (lv' := [some (vr o), some (vi ((op : Nat) : Int)), some (vi ((gTk L j).1)), some (vi ((gTk L j).2.1)), some (vi 1)]) (st' := [vi 1]) rfl ?_
                exact M.zret rfl (Or.inr rfl) (Nat.zero_le _) (Nat.zero_le _) (by show PQ o L c1 c2 j ly m1 m2 f1 f2 fc fq w _ _ ((pOne L ly op fs fo fe) j); rw [pOne_b (by omega) (by omega) hR1 hT1]; exact ⟨rfl, hG1_, ⟨by omega, by omega⟩, hK1, _, hS1_, hC1, hU1⟩)
              · skip
                rw [if_neg hT1] at q76
                obtain ⟨hr1_, hS1_, hg1_⟩ := q76
                rw [hr1_]
                have hG1_ := FrR.tr hG1 hg1_
                refine M.if_eq (tgt := 220) rfl (qI (by decide)) (by decide) (fun _ => ?_) (fun q => absurd q (by decide))
                refine M.run 1 (pc' := 221) (lv' := [some (vr o), some (vi ((op : Nat) : Int)), some (vi ((gTk L j).1)), some (vi ((gTk L j).2.1)), some (vi 1)]) (st' := [vi 0]) rfl ?_
                exact M.zret rfl (Or.inl rfl) (Nat.zero_le _) (Nat.zero_le _) (by show PQ o L c1 c2 j ly m1 m2 f1 f2 fc fq w _ _ ((pOne L ly op fs fo fe) j); rw [pOne_c (by omega) (by omega) hR1 hT1]; exact ⟨rfl, hG1_, hy1, _, _, hS1_⟩)
            · skip
              rw [hR1] at q75
              obtain ⟨hr1, hg1, hy1, dd1, gc1, hS1⟩ := q75
              rw [hr1]
              have hG1 := FrR.tr hF74 hg1
              refine M.if_eq (tgt := 220) rfl (qI (by decide)) (by decide) (fun _ => ?_) (fun q => absurd q (by decide))
              refine M.run 1 (pc' := 221) (lv' := [some (vr o), some (vi ((op : Nat) : Int)), some (vi ((gTk L j).1)), some (vi ((gTk L j).2.1)), some (vi 1)]) (st' := [vi 0]) rfl ?_
              exact M.zret rfl (Or.inl rfl) (Nat.zero_le _) (Nat.zero_le _) (by show PQ o L c1 c2 j ly m1 m2 f1 f2 fc fq w _ _ ((pOne L ly op fs fo fe) j); rw [pOne_e (by omega) (by omega) hR1]; exact ⟨rfl, hG1, hy1, _, _, hS1⟩)
          by_cases hs97_5 : (gTk L j).1 = 50
          · refine M.lsw (tgt := 156) (off := 59) rfl (qI (by omega)) (by decide) (by rw [hs97_5]; rfl) (by decide) ?_
            refine M.run 2 (pc' := 160) (lv' := [some (vr o), some (vi ((op : Nat) : Int)), some (vi ((gTk L j).1)), some (vi ((gTk L j).2.1)), some (vi 1)]) (st' := [vi 9999, vi ((gTk L j).2.1)]) rfl ?_
            refine M.icmp_le (tgt := 169) rfl (qI (by omega)) (qI (by decide)) (by decide) (fun h160 => ?_) (fun h160 => ?_)
            · skip
              have hk300 := hx51 j (by omega)
              refine M.run 2 (pc' := 171) (lv' := [some (vr o), some (vi ((op : Nat) : Int)), some (vi ((gTk L j).1)), some (vi ((gTk L j).2.1)), some (vi 1)]) (st' := [vr o, vr o]) rfl ?_
              refine M.get fl_X3_38 rfl hP.1 (kf := 5) (v := vi ((j : Nat) : Int)) rfl ?_
              refine M.run 2 (pc' := 176) (lv' := [some (vr o), some (vi ((op : Nat) : Int)), some (vi ((gTk L j).1)), some (vi ((gTk L j).2.1)), some (vi 1)]) (st' := [vi (((j : Nat) : Int) + 1), vr o]) rfl ?_
              rw [show ((j : Nat) : Int) + 1 = ((j + 1 : Nat) : Int) from by omega]
              refine M.put fl_X3_38 rfl (hP.1) rfl rfl (Nat.le_of_ble_eq_true rfl) ?_
              change g 0 0 (up w o (Ob 2 [vr (o + 1), vr (o + 5), vr (o + 6), vi ((c1 : Nat) : Int), vi ((c2 : Nat) : Int), vi ((j + 1 : Nat) : Int), vi ly, vr m1, vr m2, vi f1, vi f2])) 179 [some (vr o), some (vi ((op : Nat) : Int)), some (vi ((gTk L j).1)), some (vi ((gTk L j).2.1)), some (vi 1)] []
              have hR77 : isRe o L c1 c2 (j + 1) ly m1 m2 f1 f2 fc fq (up w o (Ob 2 [vr (o + 1), vr (o + 5), vr (o + 6), vi ((c1 : Nat) : Int), vi ((c2 : Nat) : Int), vi ((j + 1 : Nat) : Int), vi ly, vr m1, vr m2, vi f1, vi f2])) := isRe_1 hP
              have hF77 : FrR o w (up w o (Ob 2 [vr (o + 1), vr (o + 5), vr (o + 6), vi ((c1 : Nat) : Int), vi ((c2 : Nat) : Int), vi ((j + 1 : Nat) : Int), vi ly, vr m1, vr m2, vi f1, vi f2])) := FrR.u FrR.rf o (by omega)
              generalize up w o (Ob 2 [vr (o + 1), vr (o + 5), vr (o + 6), vi ((c1 : Nat) : Int), vi ((c2 : Nat) : Int), vi ((j + 1 : Nat) : Int), vi ly, vr m1, vr m2, vi f1, vi f2]) = w77 at hR77 hF77 ⊢
              refine M.run 3 (pc' := 183) (lv' := [some (vr o), some (vi ((op : Nat) : Int)), some (vi ((gTk L j).1)), some (vi ((gTk L j).2.1)), some (vi 1)]) (st' := [vi ((gTk L j).2.1), vi 50, vr o]) rfl ?_
              refine M.callV (kX3_emit l G o L c1 c2 (j + 1) ly m1 m2 f1 f2 fc fq (by omega) 50 ((gTk L j).2.1) (by omega) (by omega)) cv_X3_114 cd_X3_emit rfl (st := []) rfl hR77.1 (by omega) (by decide) rfl (Nat.zero_le _) (Nat.zero_le _) hR77 (fun r79 w80 q81 => ?_)
              obtain ⟨q81r, hR78, q81f⟩ := q81
              rw [q81r]
              have hF78 : FrR o w w80 := FrR.tr hF77 q81f
              exact M.zret rfl (Or.inr rfl) (Nat.zero_le _) (Nat.zero_le _) (by show PQ o L c1 c2 j ly m1 m2 f1 f2 fc fq w _ _ ((pOne L ly op fs fo fe) j); rw [pOne_f (by omega) (by omega)]; exact ⟨rfl, hF78, ⟨(by show 1 + j ≤ j + 1; omega), by omega⟩, okE_lf, _, hR78, lf_at, fun i hi => by rw [uN_o (by omega), uN_o (by omega)]⟩)
            · skip
              refine M.run 2 (pc' := 165) (lv' := [some (vr o), some (vi ((op : Nat) : Int)), some (vi ((gTk L j).1)), some (vi ((gTk L j).2.1)), some (vi 1)]) (st' := [vi 2, vr o]) rfl ?_
              refine M.callV (kX3_refuse l G o L c1 c2 j ly m1 m2 f1 f2 fc fq (by omega) hB 2 (by omega)) cv_X3_73 cd_X3_refuse rfl (st := []) rfl hP.1 (by omega) (by decide) rfl (Nat.zero_le _) (Nat.zero_le _) hP (fun r84 w85 q86 => ?_)
              obtain ⟨q86r, hR83, q86f⟩ := q86
              rw [q86r]
              have hF83 : FrR o w w85 := FrR.tr FrR.rf q86f
              exact M.zret rfl (Or.inl rfl) (Nat.zero_le _) (Nat.zero_le _) (by show PQ o L c1 c2 j ly m1 m2 f1 f2 fc fq w _ _ ((pOne L ly op fs fo fe) j); rw [pOne_g (by omega) (by omega)]; exact ⟨rfl, hF83, hj, _, _, hR83⟩)
          refine M.lsw (tgt := 311) (off := 214) rfl (qI (by omega)) (by decide) (by rw [Op.lookupswitch.offset_cons, if_neg (fun q => hs97_0 q.symm), Op.lookupswitch.offset_cons, if_neg (fun q => hs97_1 q.symm), Op.lookupswitch.offset_cons, if_neg (fun q => hs97_2 q.symm), Op.lookupswitch.offset_cons, if_neg (fun q => hs97_3 q.symm), Op.lookupswitch.offset_cons, if_neg (fun q => hs97_4 q.symm), Op.lookupswitch.offset_cons, if_neg (fun q => hs97_5 q.symm)]; rfl) (by decide) ?_
          refine M.run 2 (pc' := 313) (lv' := [some (vr o), some (vi ((op : Nat) : Int)), some (vi ((gTk L j).1)), some (vi ((gTk L j).2.1)), some (vi 1)]) (st' := [vi 1, vr o]) rfl ?_
          refine M.callV (kX3_refuse l G o L c1 c2 j ly m1 m2 f1 f2 fc fq (by omega) hB 1 (by omega)) cv_X3_73 cd_X3_refuse rfl (st := []) rfl hP.1 (by omega) (by decide) rfl (Nat.zero_le _) (Nat.zero_le _) hP (fun r89 w90 q91 => ?_)
          obtain ⟨q91r, hR88, q91f⟩ := q91
          rw [q91r]
          have hF88 : FrR o w w90 := FrR.tr FrR.rf q91f
          exact M.zret rfl (Or.inl rfl) (Nat.zero_le _) (Nat.zero_le _) (by show PQ o L c1 c2 j ly m1 m2 f1 f2 fc fq w _ _ ((pOne L ly op fs fo fe) j); rw [pOne_o (by omega) (by omega) (by omega)]; exact ⟨rfl, hF88, hj, _, _, hR88⟩)
        · skip
          have hk300 := hx51 j (by omega)
          refine M.run 2 (pc' := 92) (lv' := [some (vr o), some (vi ((op : Nat) : Int)), some (vi ((gTk L j).1)), some (vi ((gTk L j).2.1)), some (vi 1)]) (st' := [vi ((gTk L j).1), vr o]) rfl ?_
          refine M.callV (kX3_name l G o L c1 c2 j ly m1 m2 f1 f2 fc fq (by omega) hB (by omega) hly ((gTk L j).1) (by omega)) cv_X3_121 cd_X3_name rfl (st := []) rfl (hP.1) (by omega) (by decide) rfl (Nat.zero_le _) (Nat.zero_le _) hP (fun r93 w93 q93 => ?_)
          by_cases hT1 : ((gTk L j).1) = (if ly = 0 then 23 else 22)
          · skip
            rw [if_pos hT1] at q93
            obtain ⟨hr1_, hS1_, hg1_⟩ := q93
            rw [hr1_]
            have hG1_ := FrR.tr FrR.rf hg1_
            exact M.zret rfl (Or.inl rfl) (Nat.zero_le _) (Nat.zero_le _) (by show PQ o L c1 c2 j ly m1 m2 f1 f2 fc fq w _ _ ((pOne L ly op fs fo fe) j); rw [pOne_x (by omega) (by omega) hT1]; exact ⟨rfl, hG1_, hj, _, _, hS1_⟩)
          · skip
            rw [if_neg hT1] at q93
            obtain ⟨hr1_, hS1_, hg1_⟩ := q93
            rw [hr1_]
            have hG1_ := FrR.tr FrR.rf hg1_
            exact M.zret rfl (Or.inr rfl) (Nat.zero_le _) (Nat.zero_le _) (by show PQ o L c1 c2 j ly m1 m2 f1 f2 fc fq w _ _ ((pOne L ly op fs fo fe) j); rw [pOne_y (by omega) (by omega) hT1]; exact ⟨rfl, hG1_, ⟨(by show 1 + j ≤ j + 1; omega), by omega⟩, okE_lf, _, hS1_, lf_at, fun i hi => by rw [uN_o (by omega), uN_o (by omega)]⟩)
    · skip
      refine M.run 2 (pc' := 74) (lv' := [some (vr o), some (vi ((op : Nat) : Int)), some (vi ((gTk L j).1)), some (vi ((gTk L j).2.1)), some (vi 1)]) (st' := [vi 3, vr o]) rfl ?_
      refine M.callV (kX3_refuse l G o L c1 c2 j ly m1 m2 f1 f2 fc fq (by omega) hB 3 (by omega)) cv_X3_73 cd_X3_refuse rfl (st := []) rfl hP.1 (by omega) (by decide) rfl (Nat.zero_le _) (Nat.zero_le _) hP (fun r95 w96 q97 => ?_)
      obtain ⟨q97r, hR94, q97f⟩ := q97
      rw [q97r]
      have hF94 : FrR o w w96 := FrR.tr FrR.rf q97f
      exact M.zret rfl (Or.inl rfl) (Nat.zero_le _) (Nat.zero_le _) (by show PQ o L c1 c2 j ly m1 m2 f1 f2 fc fq w _ _ ((pOne L ly op fs fo fe) j); rw [pOne_d ⟨by omega, by omega⟩]; exact ⟨rfl, hF94, hj, _, _, hR94⟩)
  · skip
    refine M.run 2 (pc' := 33) (lv' := [some (vr o), some (vi ((op : Nat) : Int)), some (vi ((gTk L j).1)), some (vi ((gTk L j).2.1)), none]) (st' := [vi 35, vi ((gTk L j).1)]) rfl ?_
    refine M.icmp_eq (tgt := 54) rfl (qI (by omega)) (qI (by decide)) (by decide) (fun h33 => ?_) (fun h33 => ?_)
    · skip
      refine M.run 4 (pc' := 63) (lv' := [some (vr o), some (vi ((op : Nat) : Int)), some (vi ((gTk L j).1)), some (vi ((gTk L j).2.1)), some (vi 1)]) (st' := [vi 1]) rfl ?_
      refine M.if_eq (tgt := 78) rfl (qI (by decide)) (by decide) (fun q => absurd q (by decide)) (fun _ => ?_)
      refine M.run 2 (pc' := 69) (lv' := [some (vr o), some (vi ((op : Nat) : Int)), some (vi ((gTk L j).1)), some (vi ((gTk L j).2.1)), some (vi 1)]) (st' := [vi 8, vi ((op : Nat) : Int)]) rfl ?_
      refine M.icmp_lt (tgt := 78) rfl (qI (by omega)) (qI (by decide)) (by decide) (fun h69 => ?_) (fun h69 => ?_)
      · skip
        refine M.run 2 (pc' := 81) (lv' := [some (vr o), some (vi ((op : Nat) : Int)), some (vi ((gTk L j).1)), some (vi ((gTk L j).2.1)), some (vi 1)]) (st' := [vi 17, vi ((gTk L j).1)]) rfl ?_
        refine M.icmp_lt (tgt := 96) rfl (qI (by omega)) (qI (by decide)) (by decide) (fun h81 => ?_) (fun h81 => ?_)
        · skip
          refine M.run 1 (pc' := 97) (lv' := [some (vr o), some (vi ((op : Nat) : Int)), some (vi ((gTk L j).1)), some (vi ((gTk L j).2.1)), some (vi 1)]) (st' := [vi ((gTk L j).1)]) rfl ?_
          by_cases hs97_0 : (gTk L j).1 = 8
          · refine M.lsw (tgt := 258) (off := 161) rfl (qI (by omega)) (by decide) (by rw [hs97_0]; rfl) (by decide) ?_
            have hk300 := hx51 j (by omega)
            refine M.run 2 (pc' := 260) (lv' := [some (vr o), some (vi ((op : Nat) : Int)), some (vi ((gTk L j).1)), some (vi ((gTk L j).2.1)), some (vi 1)]) (st' := [vr o, vr o]) rfl ?_
            refine M.get fl_X3_38 rfl hP.1 (kf := 5) (v := vi ((j : Nat) : Int)) rfl ?_
            refine M.run 2 (pc' := 265) (lv' := [some (vr o), some (vi ((op : Nat) : Int)), some (vi ((gTk L j).1)), some (vi ((gTk L j).2.1)), some (vi 1)]) (st' := [vi (((j : Nat) : Int) + 1), vr o]) rfl ?_
            rw [show ((j : Nat) : Int) + 1 = ((j + 1 : Nat) : Int) from by omega]
            refine M.put fl_X3_38 rfl (hP.1) rfl rfl (Nat.le_of_ble_eq_true rfl) ?_
            change g 0 0 (up w o (Ob 2 [vr (o + 1), vr (o + 5), vr (o + 6), vi ((c1 : Nat) : Int), vi ((c2 : Nat) : Int), vi ((j + 1 : Nat) : Int), vi ly, vr m1, vr m2, vi f1, vi f2])) 268 [some (vr o), some (vi ((op : Nat) : Int)), some (vi ((gTk L j).1)), some (vi ((gTk L j).2.1)), some (vi 1)] []
            have hR99 : isRe o L c1 c2 (j + 1) ly m1 m2 f1 f2 fc fq (up w o (Ob 2 [vr (o + 1), vr (o + 5), vr (o + 6), vi ((c1 : Nat) : Int), vi ((c2 : Nat) : Int), vi ((j + 1 : Nat) : Int), vi ly, vr m1, vr m2, vi f1, vi f2])) := isRe_1 hP
            have hF99 : FrR o w (up w o (Ob 2 [vr (o + 1), vr (o + 5), vr (o + 6), vi ((c1 : Nat) : Int), vi ((c2 : Nat) : Int), vi ((j + 1 : Nat) : Int), vi ly, vr m1, vr m2, vi f1, vi f2])) := FrR.u FrR.rf o (by omega)
            generalize up w o (Ob 2 [vr (o + 1), vr (o + 5), vr (o + 6), vi ((c1 : Nat) : Int), vi ((c2 : Nat) : Int), vi ((j + 1 : Nat) : Int), vi ly, vr m1, vr m2, vi f1, vi f2]) = w99 at hR99 hF99 ⊢
            refine M.run 4 (pc' := 272) (lv' := [some (vr o), some (vi ((op : Nat) : Int)), some (vi ((gTk L j).1)), some (vi ((gTk L j).2.1)), some (vi 1)]) (st' := [vi (((op : Nat) : Int) + 1), vr o]) rfl ?_
            rw [show ((op : Nat) : Int) + 1 = ((op + 1 : Nat) : Int) from (by omega)]
            refine M.callV (ho (by omega) c1 c2 (j + 1) m1 m2 f1 f2 fc fq (by omega) (by omega)) cv_X3_118 cd_X3_one rfl (st := []) rfl (hR99.1) (by omega) (by decide) rfl (Nat.zero_le _) (Nat.zero_le _) hR99 (fun r100 w100 q100 => ?_)
            rcases hR1 : fo (j + 1) with ⟨e1, k1⟩ | ⟨s1, k1⟩
            · skip
              rw [hR1] at q100
              obtain ⟨hr1, hg1, ⟨hz1, hy1⟩, hK1, gc1, hS1, hC1, hU1⟩ := q100
              rw [hr1]
              have hG1 := FrR.tr hF99 hg1
              refine M.if_eq (tgt := 291) rfl (qI (by decide)) (by decide) (fun q => absurd q (by decide)) (fun _ => ?_)
              refine M.run 3 (pc' := 281) (lv' := [some (vr o), some (vi ((op : Nat) : Int)), some (vi ((gTk L j).1)), some (vi ((gTk L j).2.1)), some (vi 1)]) (st' := [vi 0, vi ((gTk L j).1), vr o]) rfl ?_
              refine M.callV (kX3_emit l G o L (c1 + 2 * szE e1) c2 k1 ly m1 m2 f1 f2 gc1 fq (by omega) ((gTk L j).1) 0 (by omega) (by omega)) cv_X3_114 cd_X3_emit rfl (st := []) rfl hS1.1 (by omega) (by decide) rfl (Nat.zero_le _) (Nat.zero_le _) hS1 (fun r102 w103 q104 => ?_)
              obtain ⟨q104r, hR101, q104f⟩ := q104
              rw [q104r]
              have hF101 : FrR o w w103 := FrR.tr hG1 q104f
              refine M.if_eq (tgt := 291) rfl (qI (by decide)) (by decide) (fun q => absurd q (by decide)) (fun _ => ?_)
              refine M.run 2 (pc' := 292) (lv' := [some (vr o), some (vi ((op : Nat) : Int)), some (vi ((gTk L j).1)), some (vi ((gTk L j).2.1)), some (vi 1)]) (st' := [vi 1]) rfl ?_
              exact M.zret rfl (Or.inr rfl) (Nat.zero_le _) (Nat.zero_le _) (by show PQ o L c1 c2 j ly m1 m2 f1 f2 fc fq w _ _ ((pOne L ly op fs fo fe) j); rw [pOne_u (by omega) (by omega) hR1]; exact ⟨rfl, hF101, ⟨(by show szE e1 + 1 + j ≤ k1; omega), hy1⟩, okE_un hK1, _, (by have hq9 := hR101; rw [show c1 + 2 * szE e1 + 2 = c1 + 2 * szE (unE (gTk L j).1 e1) from by show _ = c1 + 2 * (szE e1 + 1); omega] at hq9; exact hq9), un_at hK1 hC1, fun i hi => by rw [uN_o (by omega), uN_o (by omega)]; exact hU1 i hi⟩)
            · skip
              rw [hR1] at q100
              obtain ⟨hr1, hg1, hy1, dd1, gc1, hS1⟩ := q100
              rw [hr1]
              have hG1 := FrR.tr hF99 hg1
              refine M.if_eq (tgt := 291) rfl (qI (by decide)) (by decide) (fun _ => ?_) (fun q => absurd q (by decide))
              refine M.run 1 (pc' := 292) (lv' := [some (vr o), some (vi ((op : Nat) : Int)), some (vi ((gTk L j).1)), some (vi ((gTk L j).2.1)), some (vi 1)]) (st' := [vi 0]) rfl ?_
              exact M.zret rfl (Or.inl rfl) (Nat.zero_le _) (Nat.zero_le _) (by show PQ o L c1 c2 j ly m1 m2 f1 f2 fc fq w _ _ ((pOne L ly op fs fo fe) j); rw [pOne_v (by omega) (by omega) hR1]; exact ⟨rfl, hG1, hy1, _, _, hS1⟩)
          by_cases hs97_1 : (gTk L j).1 = 9
          · refine M.lsw (tgt := 258) (off := 161) rfl (qI (by omega)) (by decide) (by rw [hs97_1]; rfl) (by decide) ?_
            have hk300 := hx51 j (by omega)
            refine M.run 2 (pc' := 260) (lv' := [some (vr o), some (vi ((op : Nat) : Int)), some (vi ((gTk L j).1)), some (vi ((gTk L j).2.1)), some (vi 1)]) (st' := [vr o, vr o]) rfl ?_
            refine M.get fl_X3_38 rfl hP.1 (kf := 5) (v := vi ((j : Nat) : Int)) rfl ?_
            refine M.run 2 (pc' := 265) (lv' := [some (vr o), some (vi ((op : Nat) : Int)), some (vi ((gTk L j).1)), some (vi ((gTk L j).2.1)), some (vi 1)]) (st' := [vi (((j : Nat) : Int) + 1), vr o]) rfl ?_
            rw [show ((j : Nat) : Int) + 1 = ((j + 1 : Nat) : Int) from by omega]
            refine M.put fl_X3_38 rfl (hP.1) rfl rfl (Nat.le_of_ble_eq_true rfl) ?_
            change g 0 0 (up w o (Ob 2 [vr (o + 1), vr (o + 5), vr (o + 6), vi ((c1 : Nat) : Int), vi ((c2 : Nat) : Int), vi ((j + 1 : Nat) : Int), vi ly, vr m1, vr m2, vi f1, vi f2])) 268 [some (vr o), some (vi ((op : Nat) : Int)), some (vi ((gTk L j).1)), some (vi ((gTk L j).2.1)), some (vi 1)] []
            have hR106 : isRe o L c1 c2 (j + 1) ly m1 m2 f1 f2 fc fq (up w o (Ob 2 [vr (o + 1), vr (o + 5), vr (o + 6), vi ((c1 : Nat) : Int), vi ((c2 : Nat) : Int), vi ((j + 1 : Nat) : Int), vi ly, vr m1, vr m2, vi f1, vi f2])) := isRe_1 hP
            have hF106 : FrR o w (up w o (Ob 2 [vr (o + 1), vr (o + 5), vr (o + 6), vi ((c1 : Nat) : Int), vi ((c2 : Nat) : Int), vi ((j + 1 : Nat) : Int), vi ly, vr m1, vr m2, vi f1, vi f2])) := FrR.u FrR.rf o (by omega)
            generalize up w o (Ob 2 [vr (o + 1), vr (o + 5), vr (o + 6), vi ((c1 : Nat) : Int), vi ((c2 : Nat) : Int), vi ((j + 1 : Nat) : Int), vi ly, vr m1, vr m2, vi f1, vi f2]) = w106 at hR106 hF106 ⊢
            refine M.run 4 (pc' := 272) (lv' := [some (vr o), some (vi ((op : Nat) : Int)), some (vi ((gTk L j).1)), some (vi ((gTk L j).2.1)), some (vi 1)]) (st' := [vi (((op : Nat) : Int) + 1), vr o]) rfl ?_
            rw [show ((op : Nat) : Int) + 1 = ((op + 1 : Nat) : Int) from (by omega)]
            refine M.callV (ho (by omega) c1 c2 (j + 1) m1 m2 f1 f2 fc fq (by omega) (by omega)) cv_X3_118 cd_X3_one rfl (st := []) rfl (hR106.1) (by omega) (by decide) rfl (Nat.zero_le _) (Nat.zero_le _) hR106 (fun r107 w107 q107 => ?_)
            rcases hR1 : fo (j + 1) with ⟨e1, k1⟩ | ⟨s1, k1⟩
            · skip
              rw [hR1] at q107
              obtain ⟨hr1, hg1, ⟨hz1, hy1⟩, hK1, gc1, hS1, hC1, hU1⟩ := q107
              rw [hr1]
              have hG1 := FrR.tr hF106 hg1
              refine M.if_eq (tgt := 291) rfl (qI (by decide)) (by decide) (fun q => absurd q (by decide)) (fun _ => ?_)
              refine M.run 3 (pc' := 281) (lv' := [some (vr o), some (vi ((op : Nat) : Int)), some (vi ((gTk L j).1)), some (vi ((gTk L j).2.1)), some (vi 1)]) (st' := [vi 0, vi ((gTk L j).1), vr o]) rfl ?_
              refine M.callV (kX3_emit l G o L (c1 + 2 * szE e1) c2 k1 ly m1 m2 f1 f2 gc1 fq (by omega) ((gTk L j).1) 0 (by omega) (by omega)) cv_X3_114 cd_X3_emit rfl (st := []) rfl hS1.1 (by omega) (by decide) rfl (Nat.zero_le _) (Nat.zero_le _) hS1 (fun r109 w110 q111 => ?_)
              obtain ⟨q111r, hR108, q111f⟩ := q111
              rw [q111r]
              have hF108 : FrR o w w110 := FrR.tr hG1 q111f
              refine M.if_eq (tgt := 291) rfl (qI (by decide)) (by decide) (fun q => absurd q (by decide)) (fun _ => ?_)
              refine M.run 2 (pc' := 292) (lv' := [some (vr o), some (vi ((op : Nat) : Int)), some (vi ((gTk L j).1)), some (vi ((gTk L j).2.1)), some (vi 1)]) (st' := [vi 1]) rfl ?_
              exact M.zret rfl (Or.inr rfl) (Nat.zero_le _) (Nat.zero_le _) (by show PQ o L c1 c2 j ly m1 m2 f1 f2 fc fq w _ _ ((pOne L ly op fs fo fe) j); rw [pOne_u (by omega) (by omega) hR1]; exact ⟨rfl, hF108, ⟨(by show szE e1 + 1 + j ≤ k1; omega), hy1⟩, okE_un hK1, _, (by have hq9 := hR108; rw [show c1 + 2 * szE e1 + 2 = c1 + 2 * szE (unE (gTk L j).1 e1) from by show _ = c1 + 2 * (szE e1 + 1); omega] at hq9; exact hq9), un_at hK1 hC1, fun i hi => by rw [uN_o (by omega), uN_o (by omega)]; exact hU1 i hi⟩)
            · skip
              rw [hR1] at q107
              obtain ⟨hr1, hg1, hy1, dd1, gc1, hS1⟩ := q107
              rw [hr1]
              have hG1 := FrR.tr hF106 hg1
              refine M.if_eq (tgt := 291) rfl (qI (by decide)) (by decide) (fun _ => ?_) (fun q => absurd q (by decide))
              refine M.run 1 (pc' := 292) (lv' := [some (vr o), some (vi ((op : Nat) : Int)), some (vi ((gTk L j).1)), some (vi ((gTk L j).2.1)), some (vi 1)]) (st' := [vi 0]) rfl ?_
              exact M.zret rfl (Or.inl rfl) (Nat.zero_le _) (Nat.zero_le _) (by show PQ o L c1 c2 j ly m1 m2 f1 f2 fc fq w _ _ ((pOne L ly op fs fo fe) j); rw [pOne_v (by omega) (by omega) hR1]; exact ⟨rfl, hG1, hy1, _, _, hS1⟩)
          by_cases hs97_2 : (gTk L j).1 = 10
          · refine M.lsw (tgt := 293) (off := 196) rfl (qI (by omega)) (by decide) (by rw [hs97_2]; rfl) (by decide) ?_
            have hk300 := hx51 j (by omega)
            refine M.run 2 (pc' := 295) (lv' := [some (vr o), some (vi ((op : Nat) : Int)), some (vi ((gTk L j).1)), some (vi ((gTk L j).2.1)), some (vi 1)]) (st' := [vr o, vr o]) rfl ?_
            refine M.get fl_X3_38 rfl hP.1 (kf := 5) (v := vi ((j : Nat) : Int)) rfl ?_
            refine M.run 2 (pc' := 300) (lv' := [some (vr o), some (vi ((op : Nat) : Int)), some (vi ((gTk L j).1)), some (vi ((gTk L j).2.1)), some (vi 1)]) (st' := [vi (((j : Nat) : Int) + 1), vr o]) rfl ?_
            rw [show ((j : Nat) : Int) + 1 = ((j + 1 : Nat) : Int) from by omega]
            refine M.put fl_X3_38 rfl (hP.1) rfl rfl (Nat.le_of_ble_eq_true rfl) ?_
            change g 0 0 (up w o (Ob 2 [vr (o + 1), vr (o + 5), vr (o + 6), vi ((c1 : Nat) : Int), vi ((c2 : Nat) : Int), vi ((j + 1 : Nat) : Int), vi ly, vr m1, vr m2, vi f1, vi f2])) 303 [some (vr o), some (vi ((op : Nat) : Int)), some (vi ((gTk L j).1)), some (vi ((gTk L j).2.1)), some (vi 1)] []
            have hR113 : isRe o L c1 c2 (j + 1) ly m1 m2 f1 f2 fc fq (up w o (Ob 2 [vr (o + 1), vr (o + 5), vr (o + 6), vi ((c1 : Nat) : Int), vi ((c2 : Nat) : Int), vi ((j + 1 : Nat) : Int), vi ly, vr m1, vr m2, vi f1, vi f2])) := isRe_1 hP
            have hF113 : FrR o w (up w o (Ob 2 [vr (o + 1), vr (o + 5), vr (o + 6), vi ((c1 : Nat) : Int), vi ((c2 : Nat) : Int), vi ((j + 1 : Nat) : Int), vi ly, vr m1, vr m2, vi f1, vi f2])) := FrR.u FrR.rf o (by omega)
            generalize up w o (Ob 2 [vr (o + 1), vr (o + 5), vr (o + 6), vi ((c1 : Nat) : Int), vi ((c2 : Nat) : Int), vi ((j + 1 : Nat) : Int), vi ly, vr m1, vr m2, vi f1, vi f2]) = w113 at hR113 hF113 ⊢
            refine M.run 4 (pc' := 307) (lv' := [some (vr o), some (vi ((op : Nat) : Int)), some (vi ((gTk L j).1)), some (vi ((gTk L j).2.1)), some (vi 1)]) (st' := [vi (((op : Nat) : Int) + 1), vr o]) rfl ?_
            rw [show ((op : Nat) : Int) + 1 = ((op + 1 : Nat) : Int) from (by omega)]
            refine M.callV (he (by omega) c1 c2 (j + 1) m1 m2 f1 f2 fc fq (by omega) (by omega)) cv_X3_124 cd_X3_choice rfl (st := []) rfl (hR113.1) (by omega) (by decide) rfl (Nat.zero_le _) (Nat.zero_le _) hR113 (fun r114 w114 q114 => ?_)
            rcases hR1 : fe (j + 1) with ⟨e1, k1⟩ | ⟨s1, k1⟩
            · skip
              rw [hR1] at q114
              obtain ⟨hr1, hg1, ⟨hz1, hy1⟩, hK1, gc1, hS1, hC1, hU1⟩ := q114
              rw [hr1]
              have hG1 := FrR.tr hF113 hg1
              exact M.zret rfl (Or.inr rfl) (Nat.zero_le _) (Nat.zero_le _) (by show PQ o L c1 c2 j ly m1 m2 f1 f2 fc fq w _ _ ((pOne L ly op fs fo fe) j); rw [pOne_i (by omega) (by omega), hR1]; exact ⟨rfl, hG1, ⟨by omega, hy1⟩, hK1, _, hS1, hC1, hU1⟩)
            · skip
              rw [hR1] at q114
              obtain ⟨hr1, hg1, hy1, dd1, gc1, hS1⟩ := q114
              rw [hr1]
              have hG1 := FrR.tr hF113 hg1
              exact M.zret rfl (Or.inl rfl) (Nat.zero_le _) (Nat.zero_le _) (by show PQ o L c1 c2 j ly m1 m2 f1 f2 fc fq w _ _ ((pOne L ly op fs fo fe) j); rw [pOne_i (by omega) (by omega), hR1]; exact ⟨rfl, hG1, hy1, _, _, hS1⟩)
          by_cases hs97_3 : (gTk L j).1 = 35
          · refine M.lsw (tgt := 222) (off := 125) rfl (qI (by omega)) (by decide) (by rw [hs97_3]; rfl) (by decide) ?_
            have hk300 := hx51 j (by omega)
            refine M.run 2 (pc' := 224) (lv' := [some (vr o), some (vi ((op : Nat) : Int)), some (vi ((gTk L j).1)), some (vi ((gTk L j).2.1)), some (vi 1)]) (st' := [vr o, vr o]) rfl ?_
            refine M.get fl_X3_38 rfl hP.1 (kf := 5) (v := vi ((j : Nat) : Int)) rfl ?_
            refine M.run 2 (pc' := 229) (lv' := [some (vr o), some (vi ((op : Nat) : Int)), some (vi ((gTk L j).1)), some (vi ((gTk L j).2.1)), some (vi 1)]) (st' := [vi (((j : Nat) : Int) + 1), vr o]) rfl ?_
            rw [show ((j : Nat) : Int) + 1 = ((j + 1 : Nat) : Int) from by omega]
            refine M.put fl_X3_38 rfl (hP.1) rfl rfl (Nat.le_of_ble_eq_true rfl) ?_
            change g 0 0 (up w o (Ob 2 [vr (o + 1), vr (o + 5), vr (o + 6), vi ((c1 : Nat) : Int), vi ((c2 : Nat) : Int), vi ((j + 1 : Nat) : Int), vi ly, vr m1, vr m2, vi f1, vi f2])) 232 [some (vr o), some (vi ((op : Nat) : Int)), some (vi ((gTk L j).1)), some (vi ((gTk L j).2.1)), some (vi 1)] []
            have hR115 : isRe o L c1 c2 (j + 1) ly m1 m2 f1 f2 fc fq (up w o (Ob 2 [vr (o + 1), vr (o + 5), vr (o + 6), vi ((c1 : Nat) : Int), vi ((c2 : Nat) : Int), vi ((j + 1 : Nat) : Int), vi ly, vr m1, vr m2, vi f1, vi f2])) := isRe_1 hP
            have hF115 : FrR o w (up w o (Ob 2 [vr (o + 1), vr (o + 5), vr (o + 6), vi ((c1 : Nat) : Int), vi ((c2 : Nat) : Int), vi ((j + 1 : Nat) : Int), vi ly, vr m1, vr m2, vi f1, vi f2])) := FrR.u FrR.rf o (by omega)
            generalize up w o (Ob 2 [vr (o + 1), vr (o + 5), vr (o + 6), vi ((c1 : Nat) : Int), vi ((c2 : Nat) : Int), vi ((j + 1 : Nat) : Int), vi ly, vr m1, vr m2, vi f1, vi f2]) = w115 at hR115 hF115 ⊢
            refine M.run 4 (pc' := 236) (lv' := [some (vr o), some (vi ((op : Nat) : Int)), some (vi ((gTk L j).1)), some (vi ((gTk L j).2.1)), some (vi 1)]) (st' := [vi (((op : Nat) : Int) + 1), vr o]) rfl ?_
            rw [show ((op : Nat) : Int) + 1 = ((op + 1 : Nat) : Int) from (by omega)]
            refine M.callV (ho (by omega) c1 c2 (j + 1) m1 m2 f1 f2 fc fq (by omega) (by omega)) cv_X3_118 cd_X3_one rfl (st := []) rfl (hR115.1) (by omega) (by decide) rfl (Nat.zero_le _) (Nat.zero_le _) hR115 (fun r116 w116 q116 => ?_)
            rcases hR1 : fo (j + 1) with ⟨e1, k1⟩ | ⟨s1, k1⟩
            · skip
              rw [hR1] at q116
              obtain ⟨hr1, hg1, ⟨hz1, hy1⟩, hK1, gc1, hS1, hC1, hU1⟩ := q116
              rw [hr1]
              have hG1 := FrR.tr hF115 hg1
              refine M.if_eq (tgt := 256) rfl (qI (by decide)) (by decide) (fun q => absurd q (by decide)) (fun _ => ?_)
              refine M.run 3 (pc' := 246) (lv' := [some (vr o), some (vi ((op : Nat) : Int)), some (vi ((gTk L j).1)), some (vi ((gTk L j).2.1)), some (vi 1)]) (st' := [vi 0, vi 60, vr o]) rfl ?_
              refine M.callV (kX3_emit l G o L (c1 + 2 * szE e1) c2 k1 ly m1 m2 f1 f2 gc1 fq (by omega) 60 0 (by omega) (by omega)) cv_X3_114 cd_X3_emit rfl (st := []) rfl hS1.1 (by omega) (by decide) rfl (Nat.zero_le _) (Nat.zero_le _) hS1 (fun r118 w119 q120 => ?_)
              obtain ⟨q120r, hR117, q120f⟩ := q120
              rw [q120r]
              have hF117 : FrR o w w119 := FrR.tr hG1 q120f
              refine M.if_eq (tgt := 256) rfl (qI (by decide)) (by decide) (fun q => absurd q (by decide)) (fun _ => ?_)
              refine M.run 2 (pc' := 257) (lv' := [some (vr o), some (vi ((op : Nat) : Int)), some (vi ((gTk L j).1)), some (vi ((gTk L j).2.1)), some (vi 1)]) (st' := [vi 1]) rfl ?_
              exact M.zret rfl (Or.inr rfl) (Nat.zero_le _) (Nat.zero_le _) (by show PQ o L c1 c2 j ly m1 m2 f1 f2 fc fq w _ _ ((pOne L ly op fs fo fe) j); rw [pOne_m (by omega) (by omega) hR1]; exact ⟨rfl, hF117, ⟨(by show szE e1 + 1 + j ≤ k1; omega), hy1⟩, okE_un hK1, _, (by have hq9 := hR117; rw [show c1 + 2 * szE e1 + 2 = c1 + 2 * szE (unE 60 e1) from by show _ = c1 + 2 * (szE e1 + 1); omega] at hq9; exact hq9), un_at hK1 hC1, fun i hi => by rw [uN_o (by omega), uN_o (by omega)]; exact hU1 i hi⟩)
            · skip
              rw [hR1] at q116
              obtain ⟨hr1, hg1, hy1, dd1, gc1, hS1⟩ := q116
              rw [hr1]
              have hG1 := FrR.tr hF115 hg1
              refine M.if_eq (tgt := 256) rfl (qI (by decide)) (by decide) (fun _ => ?_) (fun q => absurd q (by decide))
              refine M.run 1 (pc' := 257) (lv' := [some (vr o), some (vi ((op : Nat) : Int)), some (vi ((gTk L j).1)), some (vi ((gTk L j).2.1)), some (vi 1)]) (st' := [vi 0]) rfl ?_
              exact M.zret rfl (Or.inl rfl) (Nat.zero_le _) (Nat.zero_le _) (by show PQ o L c1 c2 j ly m1 m2 f1 f2 fc fq w _ _ ((pOne L ly op fs fo fe) j); rw [pOne_n (by omega) (by omega) hR1]; exact ⟨rfl, hG1, hy1, _, _, hS1⟩)
          by_cases hs97_4 : (gTk L j).1 = 38
          · refine M.lsw (tgt := 187) (off := 90) rfl (qI (by omega)) (by decide) (by rw [hs97_4]; rfl) (by decide) ?_
            have hk300 := hx51 j (by omega)
            refine M.run 2 (pc' := 189) (lv' := [some (vr o), some (vi ((op : Nat) : Int)), some (vi ((gTk L j).1)), some (vi ((gTk L j).2.1)), some (vi 1)]) (st' := [vr o, vr o]) rfl ?_
            refine M.get fl_X3_38 rfl hP.1 (kf := 5) (v := vi ((j : Nat) : Int)) rfl ?_
            refine M.run 2 (pc' := 194) (lv' := [some (vr o), some (vi ((op : Nat) : Int)), some (vi ((gTk L j).1)), some (vi ((gTk L j).2.1)), some (vi 1)]) (st' := [vi (((j : Nat) : Int) + 1), vr o]) rfl ?_
            rw [show ((j : Nat) : Int) + 1 = ((j + 1 : Nat) : Int) from by omega]
            refine M.put fl_X3_38 rfl (hP.1) rfl rfl (Nat.le_of_ble_eq_true rfl) ?_
            change g 0 0 (up w o (Ob 2 [vr (o + 1), vr (o + 5), vr (o + 6), vi ((c1 : Nat) : Int), vi ((c2 : Nat) : Int), vi ((j + 1 : Nat) : Int), vi ly, vr m1, vr m2, vi f1, vi f2])) 197 [some (vr o), some (vi ((op : Nat) : Int)), some (vi ((gTk L j).1)), some (vi ((gTk L j).2.1)), some (vi 1)] []
            have hR122 : isRe o L c1 c2 (j + 1) ly m1 m2 f1 f2 fc fq (up w o (Ob 2 [vr (o + 1), vr (o + 5), vr (o + 6), vi ((c1 : Nat) : Int), vi ((c2 : Nat) : Int), vi ((j + 1 : Nat) : Int), vi ly, vr m1, vr m2, vi f1, vi f2])) := isRe_1 hP
            have hF122 : FrR o w (up w o (Ob 2 [vr (o + 1), vr (o + 5), vr (o + 6), vi ((c1 : Nat) : Int), vi ((c2 : Nat) : Int), vi ((j + 1 : Nat) : Int), vi ly, vr m1, vr m2, vi f1, vi f2])) := FrR.u FrR.rf o (by omega)
            generalize up w o (Ob 2 [vr (o + 1), vr (o + 5), vr (o + 6), vi ((c1 : Nat) : Int), vi ((c2 : Nat) : Int), vi ((j + 1 : Nat) : Int), vi ly, vr m1, vr m2, vi f1, vi f2]) = w122 at hR122 hF122 ⊢
            refine M.run 4 (pc' := 201) (lv' := [some (vr o), some (vi ((op : Nat) : Int)), some (vi ((gTk L j).1)), some (vi ((gTk L j).2.1)), some (vi 1)]) (st' := [vi (((op : Nat) : Int) + 1), vr o]) rfl ?_
            rw [show ((op : Nat) : Int) + 1 = ((op + 1 : Nat) : Int) from (by omega)]
            refine M.callV (hs (by omega) c1 c2 (j + 1) m1 m2 f1 f2 fc fq (by omega) (by omega)) cv_X3_89 cd_X3_sum rfl (st := []) rfl (hR122.1) (by omega) (by decide) rfl (Nat.zero_le _) (Nat.zero_le _) hR122 (fun r123 w123 q123 => ?_)
            rcases hR1 : fs (j + 1) with ⟨e1, k1⟩ | ⟨s1, k1⟩
            · skip
              rw [hR1] at q123
              obtain ⟨hr1, hg1, ⟨hz1, hy1⟩, hK1, gc1, hS1, hC1, hU1⟩ := q123
              rw [hr1]
              have hG1 := FrR.tr hF122 hg1
              refine M.if_eq (tgt := 220) rfl (qI (by decide)) (by decide) (fun q => absurd q (by decide)) (fun _ => ?_)
              refine M.run 2 (pc' := 210) (lv' := [some (vr o), some (vi ((op : Nat) : Int)), some (vi ((gTk L j).1)), some (vi ((gTk L j).2.1)), some (vi 1)]) (st' := [vi 39, vr o]) rfl ?_
              refine M.callV (kX3_take l G o L (c1 + 2 * szE e1) c2 k1 ly m1 m2 f1 f2 gc1 fq (by omega) hB 39 (by omega)) cv_X3_92 cd_X3_take rfl (st := []) rfl (hS1.1) (by omega) (by decide) rfl (Nat.zero_le _) (Nat.zero_le _) hS1 (fun r124 w124 q124 => ?_)
              by_cases hT1 : (gTk L k1).1 = 39
              · skip
                rw [if_pos hT1] at q124
                obtain ⟨hr1_, hS1_, hg1_⟩ := q124
                rw [hr1_]
                have hG1_ := FrR.tr hG1 hg1_
                have hk301 := hx51 k1 (by omega)
                refine M.if_eq (tgt := 220) rfl (qI (by decide)) (by decide) (fun q => absurd q (by decide)) (fun _ => ?_)
                refine M.run 2 (pc' := 221) (lv' := [some (vr o), some (vi ((op : Nat) : Int)), some (vi ((gTk L j).1)), some (vi ((gTk L j).2.1)), some (vi 1)]) (st' := [vi 1]) rfl ?_
                exact M.zret rfl (Or.inr rfl) (Nat.zero_le _) (Nat.zero_le _) (by show PQ o L c1 c2 j ly m1 m2 f1 f2 fc fq w _ _ ((pOne L ly op fs fo fe) j); rw [pOne_b (by omega) (by omega) hR1 hT1]; exact ⟨rfl, hG1_, ⟨by omega, by omega⟩, hK1, _, hS1_, hC1, hU1⟩)
              · skip
                rw [if_neg hT1] at q124
                obtain ⟨hr1_, hS1_, hg1_⟩ := q124
                rw [hr1_]
                have hG1_ := FrR.tr hG1 hg1_
                refine M.if_eq (tgt := 220) rfl (qI (by decide)) (by decide) (fun _ => ?_) (fun q => absurd q (by decide))
                refine M.run 1 (pc' := 221) (lv' := [some (vr o), some (vi ((op : Nat) : Int)), some (vi ((gTk L j).1)), some (vi ((gTk L j).2.1)), some (vi 1)]) (st' := [vi 0]) rfl ?_
                exact M.zret rfl (Or.inl rfl) (Nat.zero_le _) (Nat.zero_le _) (by show PQ o L c1 c2 j ly m1 m2 f1 f2 fc fq w _ _ ((pOne L ly op fs fo fe) j); rw [pOne_c (by omega) (by omega) hR1 hT1]; exact ⟨rfl, hG1_, hy1, _, _, hS1_⟩)
            · skip
              rw [hR1] at q123
              obtain ⟨hr1, hg1, hy1, dd1, gc1, hS1⟩ := q123
              rw [hr1]
              have hG1 := FrR.tr hF122 hg1
              refine M.if_eq (tgt := 220) rfl (qI (by decide)) (by decide) (fun _ => ?_) (fun q => absurd q (by decide))
              refine M.run 1 (pc' := 221) (lv' := [some (vr o), some (vi ((op : Nat) : Int)), some (vi ((gTk L j).1)), some (vi ((gTk L j).2.1)), some (vi 1)]) (st' := [vi 0]) rfl ?_
              exact M.zret rfl (Or.inl rfl) (Nat.zero_le _) (Nat.zero_le _) (by show PQ o L c1 c2 j ly m1 m2 f1 f2 fc fq w _ _ ((pOne L ly op fs fo fe) j); rw [pOne_e (by omega) (by omega) hR1]; exact ⟨rfl, hG1, hy1, _, _, hS1⟩)
          by_cases hs97_5 : (gTk L j).1 = 50
          · refine M.lsw (tgt := 156) (off := 59) rfl (qI (by omega)) (by decide) (by rw [hs97_5]; rfl) (by decide) ?_
            refine M.run 2 (pc' := 160) (lv' := [some (vr o), some (vi ((op : Nat) : Int)), some (vi ((gTk L j).1)), some (vi ((gTk L j).2.1)), some (vi 1)]) (st' := [vi 9999, vi ((gTk L j).2.1)]) rfl ?_
            refine M.icmp_le (tgt := 169) rfl (qI (by omega)) (qI (by decide)) (by decide) (fun h160 => ?_) (fun h160 => ?_)
            · skip
              have hk300 := hx51 j (by omega)
              refine M.run 2 (pc' := 171) (lv' := [some (vr o), some (vi ((op : Nat) : Int)), some (vi ((gTk L j).1)), some (vi ((gTk L j).2.1)), some (vi 1)]) (st' := [vr o, vr o]) rfl ?_
              refine M.get fl_X3_38 rfl hP.1 (kf := 5) (v := vi ((j : Nat) : Int)) rfl ?_
              refine M.run 2 (pc' := 176) (lv' := [some (vr o), some (vi ((op : Nat) : Int)), some (vi ((gTk L j).1)), some (vi ((gTk L j).2.1)), some (vi 1)]) (st' := [vi (((j : Nat) : Int) + 1), vr o]) rfl ?_
              rw [show ((j : Nat) : Int) + 1 = ((j + 1 : Nat) : Int) from by omega]
              refine M.put fl_X3_38 rfl (hP.1) rfl rfl (Nat.le_of_ble_eq_true rfl) ?_
              change g 0 0 (up w o (Ob 2 [vr (o + 1), vr (o + 5), vr (o + 6), vi ((c1 : Nat) : Int), vi ((c2 : Nat) : Int), vi ((j + 1 : Nat) : Int), vi ly, vr m1, vr m2, vi f1, vi f2])) 179 [some (vr o), some (vi ((op : Nat) : Int)), some (vi ((gTk L j).1)), some (vi ((gTk L j).2.1)), some (vi 1)] []
              have hR125 : isRe o L c1 c2 (j + 1) ly m1 m2 f1 f2 fc fq (up w o (Ob 2 [vr (o + 1), vr (o + 5), vr (o + 6), vi ((c1 : Nat) : Int), vi ((c2 : Nat) : Int), vi ((j + 1 : Nat) : Int), vi ly, vr m1, vr m2, vi f1, vi f2])) := isRe_1 hP
              have hF125 : FrR o w (up w o (Ob 2 [vr (o + 1), vr (o + 5), vr (o + 6), vi ((c1 : Nat) : Int), vi ((c2 : Nat) : Int), vi ((j + 1 : Nat) : Int), vi ly, vr m1, vr m2, vi f1, vi f2])) := FrR.u FrR.rf o (by omega)
              generalize up w o (Ob 2 [vr (o + 1), vr (o + 5), vr (o + 6), vi ((c1 : Nat) : Int), vi ((c2 : Nat) : Int), vi ((j + 1 : Nat) : Int), vi ly, vr m1, vr m2, vi f1, vi f2]) = w125 at hR125 hF125 ⊢
              refine M.run 3 (pc' := 183) (lv' := [some (vr o), some (vi ((op : Nat) : Int)), some (vi ((gTk L j).1)), some (vi ((gTk L j).2.1)), some (vi 1)]) (st' := [vi ((gTk L j).2.1), vi 50, vr o]) rfl ?_
              refine M.callV (kX3_emit l G o L c1 c2 (j + 1) ly m1 m2 f1 f2 fc fq (by omega) 50 ((gTk L j).2.1) (by omega) (by omega)) cv_X3_114 cd_X3_emit rfl (st := []) rfl hR125.1 (by omega) (by decide) rfl (Nat.zero_le _) (Nat.zero_le _) hR125 (fun r127 w128 q129 => ?_)
              obtain ⟨q129r, hR126, q129f⟩ := q129
              rw [q129r]
              have hF126 : FrR o w w128 := FrR.tr hF125 q129f
              exact M.zret rfl (Or.inr rfl) (Nat.zero_le _) (Nat.zero_le _) (by show PQ o L c1 c2 j ly m1 m2 f1 f2 fc fq w _ _ ((pOne L ly op fs fo fe) j); rw [pOne_f (by omega) (by omega)]; exact ⟨rfl, hF126, ⟨(by show 1 + j ≤ j + 1; omega), by omega⟩, okE_lf, _, hR126, lf_at, fun i hi => by rw [uN_o (by omega), uN_o (by omega)]⟩)
            · skip
              refine M.run 2 (pc' := 165) (lv' := [some (vr o), some (vi ((op : Nat) : Int)), some (vi ((gTk L j).1)), some (vi ((gTk L j).2.1)), some (vi 1)]) (st' := [vi 2, vr o]) rfl ?_
              refine M.callV (kX3_refuse l G o L c1 c2 j ly m1 m2 f1 f2 fc fq (by omega) hB 2 (by omega)) cv_X3_73 cd_X3_refuse rfl (st := []) rfl hP.1 (by omega) (by decide) rfl (Nat.zero_le _) (Nat.zero_le _) hP (fun r132 w133 q134 => ?_)
              obtain ⟨q134r, hR131, q134f⟩ := q134
              rw [q134r]
              have hF131 : FrR o w w133 := FrR.tr FrR.rf q134f
              exact M.zret rfl (Or.inl rfl) (Nat.zero_le _) (Nat.zero_le _) (by show PQ o L c1 c2 j ly m1 m2 f1 f2 fc fq w _ _ ((pOne L ly op fs fo fe) j); rw [pOne_g (by omega) (by omega)]; exact ⟨rfl, hF131, hj, _, _, hR131⟩)
          refine M.lsw (tgt := 311) (off := 214) rfl (qI (by omega)) (by decide) (by rw [Op.lookupswitch.offset_cons, if_neg (fun q => hs97_0 q.symm), Op.lookupswitch.offset_cons, if_neg (fun q => hs97_1 q.symm), Op.lookupswitch.offset_cons, if_neg (fun q => hs97_2 q.symm), Op.lookupswitch.offset_cons, if_neg (fun q => hs97_3 q.symm), Op.lookupswitch.offset_cons, if_neg (fun q => hs97_4 q.symm), Op.lookupswitch.offset_cons, if_neg (fun q => hs97_5 q.symm)]; rfl) (by decide) ?_
          refine M.run 2 (pc' := 313) (lv' := [some (vr o), some (vi ((op : Nat) : Int)), some (vi ((gTk L j).1)), some (vi ((gTk L j).2.1)), some (vi 1)]) (st' := [vi 1, vr o]) rfl ?_
          refine M.callV (kX3_refuse l G o L c1 c2 j ly m1 m2 f1 f2 fc fq (by omega) hB 1 (by omega)) cv_X3_73 cd_X3_refuse rfl (st := []) rfl hP.1 (by omega) (by decide) rfl (Nat.zero_le _) (Nat.zero_le _) hP (fun r137 w138 q139 => ?_)
          obtain ⟨q139r, hR136, q139f⟩ := q139
          rw [q139r]
          have hF136 : FrR o w w138 := FrR.tr FrR.rf q139f
          exact M.zret rfl (Or.inl rfl) (Nat.zero_le _) (Nat.zero_le _) (by show PQ o L c1 c2 j ly m1 m2 f1 f2 fc fq w _ _ ((pOne L ly op fs fo fe) j); rw [pOne_o (by omega) (by omega) (by omega)]; exact ⟨rfl, hF136, hj, _, _, hR136⟩)
        · skip
          refine M.run 2 (pc' := 87) (lv' := [some (vr o), some (vi ((op : Nat) : Int)), some (vi ((gTk L j).1)), some (vi ((gTk L j).2.1)), some (vi 1)]) (st' := [vi 23, vi ((gTk L j).1)]) rfl ?_
          refine M.icmp_gt (tgt := 96) rfl (qI (by omega)) (qI (by decide)) (by decide) (fun h87 => ?_) (fun h87 => ?_)
          · skip
            refine M.run 1 (pc' := 97) (lv' := [some (vr o), some (vi ((op : Nat) : Int)), some (vi ((gTk L j).1)), some (vi ((gTk L j).2.1)), some (vi 1)]) (st' := [vi ((gTk L j).1)]) rfl ?_
            by_cases hs97_0 : (gTk L j).1 = 8
            · refine M.lsw (tgt := 258) (off := 161) rfl (qI (by omega)) (by decide) (by rw [hs97_0]; rfl) (by decide) ?_
              have hk300 := hx51 j (by omega)
              refine M.run 2 (pc' := 260) (lv' := [some (vr o), some (vi ((op : Nat) : Int)), some (vi ((gTk L j).1)), some (vi ((gTk L j).2.1)), some (vi 1)]) (st' := [vr o, vr o]) rfl ?_
              refine M.get fl_X3_38 rfl hP.1 (kf := 5) (v := vi ((j : Nat) : Int)) rfl ?_
              refine M.run 2 (pc' := 265) (lv' := [some (vr o), some (vi ((op : Nat) : Int)), some (vi ((gTk L j).1)), some (vi ((gTk L j).2.1)), some (vi 1)]) (st' := [vi (((j : Nat) : Int) + 1), vr o]) rfl ?_
              rw [show ((j : Nat) : Int) + 1 = ((j + 1 : Nat) : Int) from by omega]
              refine M.put fl_X3_38 rfl (hP.1) rfl rfl (Nat.le_of_ble_eq_true rfl) ?_
              change g 0 0 (up w o (Ob 2 [vr (o + 1), vr (o + 5), vr (o + 6), vi ((c1 : Nat) : Int), vi ((c2 : Nat) : Int), vi ((j + 1 : Nat) : Int), vi ly, vr m1, vr m2, vi f1, vi f2])) 268 [some (vr o), some (vi ((op : Nat) : Int)), some (vi ((gTk L j).1)), some (vi ((gTk L j).2.1)), some (vi 1)] []
              have hR141 : isRe o L c1 c2 (j + 1) ly m1 m2 f1 f2 fc fq (up w o (Ob 2 [vr (o + 1), vr (o + 5), vr (o + 6), vi ((c1 : Nat) : Int), vi ((c2 : Nat) : Int), vi ((j + 1 : Nat) : Int), vi ly, vr m1, vr m2, vi f1, vi f2])) := isRe_1 hP
              have hF141 : FrR o w (up w o (Ob 2 [vr (o + 1), vr (o + 5), vr (o + 6), vi ((c1 : Nat) : Int), vi ((c2 : Nat) : Int), vi ((j + 1 : Nat) : Int), vi ly, vr m1, vr m2, vi f1, vi f2])) := FrR.u FrR.rf o (by omega)
              generalize up w o (Ob 2 [vr (o + 1), vr (o + 5), vr (o + 6), vi ((c1 : Nat) : Int), vi ((c2 : Nat) : Int), vi ((j + 1 : Nat) : Int), vi ly, vr m1, vr m2, vi f1, vi f2]) = w141 at hR141 hF141 ⊢
              refine M.run 4 (pc' := 272) (lv' := [some (vr o), some (vi ((op : Nat) : Int)), some (vi ((gTk L j).1)), some (vi ((gTk L j).2.1)), some (vi 1)]) (st' := [vi (((op : Nat) : Int) + 1), vr o]) rfl ?_
              rw [show ((op : Nat) : Int) + 1 = ((op + 1 : Nat) : Int) from (by omega)]
              refine M.callV (ho (by omega) c1 c2 (j + 1) m1 m2 f1 f2 fc fq (by omega) (by omega)) cv_X3_118 cd_X3_one rfl (st := []) rfl (hR141.1) (by omega) (by decide) rfl (Nat.zero_le _) (Nat.zero_le _) hR141 (fun r142 w142 q142 => ?_)
              rcases hR1 : fo (j + 1) with ⟨e1, k1⟩ | ⟨s1, k1⟩
              · skip
                rw [hR1] at q142
                obtain ⟨hr1, hg1, ⟨hz1, hy1⟩, hK1, gc1, hS1, hC1, hU1⟩ := q142
                rw [hr1]
                have hG1 := FrR.tr hF141 hg1
                refine M.if_eq (tgt := 291) rfl (qI (by decide)) (by decide) (fun q => absurd q (by decide)) (fun _ => ?_)
                refine M.run 3 (pc' := 281) (lv' := [some (vr o), some (vi ((op : Nat) : Int)), some (vi ((gTk L j).1)), some (vi ((gTk L j).2.1)), some (vi 1)]) (st' := [vi 0, vi ((gTk L j).1), vr o]) rfl ?_
                refine M.callV (kX3_emit l G o L (c1 + 2 * szE e1) c2 k1 ly m1 m2 f1 f2 gc1 fq (by omega) ((gTk L j).1) 0 (by omega) (by omega)) cv_X3_114 cd_X3_emit rfl (st := []) rfl hS1.1 (by omega) (by decide) rfl (Nat.zero_le _) (Nat.zero_le _) hS1 (fun r144 w145 q146 => ?_)
                obtain ⟨q146r, hR143, q146f⟩ := q146
                rw [q146r]
                have hF143 : FrR o w w145 := FrR.tr hG1 q146f
                refine M.if_eq (tgt := 291) rfl (qI (by decide)) (by decide) (fun q => absurd q (by decide)) (fun _ => ?_)
                refine M.run 2 (pc' := 292) (lv' := [some (vr o), some (vi ((op : Nat) : Int)), some (vi ((gTk L j).1)), some (vi ((gTk L j).2.1)), some (vi 1)]) (st' := [vi 1]) rfl ?_
                exact M.zret rfl (Or.inr rfl) (Nat.zero_le _) (Nat.zero_le _) (by show PQ o L c1 c2 j ly m1 m2 f1 f2 fc fq w _ _ ((pOne L ly op fs fo fe) j); rw [pOne_u (by omega) (by omega) hR1]; exact ⟨rfl, hF143, ⟨(by show szE e1 + 1 + j ≤ k1; omega), hy1⟩, okE_un hK1, _, (by have hq9 := hR143; rw [show c1 + 2 * szE e1 + 2 = c1 + 2 * szE (unE (gTk L j).1 e1) from by show _ = c1 + 2 * (szE e1 + 1); omega] at hq9; exact hq9), un_at hK1 hC1, fun i hi => by rw [uN_o (by omega), uN_o (by omega)]; exact hU1 i hi⟩)
              · skip
                rw [hR1] at q142
                obtain ⟨hr1, hg1, hy1, dd1, gc1, hS1⟩ := q142
                rw [hr1]
                have hG1 := FrR.tr hF141 hg1
                refine M.if_eq (tgt := 291) rfl (qI (by decide)) (by decide) (fun _ => ?_) (fun q => absurd q (by decide))
                refine M.run 1 (pc' := 292) (lv' := [some (vr o), some (vi ((op : Nat) : Int)), some (vi ((gTk L j).1)), some (vi ((gTk L j).2.1)), some (vi 1)]) (st' := [vi 0]) rfl ?_
                exact M.zret rfl (Or.inl rfl) (Nat.zero_le _) (Nat.zero_le _) (by show PQ o L c1 c2 j ly m1 m2 f1 f2 fc fq w _ _ ((pOne L ly op fs fo fe) j); rw [pOne_v (by omega) (by omega) hR1]; exact ⟨rfl, hG1, hy1, _, _, hS1⟩)
            by_cases hs97_1 : (gTk L j).1 = 9
            · refine M.lsw (tgt := 258) (off := 161) rfl (qI (by omega)) (by decide) (by rw [hs97_1]; rfl) (by decide) ?_
              have hk300 := hx51 j (by omega)
              refine M.run 2 (pc' := 260) (lv' := [some (vr o), some (vi ((op : Nat) : Int)), some (vi ((gTk L j).1)), some (vi ((gTk L j).2.1)), some (vi 1)]) (st' := [vr o, vr o]) rfl ?_
              refine M.get fl_X3_38 rfl hP.1 (kf := 5) (v := vi ((j : Nat) : Int)) rfl ?_
              refine M.run 2 (pc' := 265) (lv' := [some (vr o), some (vi ((op : Nat) : Int)), some (vi ((gTk L j).1)), some (vi ((gTk L j).2.1)), some (vi 1)]) (st' := [vi (((j : Nat) : Int) + 1), vr o]) rfl ?_
              rw [show ((j : Nat) : Int) + 1 = ((j + 1 : Nat) : Int) from by omega]
              refine M.put fl_X3_38 rfl (hP.1) rfl rfl (Nat.le_of_ble_eq_true rfl) ?_
              change g 0 0 (up w o (Ob 2 [vr (o + 1), vr (o + 5), vr (o + 6), vi ((c1 : Nat) : Int), vi ((c2 : Nat) : Int), vi ((j + 1 : Nat) : Int), vi ly, vr m1, vr m2, vi f1, vi f2])) 268 [some (vr o), some (vi ((op : Nat) : Int)), some (vi ((gTk L j).1)), some (vi ((gTk L j).2.1)), some (vi 1)] []
              have hR148 : isRe o L c1 c2 (j + 1) ly m1 m2 f1 f2 fc fq (up w o (Ob 2 [vr (o + 1), vr (o + 5), vr (o + 6), vi ((c1 : Nat) : Int), vi ((c2 : Nat) : Int), vi ((j + 1 : Nat) : Int), vi ly, vr m1, vr m2, vi f1, vi f2])) := isRe_1 hP
              have hF148 : FrR o w (up w o (Ob 2 [vr (o + 1), vr (o + 5), vr (o + 6), vi ((c1 : Nat) : Int), vi ((c2 : Nat) : Int), vi ((j + 1 : Nat) : Int), vi ly, vr m1, vr m2, vi f1, vi f2])) := FrR.u FrR.rf o (by omega)
              generalize up w o (Ob 2 [vr (o + 1), vr (o + 5), vr (o + 6), vi ((c1 : Nat) : Int), vi ((c2 : Nat) : Int), vi ((j + 1 : Nat) : Int), vi ly, vr m1, vr m2, vi f1, vi f2]) = w148 at hR148 hF148 ⊢
              refine M.run 4 (pc' := 272) (lv' := [some (vr o), some (vi ((op : Nat) : Int)), some (vi ((gTk L j).1)), some (vi ((gTk L j).2.1)), some (vi 1)]) (st' := [vi (((op : Nat) : Int) + 1), vr o]) rfl ?_
              rw [show ((op : Nat) : Int) + 1 = ((op + 1 : Nat) : Int) from (by omega)]
              refine M.callV (ho (by omega) c1 c2 (j + 1) m1 m2 f1 f2 fc fq (by omega) (by omega)) cv_X3_118 cd_X3_one rfl (st := []) rfl (hR148.1) (by omega) (by decide) rfl (Nat.zero_le _) (Nat.zero_le _) hR148 (fun r149 w149 q149 => ?_)
              rcases hR1 : fo (j + 1) with ⟨e1, k1⟩ | ⟨s1, k1⟩
              · skip
                rw [hR1] at q149
                obtain ⟨hr1, hg1, ⟨hz1, hy1⟩, hK1, gc1, hS1, hC1, hU1⟩ := q149
                rw [hr1]
                have hG1 := FrR.tr hF148 hg1
                refine M.if_eq (tgt := 291) rfl (qI (by decide)) (by decide) (fun q => absurd q (by decide)) (fun _ => ?_)
                refine M.run 3 (pc' := 281) (lv' := [some (vr o), some (vi ((op : Nat) : Int)), some (vi ((gTk L j).1)), some (vi ((gTk L j).2.1)), some (vi 1)]) (st' := [vi 0, vi ((gTk L j).1), vr o]) rfl ?_
                refine M.callV (kX3_emit l G o L (c1 + 2 * szE e1) c2 k1 ly m1 m2 f1 f2 gc1 fq (by omega) ((gTk L j).1) 0 (by omega) (by omega)) cv_X3_114 cd_X3_emit rfl (st := []) rfl hS1.1 (by omega) (by decide) rfl (Nat.zero_le _) (Nat.zero_le _) hS1 (fun r151 w152 q153 => ?_)
                obtain ⟨q153r, hR150, q153f⟩ := q153
                rw [q153r]
                have hF150 : FrR o w w152 := FrR.tr hG1 q153f
                refine M.if_eq (tgt := 291) rfl (qI (by decide)) (by decide) (fun q => absurd q (by decide)) (fun _ => ?_)
                refine M.run 2 (pc' := 292) (lv' := [some (vr o), some (vi ((op : Nat) : Int)), some (vi ((gTk L j).1)), some (vi ((gTk L j).2.1)), some (vi 1)]) (st' := [vi 1]) rfl ?_
                exact M.zret rfl (Or.inr rfl) (Nat.zero_le _) (Nat.zero_le _) (by show PQ o L c1 c2 j ly m1 m2 f1 f2 fc fq w _ _ ((pOne L ly op fs fo fe) j); rw [pOne_u (by omega) (by omega) hR1]; exact ⟨rfl, hF150, ⟨(by show szE e1 + 1 + j ≤ k1; omega), hy1⟩, okE_un hK1, _, (by have hq9 := hR150; rw [show c1 + 2 * szE e1 + 2 = c1 + 2 * szE (unE (gTk L j).1 e1) from by show _ = c1 + 2 * (szE e1 + 1); omega] at hq9; exact hq9), un_at hK1 hC1, fun i hi => by rw [uN_o (by omega), uN_o (by omega)]; exact hU1 i hi⟩)
              · skip
                rw [hR1] at q149
                obtain ⟨hr1, hg1, hy1, dd1, gc1, hS1⟩ := q149
                rw [hr1]
                have hG1 := FrR.tr hF148 hg1
                refine M.if_eq (tgt := 291) rfl (qI (by decide)) (by decide) (fun _ => ?_) (fun q => absurd q (by decide))
                refine M.run 1 (pc' := 292) (lv' := [some (vr o), some (vi ((op : Nat) : Int)), some (vi ((gTk L j).1)), some (vi ((gTk L j).2.1)), some (vi 1)]) (st' := [vi 0]) rfl ?_
                exact M.zret rfl (Or.inl rfl) (Nat.zero_le _) (Nat.zero_le _) (by show PQ o L c1 c2 j ly m1 m2 f1 f2 fc fq w _ _ ((pOne L ly op fs fo fe) j); rw [pOne_v (by omega) (by omega) hR1]; exact ⟨rfl, hG1, hy1, _, _, hS1⟩)
            by_cases hs97_2 : (gTk L j).1 = 10
            · refine M.lsw (tgt := 293) (off := 196) rfl (qI (by omega)) (by decide) (by rw [hs97_2]; rfl) (by decide) ?_
              have hk300 := hx51 j (by omega)
              refine M.run 2 (pc' := 295) (lv' := [some (vr o), some (vi ((op : Nat) : Int)), some (vi ((gTk L j).1)), some (vi ((gTk L j).2.1)), some (vi 1)]) (st' := [vr o, vr o]) rfl ?_
              refine M.get fl_X3_38 rfl hP.1 (kf := 5) (v := vi ((j : Nat) : Int)) rfl ?_
              refine M.run 2 (pc' := 300) (lv' := [some (vr o), some (vi ((op : Nat) : Int)), some (vi ((gTk L j).1)), some (vi ((gTk L j).2.1)), some (vi 1)]) (st' := [vi (((j : Nat) : Int) + 1), vr o]) rfl ?_
              rw [show ((j : Nat) : Int) + 1 = ((j + 1 : Nat) : Int) from by omega]
              refine M.put fl_X3_38 rfl (hP.1) rfl rfl (Nat.le_of_ble_eq_true rfl) ?_
              change g 0 0 (up w o (Ob 2 [vr (o + 1), vr (o + 5), vr (o + 6), vi ((c1 : Nat) : Int), vi ((c2 : Nat) : Int), vi ((j + 1 : Nat) : Int), vi ly, vr m1, vr m2, vi f1, vi f2])) 303 [some (vr o), some (vi ((op : Nat) : Int)), some (vi ((gTk L j).1)), some (vi ((gTk L j).2.1)), some (vi 1)] []
              have hR155 : isRe o L c1 c2 (j + 1) ly m1 m2 f1 f2 fc fq (up w o (Ob 2 [vr (o + 1), vr (o + 5), vr (o + 6), vi ((c1 : Nat) : Int), vi ((c2 : Nat) : Int), vi ((j + 1 : Nat) : Int), vi ly, vr m1, vr m2, vi f1, vi f2])) := isRe_1 hP
              have hF155 : FrR o w (up w o (Ob 2 [vr (o + 1), vr (o + 5), vr (o + 6), vi ((c1 : Nat) : Int), vi ((c2 : Nat) : Int), vi ((j + 1 : Nat) : Int), vi ly, vr m1, vr m2, vi f1, vi f2])) := FrR.u FrR.rf o (by omega)
              generalize up w o (Ob 2 [vr (o + 1), vr (o + 5), vr (o + 6), vi ((c1 : Nat) : Int), vi ((c2 : Nat) : Int), vi ((j + 1 : Nat) : Int), vi ly, vr m1, vr m2, vi f1, vi f2]) = w155 at hR155 hF155 ⊢
              refine M.run 4 (pc' := 307) (lv' := [some (vr o), some (vi ((op : Nat) : Int)), some (vi ((gTk L j).1)), some (vi ((gTk L j).2.1)), some (vi 1)]) (st' := [vi (((op : Nat) : Int) + 1), vr o]) rfl ?_
              rw [show ((op : Nat) : Int) + 1 = ((op + 1 : Nat) : Int) from (by omega)]
              refine M.callV (he (by omega) c1 c2 (j + 1) m1 m2 f1 f2 fc fq (by omega) (by omega)) cv_X3_124 cd_X3_choice rfl (st := []) rfl (hR155.1) (by omega) (by decide) rfl (Nat.zero_le _) (Nat.zero_le _) hR155 (fun r156 w156 q156 => ?_)
              rcases hR1 : fe (j + 1) with ⟨e1, k1⟩ | ⟨s1, k1⟩
              · skip
                rw [hR1] at q156
                obtain ⟨hr1, hg1, ⟨hz1, hy1⟩, hK1, gc1, hS1, hC1, hU1⟩ := q156
                rw [hr1]
                have hG1 := FrR.tr hF155 hg1
                exact M.zret rfl (Or.inr rfl) (Nat.zero_le _) (Nat.zero_le _) (by show PQ o L c1 c2 j ly m1 m2 f1 f2 fc fq w _ _ ((pOne L ly op fs fo fe) j); rw [pOne_i (by omega) (by omega), hR1]; exact ⟨rfl, hG1, ⟨by omega, hy1⟩, hK1, _, hS1, hC1, hU1⟩)
              · skip
                rw [hR1] at q156
                obtain ⟨hr1, hg1, hy1, dd1, gc1, hS1⟩ := q156
                rw [hr1]
                have hG1 := FrR.tr hF155 hg1
                exact M.zret rfl (Or.inl rfl) (Nat.zero_le _) (Nat.zero_le _) (by show PQ o L c1 c2 j ly m1 m2 f1 f2 fc fq w _ _ ((pOne L ly op fs fo fe) j); rw [pOne_i (by omega) (by omega), hR1]; exact ⟨rfl, hG1, hy1, _, _, hS1⟩)
            by_cases hs97_3 : (gTk L j).1 = 35
            · refine M.lsw (tgt := 222) (off := 125) rfl (qI (by omega)) (by decide) (by rw [hs97_3]; rfl) (by decide) ?_
              have hk300 := hx51 j (by omega)
              refine M.run 2 (pc' := 224) (lv' := [some (vr o), some (vi ((op : Nat) : Int)), some (vi ((gTk L j).1)), some (vi ((gTk L j).2.1)), some (vi 1)]) (st' := [vr o, vr o]) rfl ?_
              refine M.get fl_X3_38 rfl hP.1 (kf := 5) (v := vi ((j : Nat) : Int)) rfl ?_
              refine M.run 2 (pc' := 229) (lv' := [some (vr o), some (vi ((op : Nat) : Int)), some (vi ((gTk L j).1)), some (vi ((gTk L j).2.1)), some (vi 1)]) (st' := [vi (((j : Nat) : Int) + 1), vr o]) rfl ?_
              rw [show ((j : Nat) : Int) + 1 = ((j + 1 : Nat) : Int) from by omega]
              refine M.put fl_X3_38 rfl (hP.1) rfl rfl (Nat.le_of_ble_eq_true rfl) ?_
              change g 0 0 (up w o (Ob 2 [vr (o + 1), vr (o + 5), vr (o + 6), vi ((c1 : Nat) : Int), vi ((c2 : Nat) : Int), vi ((j + 1 : Nat) : Int), vi ly, vr m1, vr m2, vi f1, vi f2])) 232 [some (vr o), some (vi ((op : Nat) : Int)), some (vi ((gTk L j).1)), some (vi ((gTk L j).2.1)), some (vi 1)] []
              have hR157 : isRe o L c1 c2 (j + 1) ly m1 m2 f1 f2 fc fq (up w o (Ob 2 [vr (o + 1), vr (o + 5), vr (o + 6), vi ((c1 : Nat) : Int), vi ((c2 : Nat) : Int), vi ((j + 1 : Nat) : Int), vi ly, vr m1, vr m2, vi f1, vi f2])) := isRe_1 hP
              have hF157 : FrR o w (up w o (Ob 2 [vr (o + 1), vr (o + 5), vr (o + 6), vi ((c1 : Nat) : Int), vi ((c2 : Nat) : Int), vi ((j + 1 : Nat) : Int), vi ly, vr m1, vr m2, vi f1, vi f2])) := FrR.u FrR.rf o (by omega)
              generalize up w o (Ob 2 [vr (o + 1), vr (o + 5), vr (o + 6), vi ((c1 : Nat) : Int), vi ((c2 : Nat) : Int), vi ((j + 1 : Nat) : Int), vi ly, vr m1, vr m2, vi f1, vi f2]) = w157 at hR157 hF157 ⊢
              refine M.run 4 (pc' := 236) (lv' := [some (vr o), some (vi ((op : Nat) : Int)), some (vi ((gTk L j).1)), some (vi ((gTk L j).2.1)), some (vi 1)]) (st' := [vi (((op : Nat) : Int) + 1), vr o]) rfl ?_
              rw [show ((op : Nat) : Int) + 1 = ((op + 1 : Nat) : Int) from (by omega)]
              refine M.callV (ho (by omega) c1 c2 (j + 1) m1 m2 f1 f2 fc fq (by omega) (by omega)) cv_X3_118 cd_X3_one rfl (st := []) rfl (hR157.1) (by omega) (by decide) rfl (Nat.zero_le _) (Nat.zero_le _) hR157 (fun r158 w158 q158 => ?_)
              rcases hR1 : fo (j + 1) with ⟨e1, k1⟩ | ⟨s1, k1⟩
              · skip
                rw [hR1] at q158
                obtain ⟨hr1, hg1, ⟨hz1, hy1⟩, hK1, gc1, hS1, hC1, hU1⟩ := q158
                rw [hr1]
                have hG1 := FrR.tr hF157 hg1
                refine M.if_eq (tgt := 256) rfl (qI (by decide)) (by decide) (fun q => absurd q (by decide)) (fun _ => ?_)
                refine M.run 3 (pc' := 246) (lv' := [some (vr o), some (vi ((op : Nat) : Int)), some (vi ((gTk L j).1)), some (vi ((gTk L j).2.1)), some (vi 1)]) (st' := [vi 0, vi 60, vr o]) rfl ?_
                refine M.callV (kX3_emit l G o L (c1 + 2 * szE e1) c2 k1 ly m1 m2 f1 f2 gc1 fq (by omega) 60 0 (by omega) (by omega)) cv_X3_114 cd_X3_emit rfl (st := []) rfl hS1.1 (by omega) (by decide) rfl (Nat.zero_le _) (Nat.zero_le _) hS1 (fun r160 w161 q162 => ?_)
                obtain ⟨q162r, hR159, q162f⟩ := q162
                rw [q162r]
                have hF159 : FrR o w w161 := FrR.tr hG1 q162f
                refine M.if_eq (tgt := 256) rfl (qI (by decide)) (by decide) (fun q => absurd q (by decide)) (fun _ => ?_)
                refine M.run 2 (pc' := 257) (lv' := [some (vr o), some (vi ((op : Nat) : Int)), some (vi ((gTk L j).1)), some (vi ((gTk L j).2.1)), some (vi 1)]) (st' := [vi 1]) rfl ?_
                exact M.zret rfl (Or.inr rfl) (Nat.zero_le _) (Nat.zero_le _) (by show PQ o L c1 c2 j ly m1 m2 f1 f2 fc fq w _ _ ((pOne L ly op fs fo fe) j); rw [pOne_m (by omega) (by omega) hR1]; exact ⟨rfl, hF159, ⟨(by show szE e1 + 1 + j ≤ k1; omega), hy1⟩, okE_un hK1, _, (by have hq9 := hR159; rw [show c1 + 2 * szE e1 + 2 = c1 + 2 * szE (unE 60 e1) from by show _ = c1 + 2 * (szE e1 + 1); omega] at hq9; exact hq9), un_at hK1 hC1, fun i hi => by rw [uN_o (by omega), uN_o (by omega)]; exact hU1 i hi⟩)
              · skip
                rw [hR1] at q158
                obtain ⟨hr1, hg1, hy1, dd1, gc1, hS1⟩ := q158
                rw [hr1]
                have hG1 := FrR.tr hF157 hg1
                refine M.if_eq (tgt := 256) rfl (qI (by decide)) (by decide) (fun _ => ?_) (fun q => absurd q (by decide))
                refine M.run 1 (pc' := 257) (lv' := [some (vr o), some (vi ((op : Nat) : Int)), some (vi ((gTk L j).1)), some (vi ((gTk L j).2.1)), some (vi 1)]) (st' := [vi 0]) rfl ?_
                exact M.zret rfl (Or.inl rfl) (Nat.zero_le _) (Nat.zero_le _) (by show PQ o L c1 c2 j ly m1 m2 f1 f2 fc fq w _ _ ((pOne L ly op fs fo fe) j); rw [pOne_n (by omega) (by omega) hR1]; exact ⟨rfl, hG1, hy1, _, _, hS1⟩)
            by_cases hs97_4 : (gTk L j).1 = 38
            · refine M.lsw (tgt := 187) (off := 90) rfl (qI (by omega)) (by decide) (by rw [hs97_4]; rfl) (by decide) ?_
              have hk300 := hx51 j (by omega)
              refine M.run 2 (pc' := 189) (lv' := [some (vr o), some (vi ((op : Nat) : Int)), some (vi ((gTk L j).1)), some (vi ((gTk L j).2.1)), some (vi 1)]) (st' := [vr o, vr o]) rfl ?_
              refine M.get fl_X3_38 rfl hP.1 (kf := 5) (v := vi ((j : Nat) : Int)) rfl ?_
              refine M.run 2 (pc' := 194) (lv' := [some (vr o), some (vi ((op : Nat) : Int)), some (vi ((gTk L j).1)), some (vi ((gTk L j).2.1)), some (vi 1)]) (st' := [vi (((j : Nat) : Int) + 1), vr o]) rfl ?_
              rw [show ((j : Nat) : Int) + 1 = ((j + 1 : Nat) : Int) from by omega]
              refine M.put fl_X3_38 rfl (hP.1) rfl rfl (Nat.le_of_ble_eq_true rfl) ?_
              change g 0 0 (up w o (Ob 2 [vr (o + 1), vr (o + 5), vr (o + 6), vi ((c1 : Nat) : Int), vi ((c2 : Nat) : Int), vi ((j + 1 : Nat) : Int), vi ly, vr m1, vr m2, vi f1, vi f2])) 197 [some (vr o), some (vi ((op : Nat) : Int)), some (vi ((gTk L j).1)), some (vi ((gTk L j).2.1)), some (vi 1)] []
              have hR164 : isRe o L c1 c2 (j + 1) ly m1 m2 f1 f2 fc fq (up w o (Ob 2 [vr (o + 1), vr (o + 5), vr (o + 6), vi ((c1 : Nat) : Int), vi ((c2 : Nat) : Int), vi ((j + 1 : Nat) : Int), vi ly, vr m1, vr m2, vi f1, vi f2])) := isRe_1 hP
              have hF164 : FrR o w (up w o (Ob 2 [vr (o + 1), vr (o + 5), vr (o + 6), vi ((c1 : Nat) : Int), vi ((c2 : Nat) : Int), vi ((j + 1 : Nat) : Int), vi ly, vr m1, vr m2, vi f1, vi f2])) := FrR.u FrR.rf o (by omega)
              generalize up w o (Ob 2 [vr (o + 1), vr (o + 5), vr (o + 6), vi ((c1 : Nat) : Int), vi ((c2 : Nat) : Int), vi ((j + 1 : Nat) : Int), vi ly, vr m1, vr m2, vi f1, vi f2]) = w164 at hR164 hF164 ⊢
              refine M.run 4 (pc' := 201) (lv' := [some (vr o), some (vi ((op : Nat) : Int)), some (vi ((gTk L j).1)), some (vi ((gTk L j).2.1)), some (vi 1)]) (st' := [vi (((op : Nat) : Int) + 1), vr o]) rfl ?_
              rw [show ((op : Nat) : Int) + 1 = ((op + 1 : Nat) : Int) from (by omega)]
              refine M.callV (hs (by omega) c1 c2 (j + 1) m1 m2 f1 f2 fc fq (by omega) (by omega)) cv_X3_89 cd_X3_sum rfl (st := []) rfl (hR164.1) (by omega) (by decide) rfl (Nat.zero_le _) (Nat.zero_le _) hR164 (fun r165 w165 q165 => ?_)
              rcases hR1 : fs (j + 1) with ⟨e1, k1⟩ | ⟨s1, k1⟩
              · skip
                rw [hR1] at q165
                obtain ⟨hr1, hg1, ⟨hz1, hy1⟩, hK1, gc1, hS1, hC1, hU1⟩ := q165
                rw [hr1]
                have hG1 := FrR.tr hF164 hg1
                refine M.if_eq (tgt := 220) rfl (qI (by decide)) (by decide) (fun q => absurd q (by decide)) (fun _ => ?_)
                refine M.run 2 (pc' := 210) (lv' := [some (vr o), some (vi ((op : Nat) : Int)), some (vi ((gTk L j).1)), some (vi ((gTk L j).2.1)), some (vi 1)]) (st' := [vi 39, vr o]) rfl ?_
                refine M.callV (kX3_take l G o L (c1 + 2 * szE e1) c2 k1 ly m1 m2 f1 f2 gc1 fq (by omega) hB 39 (by omega)) cv_X3_92 cd_X3_take rfl (st := []) rfl (hS1.1) (by omega) (by decide) rfl (Nat.zero_le _) (Nat.zero_le _) hS1 (fun r166 w166 q166 => ?_)
                by_cases hT1 : (gTk L k1).1 = 39
                · skip
                  rw [if_pos hT1] at q166
                  obtain ⟨hr1_, hS1_, hg1_⟩ := q166
                  rw [hr1_]
                  have hG1_ := FrR.tr hG1 hg1_
                  have hk301 := hx51 k1 (by omega)
                  refine M.if_eq (tgt := 220) rfl (qI (by decide)) (by decide) (fun q => absurd q (by decide)) (fun _ => ?_)
                  refine M.run 2 (pc' := 221) (lv' := [some (vr o), some (vi ((op : Nat) : Int)), some (vi ((gTk L j).1)), some (vi ((gTk L j).2.1)), some (vi 1)]) (st' := [vi 1]) rfl ?_
                  exact M.zret rfl (Or.inr rfl) (Nat.zero_le _) (Nat.zero_le _) (by show PQ o L c1 c2 j ly m1 m2 f1 f2 fc fq w _ _ ((pOne L ly op fs fo fe) j); rw [pOne_b (by omega) (by omega) hR1 hT1]; exact ⟨rfl, hG1_, ⟨by omega, by omega⟩, hK1, _, hS1_, hC1, hU1⟩)
                · skip
                  rw [if_neg hT1] at q166
                  obtain ⟨hr1_, hS1_, hg1_⟩ := q166
                  rw [hr1_]
                  have hG1_ := FrR.tr hG1 hg1_
                  refine M.if_eq (tgt := 220) rfl (qI (by decide)) (by decide) (fun _ => ?_) (fun q => absurd q (by decide))
                  refine M.run 1 (pc' := 221) (lv' := [some (vr o), some (vi ((op : Nat) : Int)), some (vi ((gTk L j).1)), some (vi ((gTk L j).2.1)), some (vi 1)]) (st' := [vi 0]) rfl ?_
                  exact M.zret rfl (Or.inl rfl) (Nat.zero_le _) (Nat.zero_le _) (by show PQ o L c1 c2 j ly m1 m2 f1 f2 fc fq w _ _ ((pOne L ly op fs fo fe) j); rw [pOne_c (by omega) (by omega) hR1 hT1]; exact ⟨rfl, hG1_, hy1, _, _, hS1_⟩)
              · skip
                rw [hR1] at q165
                obtain ⟨hr1, hg1, hy1, dd1, gc1, hS1⟩ := q165
                rw [hr1]
                have hG1 := FrR.tr hF164 hg1
                refine M.if_eq (tgt := 220) rfl (qI (by decide)) (by decide) (fun _ => ?_) (fun q => absurd q (by decide))
                refine M.run 1 (pc' := 221) (lv' := [some (vr o), some (vi ((op : Nat) : Int)), some (vi ((gTk L j).1)), some (vi ((gTk L j).2.1)), some (vi 1)]) (st' := [vi 0]) rfl ?_
                exact M.zret rfl (Or.inl rfl) (Nat.zero_le _) (Nat.zero_le _) (by show PQ o L c1 c2 j ly m1 m2 f1 f2 fc fq w _ _ ((pOne L ly op fs fo fe) j); rw [pOne_e (by omega) (by omega) hR1]; exact ⟨rfl, hG1, hy1, _, _, hS1⟩)
            by_cases hs97_5 : (gTk L j).1 = 50
            · refine M.lsw (tgt := 156) (off := 59) rfl (qI (by omega)) (by decide) (by rw [hs97_5]; rfl) (by decide) ?_
              refine M.run 2 (pc' := 160) (lv' := [some (vr o), some (vi ((op : Nat) : Int)), some (vi ((gTk L j).1)), some (vi ((gTk L j).2.1)), some (vi 1)]) (st' := [vi 9999, vi ((gTk L j).2.1)]) rfl ?_
              refine M.icmp_le (tgt := 169) rfl (qI (by omega)) (qI (by decide)) (by decide) (fun h160 => ?_) (fun h160 => ?_)
              · skip
                have hk300 := hx51 j (by omega)
                refine M.run 2 (pc' := 171) (lv' := [some (vr o), some (vi ((op : Nat) : Int)), some (vi ((gTk L j).1)), some (vi ((gTk L j).2.1)), some (vi 1)]) (st' := [vr o, vr o]) rfl ?_
                refine M.get fl_X3_38 rfl hP.1 (kf := 5) (v := vi ((j : Nat) : Int)) rfl ?_
                refine M.run 2 (pc' := 176) (lv' := [some (vr o), some (vi ((op : Nat) : Int)), some (vi ((gTk L j).1)), some (vi ((gTk L j).2.1)), some (vi 1)]) (st' := [vi (((j : Nat) : Int) + 1), vr o]) rfl ?_
                rw [show ((j : Nat) : Int) + 1 = ((j + 1 : Nat) : Int) from by omega]
                refine M.put fl_X3_38 rfl (hP.1) rfl rfl (Nat.le_of_ble_eq_true rfl) ?_
                change g 0 0 (up w o (Ob 2 [vr (o + 1), vr (o + 5), vr (o + 6), vi ((c1 : Nat) : Int), vi ((c2 : Nat) : Int), vi ((j + 1 : Nat) : Int), vi ly, vr m1, vr m2, vi f1, vi f2])) 179 [some (vr o), some (vi ((op : Nat) : Int)), some (vi ((gTk L j).1)), some (vi ((gTk L j).2.1)), some (vi 1)] []
                have hR167 : isRe o L c1 c2 (j + 1) ly m1 m2 f1 f2 fc fq (up w o (Ob 2 [vr (o + 1), vr (o + 5), vr (o + 6), vi ((c1 : Nat) : Int), vi ((c2 : Nat) : Int), vi ((j + 1 : Nat) : Int), vi ly, vr m1, vr m2, vi f1, vi f2])) := isRe_1 hP
                have hF167 : FrR o w (up w o (Ob 2 [vr (o + 1), vr (o + 5), vr (o + 6), vi ((c1 : Nat) : Int), vi ((c2 : Nat) : Int), vi ((j + 1 : Nat) : Int), vi ly, vr m1, vr m2, vi f1, vi f2])) := FrR.u FrR.rf o (by omega)
                generalize up w o (Ob 2 [vr (o + 1), vr (o + 5), vr (o + 6), vi ((c1 : Nat) : Int), vi ((c2 : Nat) : Int), vi ((j + 1 : Nat) : Int), vi ly, vr m1, vr m2, vi f1, vi f2]) = w167 at hR167 hF167 ⊢
                refine M.run 3 (pc' := 183) (lv' := [some (vr o), some (vi ((op : Nat) : Int)), some (vi ((gTk L j).1)), some (vi ((gTk L j).2.1)), some (vi 1)]) (st' := [vi ((gTk L j).2.1), vi 50, vr o]) rfl ?_
                refine M.callV (kX3_emit l G o L c1 c2 (j + 1) ly m1 m2 f1 f2 fc fq (by omega) 50 ((gTk L j).2.1) (by omega) (by omega)) cv_X3_114 cd_X3_emit rfl (st := []) rfl hR167.1 (by omega) (by decide) rfl (Nat.zero_le _) (Nat.zero_le _) hR167 (fun r169 w170 q171 => ?_)
                obtain ⟨q171r, hR168, q171f⟩ := q171
                rw [q171r]
                have hF168 : FrR o w w170 := FrR.tr hF167 q171f
                exact M.zret rfl (Or.inr rfl) (Nat.zero_le _) (Nat.zero_le _) (by show PQ o L c1 c2 j ly m1 m2 f1 f2 fc fq w _ _ ((pOne L ly op fs fo fe) j); rw [pOne_f (by omega) (by omega)]; exact ⟨rfl, hF168, ⟨(by show 1 + j ≤ j + 1; omega), by omega⟩, okE_lf, _, hR168, lf_at, fun i hi => by rw [uN_o (by omega), uN_o (by omega)]⟩)
              · skip
                refine M.run 2 (pc' := 165) (lv' := [some (vr o), some (vi ((op : Nat) : Int)), some (vi ((gTk L j).1)), some (vi ((gTk L j).2.1)), some (vi 1)]) (st' := [vi 2, vr o]) rfl ?_
                refine M.callV (kX3_refuse l G o L c1 c2 j ly m1 m2 f1 f2 fc fq (by omega) hB 2 (by omega)) cv_X3_73 cd_X3_refuse rfl (st := []) rfl hP.1 (by omega) (by decide) rfl (Nat.zero_le _) (Nat.zero_le _) hP (fun r174 w175 q176 => ?_)
                obtain ⟨q176r, hR173, q176f⟩ := q176
                rw [q176r]
                have hF173 : FrR o w w175 := FrR.tr FrR.rf q176f
                exact M.zret rfl (Or.inl rfl) (Nat.zero_le _) (Nat.zero_le _) (by show PQ o L c1 c2 j ly m1 m2 f1 f2 fc fq w _ _ ((pOne L ly op fs fo fe) j); rw [pOne_g (by omega) (by omega)]; exact ⟨rfl, hF173, hj, _, _, hR173⟩)
            refine M.lsw (tgt := 311) (off := 214) rfl (qI (by omega)) (by decide) (by rw [Op.lookupswitch.offset_cons, if_neg (fun q => hs97_0 q.symm), Op.lookupswitch.offset_cons, if_neg (fun q => hs97_1 q.symm), Op.lookupswitch.offset_cons, if_neg (fun q => hs97_2 q.symm), Op.lookupswitch.offset_cons, if_neg (fun q => hs97_3 q.symm), Op.lookupswitch.offset_cons, if_neg (fun q => hs97_4 q.symm), Op.lookupswitch.offset_cons, if_neg (fun q => hs97_5 q.symm)]; rfl) (by decide) ?_
            refine M.run 2 (pc' := 313) (lv' := [some (vr o), some (vi ((op : Nat) : Int)), some (vi ((gTk L j).1)), some (vi ((gTk L j).2.1)), some (vi 1)]) (st' := [vi 1, vr o]) rfl ?_
            refine M.callV (kX3_refuse l G o L c1 c2 j ly m1 m2 f1 f2 fc fq (by omega) hB 1 (by omega)) cv_X3_73 cd_X3_refuse rfl (st := []) rfl hP.1 (by omega) (by decide) rfl (Nat.zero_le _) (Nat.zero_le _) hP (fun r179 w180 q181 => ?_)
            obtain ⟨q181r, hR178, q181f⟩ := q181
            rw [q181r]
            have hF178 : FrR o w w180 := FrR.tr FrR.rf q181f
            exact M.zret rfl (Or.inl rfl) (Nat.zero_le _) (Nat.zero_le _) (by show PQ o L c1 c2 j ly m1 m2 f1 f2 fc fq w _ _ ((pOne L ly op fs fo fe) j); rw [pOne_o (by omega) (by omega) (by omega)]; exact ⟨rfl, hF178, hj, _, _, hR178⟩)
          · skip
            have hk300 := hx51 j (by omega)
            refine M.run 2 (pc' := 92) (lv' := [some (vr o), some (vi ((op : Nat) : Int)), some (vi ((gTk L j).1)), some (vi ((gTk L j).2.1)), some (vi 1)]) (st' := [vi ((gTk L j).1), vr o]) rfl ?_
            refine M.callV (kX3_name l G o L c1 c2 j ly m1 m2 f1 f2 fc fq (by omega) hB (by omega) hly ((gTk L j).1) (by omega)) cv_X3_121 cd_X3_name rfl (st := []) rfl (hP.1) (by omega) (by decide) rfl (Nat.zero_le _) (Nat.zero_le _) hP (fun r183 w183 q183 => ?_)
            by_cases hT1 : ((gTk L j).1) = (if ly = 0 then 23 else 22)
            · skip
              rw [if_pos hT1] at q183
              obtain ⟨hr1_, hS1_, hg1_⟩ := q183
              rw [hr1_]
              have hG1_ := FrR.tr FrR.rf hg1_
              exact M.zret rfl (Or.inl rfl) (Nat.zero_le _) (Nat.zero_le _) (by show PQ o L c1 c2 j ly m1 m2 f1 f2 fc fq w _ _ ((pOne L ly op fs fo fe) j); rw [pOne_x (by omega) (by omega) hT1]; exact ⟨rfl, hG1_, hj, _, _, hS1_⟩)
            · skip
              rw [if_neg hT1] at q183
              obtain ⟨hr1_, hS1_, hg1_⟩ := q183
              rw [hr1_]
              have hG1_ := FrR.tr FrR.rf hg1_
              exact M.zret rfl (Or.inr rfl) (Nat.zero_le _) (Nat.zero_le _) (by show PQ o L c1 c2 j ly m1 m2 f1 f2 fc fq w _ _ ((pOne L ly op fs fo fe) j); rw [pOne_y (by omega) (by omega) hT1]; exact ⟨rfl, hG1_, ⟨(by show 1 + j ≤ j + 1; omega), by omega⟩, okE_lf, _, hS1_, lf_at, fun i hi => by rw [uN_o (by omega), uN_o (by omega)]⟩)
      · skip
        refine M.run 2 (pc' := 74) (lv' := [some (vr o), some (vi ((op : Nat) : Int)), some (vi ((gTk L j).1)), some (vi ((gTk L j).2.1)), some (vi 1)]) (st' := [vi 3, vr o]) rfl ?_
        refine M.callV (kX3_refuse l G o L c1 c2 j ly m1 m2 f1 f2 fc fq (by omega) hB 3 (by omega)) cv_X3_73 cd_X3_refuse rfl (st := []) rfl hP.1 (by omega) (by decide) rfl (Nat.zero_le _) (Nat.zero_le _) hP (fun r185 w186 q187 => ?_)
        obtain ⟨q187r, hR184, q187f⟩ := q187
        rw [q187r]
        have hF184 : FrR o w w186 := FrR.tr FrR.rf q187f
        exact M.zret rfl (Or.inl rfl) (Nat.zero_le _) (Nat.zero_le _) (by show PQ o L c1 c2 j ly m1 m2 f1 f2 fc fq w _ _ ((pOne L ly op fs fo fe) j); rw [pOne_d ⟨by omega, by omega⟩]; exact ⟨rfl, hF184, hj, _, _, hR184⟩)
    · skip
      refine M.run 2 (pc' := 39) (lv' := [some (vr o), some (vi ((op : Nat) : Int)), some (vi ((gTk L j).1)), some (vi ((gTk L j).2.1)), none]) (st' := [vi 8, vi ((gTk L j).1)]) rfl ?_
      refine M.icmp_eq (tgt := 54) rfl (qI (by omega)) (qI (by decide)) (by decide) (fun h39 => ?_) (fun h39 => ?_)
      · skip
        refine M.run 4 (pc' := 63) (lv' := [some (vr o), some (vi ((op : Nat) : Int)), some (vi ((gTk L j).1)), some (vi ((gTk L j).2.1)), some (vi 1)]) (st' := [vi 1]) rfl ?_
        refine M.if_eq (tgt := 78) rfl (qI (by decide)) (by decide) (fun q => absurd q (by decide)) (fun _ => ?_)
        refine M.run 2 (pc' := 69) (lv' := [some (vr o), some (vi ((op : Nat) : Int)), some (vi ((gTk L j).1)), some (vi ((gTk L j).2.1)), some (vi 1)]) (st' := [vi 8, vi ((op : Nat) : Int)]) rfl ?_
        refine M.icmp_lt (tgt := 78) rfl (qI (by omega)) (qI (by decide)) (by decide) (fun h69 => ?_) (fun h69 => ?_)
        · skip
          refine M.run 2 (pc' := 81) (lv' := [some (vr o), some (vi ((op : Nat) : Int)), some (vi ((gTk L j).1)), some (vi ((gTk L j).2.1)), some (vi 1)]) (st' := [vi 17, vi ((gTk L j).1)]) rfl ?_
          refine M.icmp_lt (tgt := 96) rfl (qI (by omega)) (qI (by decide)) (by decide) (fun h81 => ?_) (fun h81 => ?_)
          · skip
            refine M.run 1 (pc' := 97) (lv' := [some (vr o), some (vi ((op : Nat) : Int)), some (vi ((gTk L j).1)), some (vi ((gTk L j).2.1)), some (vi 1)]) (st' := [vi ((gTk L j).1)]) rfl ?_
            by_cases hs97_0 : (gTk L j).1 = 8
            · refine M.lsw (tgt := 258) (off := 161) rfl (qI (by omega)) (by decide) (by rw [hs97_0]; rfl) (by decide) ?_
              have hk300 := hx51 j (by omega)
              refine M.run 2 (pc' := 260) (lv' := [some (vr o), some (vi ((op : Nat) : Int)), some (vi ((gTk L j).1)), some (vi ((gTk L j).2.1)), some (vi 1)]) (st' := [vr o, vr o]) rfl ?_
              refine M.get fl_X3_38 rfl hP.1 (kf := 5) (v := vi ((j : Nat) : Int)) rfl ?_
              refine M.run 2 (pc' := 265) (lv' := [some (vr o), some (vi ((op : Nat) : Int)), some (vi ((gTk L j).1)), some (vi ((gTk L j).2.1)), some (vi 1)]) (st' := [vi (((j : Nat) : Int) + 1), vr o]) rfl ?_
              rw [show ((j : Nat) : Int) + 1 = ((j + 1 : Nat) : Int) from by omega]
              refine M.put fl_X3_38 rfl (hP.1) rfl rfl (Nat.le_of_ble_eq_true rfl) ?_
              change g 0 0 (up w o (Ob 2 [vr (o + 1), vr (o + 5), vr (o + 6), vi ((c1 : Nat) : Int), vi ((c2 : Nat) : Int), vi ((j + 1 : Nat) : Int), vi ly, vr m1, vr m2, vi f1, vi f2])) 268 [some (vr o), some (vi ((op : Nat) : Int)), some (vi ((gTk L j).1)), some (vi ((gTk L j).2.1)), some (vi 1)] []
              have hR189 : isRe o L c1 c2 (j + 1) ly m1 m2 f1 f2 fc fq (up w o (Ob 2 [vr (o + 1), vr (o + 5), vr (o + 6), vi ((c1 : Nat) : Int), vi ((c2 : Nat) : Int), vi ((j + 1 : Nat) : Int), vi ly, vr m1, vr m2, vi f1, vi f2])) := isRe_1 hP
              have hF189 : FrR o w (up w o (Ob 2 [vr (o + 1), vr (o + 5), vr (o + 6), vi ((c1 : Nat) : Int), vi ((c2 : Nat) : Int), vi ((j + 1 : Nat) : Int), vi ly, vr m1, vr m2, vi f1, vi f2])) := FrR.u FrR.rf o (by omega)
              generalize up w o (Ob 2 [vr (o + 1), vr (o + 5), vr (o + 6), vi ((c1 : Nat) : Int), vi ((c2 : Nat) : Int), vi ((j + 1 : Nat) : Int), vi ly, vr m1, vr m2, vi f1, vi f2]) = w189 at hR189 hF189 ⊢
              refine M.run 4 (pc' := 272) (lv' := [some (vr o), some (vi ((op : Nat) : Int)), some (vi ((gTk L j).1)), some (vi ((gTk L j).2.1)), some (vi 1)]) (st' := [vi (((op : Nat) : Int) + 1), vr o]) rfl ?_
              rw [show ((op : Nat) : Int) + 1 = ((op + 1 : Nat) : Int) from (by omega)]
              refine M.callV (ho (by omega) c1 c2 (j + 1) m1 m2 f1 f2 fc fq (by omega) (by omega)) cv_X3_118 cd_X3_one rfl (st := []) rfl (hR189.1) (by omega) (by decide) rfl (Nat.zero_le _) (Nat.zero_le _) hR189 (fun r190 w190 q190 => ?_)
              rcases hR1 : fo (j + 1) with ⟨e1, k1⟩ | ⟨s1, k1⟩
              · skip
                rw [hR1] at q190
                obtain ⟨hr1, hg1, ⟨hz1, hy1⟩, hK1, gc1, hS1, hC1, hU1⟩ := q190
                rw [hr1]
                have hG1 := FrR.tr hF189 hg1
                refine M.if_eq (tgt := 291) rfl (qI (by decide)) (by decide) (fun q => absurd q (by decide)) (fun _ => ?_)
                refine M.run 3 (pc' := 281) (lv' := [some (vr o), some (vi ((op : Nat) : Int)), some (vi ((gTk L j).1)), some (vi ((gTk L j).2.1)), some (vi 1)]) (st' := [vi 0, vi ((gTk L j).1), vr o]) rfl ?_
                refine M.callV (kX3_emit l G o L (c1 + 2 * szE e1) c2 k1 ly m1 m2 f1 f2 gc1 fq (by omega) ((gTk L j).1) 0 (by omega) (by omega)) cv_X3_114 cd_X3_emit rfl (st := []) rfl hS1.1 (by omega) (by decide) rfl (Nat.zero_le _) (Nat.zero_le _) hS1 (fun r192 w193 q194 => ?_)
                obtain ⟨q194r, hR191, q194f⟩ := q194
                rw [q194r]
                have hF191 : FrR o w w193 := FrR.tr hG1 q194f
                refine M.if_eq (tgt := 291) rfl (qI (by decide)) (by decide) (fun q => absurd q (by decide)) (fun _ => ?_)
                refine M.run 2 (pc' := 292) (lv' := [some (vr o), some (vi ((op : Nat) : Int)), some (vi ((gTk L j).1)), some (vi ((gTk L j).2.1)), some (vi 1)]) (st' := [vi 1]) rfl ?_
                exact M.zret rfl (Or.inr rfl) (Nat.zero_le _) (Nat.zero_le _) (by show PQ o L c1 c2 j ly m1 m2 f1 f2 fc fq w _ _ ((pOne L ly op fs fo fe) j); rw [pOne_u (by omega) (by omega) hR1]; exact ⟨rfl, hF191, ⟨(by show szE e1 + 1 + j ≤ k1; omega), hy1⟩, okE_un hK1, _, (by have hq9 := hR191; rw [show c1 + 2 * szE e1 + 2 = c1 + 2 * szE (unE (gTk L j).1 e1) from by show _ = c1 + 2 * (szE e1 + 1); omega] at hq9; exact hq9), un_at hK1 hC1, fun i hi => by rw [uN_o (by omega), uN_o (by omega)]; exact hU1 i hi⟩)
              · skip
                rw [hR1] at q190
                obtain ⟨hr1, hg1, hy1, dd1, gc1, hS1⟩ := q190
                rw [hr1]
                have hG1 := FrR.tr hF189 hg1
                refine M.if_eq (tgt := 291) rfl (qI (by decide)) (by decide) (fun _ => ?_) (fun q => absurd q (by decide))
                refine M.run 1 (pc' := 292) (lv' := [some (vr o), some (vi ((op : Nat) : Int)), some (vi ((gTk L j).1)), some (vi ((gTk L j).2.1)), some (vi 1)]) (st' := [vi 0]) rfl ?_
                exact M.zret rfl (Or.inl rfl) (Nat.zero_le _) (Nat.zero_le _) (by show PQ o L c1 c2 j ly m1 m2 f1 f2 fc fq w _ _ ((pOne L ly op fs fo fe) j); rw [pOne_v (by omega) (by omega) hR1]; exact ⟨rfl, hG1, hy1, _, _, hS1⟩)
            by_cases hs97_1 : (gTk L j).1 = 9
            · refine M.lsw (tgt := 258) (off := 161) rfl (qI (by omega)) (by decide) (by rw [hs97_1]; rfl) (by decide) ?_
              have hk300 := hx51 j (by omega)
              refine M.run 2 (pc' := 260) (lv' := [some (vr o), some (vi ((op : Nat) : Int)), some (vi ((gTk L j).1)), some (vi ((gTk L j).2.1)), some (vi 1)]) (st' := [vr o, vr o]) rfl ?_
              refine M.get fl_X3_38 rfl hP.1 (kf := 5) (v := vi ((j : Nat) : Int)) rfl ?_
              refine M.run 2 (pc' := 265) (lv' := [some (vr o), some (vi ((op : Nat) : Int)), some (vi ((gTk L j).1)), some (vi ((gTk L j).2.1)), some (vi 1)]) (st' := [vi (((j : Nat) : Int) + 1), vr o]) rfl ?_
              rw [show ((j : Nat) : Int) + 1 = ((j + 1 : Nat) : Int) from by omega]
              refine M.put fl_X3_38 rfl (hP.1) rfl rfl (Nat.le_of_ble_eq_true rfl) ?_
              change g 0 0 (up w o (Ob 2 [vr (o + 1), vr (o + 5), vr (o + 6), vi ((c1 : Nat) : Int), vi ((c2 : Nat) : Int), vi ((j + 1 : Nat) : Int), vi ly, vr m1, vr m2, vi f1, vi f2])) 268 [some (vr o), some (vi ((op : Nat) : Int)), some (vi ((gTk L j).1)), some (vi ((gTk L j).2.1)), some (vi 1)] []
              have hR196 : isRe o L c1 c2 (j + 1) ly m1 m2 f1 f2 fc fq (up w o (Ob 2 [vr (o + 1), vr (o + 5), vr (o + 6), vi ((c1 : Nat) : Int), vi ((c2 : Nat) : Int), vi ((j + 1 : Nat) : Int), vi ly, vr m1, vr m2, vi f1, vi f2])) := isRe_1 hP
              have hF196 : FrR o w (up w o (Ob 2 [vr (o + 1), vr (o + 5), vr (o + 6), vi ((c1 : Nat) : Int), vi ((c2 : Nat) : Int), vi ((j + 1 : Nat) : Int), vi ly, vr m1, vr m2, vi f1, vi f2])) := FrR.u FrR.rf o (by omega)
              generalize up w o (Ob 2 [vr (o + 1), vr (o + 5), vr (o + 6), vi ((c1 : Nat) : Int), vi ((c2 : Nat) : Int), vi ((j + 1 : Nat) : Int), vi ly, vr m1, vr m2, vi f1, vi f2]) = w196 at hR196 hF196 ⊢
              refine M.run 4 (pc' := 272) (lv' := [some (vr o), some (vi ((op : Nat) : Int)), some (vi ((gTk L j).1)), some (vi ((gTk L j).2.1)), some (vi 1)]) (st' := [vi (((op : Nat) : Int) + 1), vr o]) rfl ?_
              rw [show ((op : Nat) : Int) + 1 = ((op + 1 : Nat) : Int) from (by omega)]
              refine M.callV (ho (by omega) c1 c2 (j + 1) m1 m2 f1 f2 fc fq (by omega) (by omega)) cv_X3_118 cd_X3_one rfl (st := []) rfl (hR196.1) (by omega) (by decide) rfl (Nat.zero_le _) (Nat.zero_le _) hR196 (fun r197 w197 q197 => ?_)
              rcases hR1 : fo (j + 1) with ⟨e1, k1⟩ | ⟨s1, k1⟩
              · skip
                rw [hR1] at q197
                obtain ⟨hr1, hg1, ⟨hz1, hy1⟩, hK1, gc1, hS1, hC1, hU1⟩ := q197
                rw [hr1]
                have hG1 := FrR.tr hF196 hg1
                refine M.if_eq (tgt := 291) rfl (qI (by decide)) (by decide) (fun q => absurd q (by decide)) (fun _ => ?_)
                refine M.run 3 (pc' := 281) (lv' := [some (vr o), some (vi ((op : Nat) : Int)), some (vi ((gTk L j).1)), some (vi ((gTk L j).2.1)), some (vi 1)]) (st' := [vi 0, vi ((gTk L j).1), vr o]) rfl ?_
                refine M.callV (kX3_emit l G o L (c1 + 2 * szE e1) c2 k1 ly m1 m2 f1 f2 gc1 fq (by omega) ((gTk L j).1) 0 (by omega) (by omega)) cv_X3_114 cd_X3_emit rfl (st := []) rfl hS1.1 (by omega) (by decide) rfl (Nat.zero_le _) (Nat.zero_le _) hS1 (fun r199 w200 q201 => ?_)
                obtain ⟨q201r, hR198, q201f⟩ := q201
                rw [q201r]
                have hF198 : FrR o w w200 := FrR.tr hG1 q201f
                refine M.if_eq (tgt := 291) rfl (qI (by decide)) (by decide) (fun q => absurd q (by decide)) (fun _ => ?_)
                refine M.run 2 (pc' := 292) (lv' := [some (vr o), some (vi ((op : Nat) : Int)), some (vi ((gTk L j).1)), some (vi ((gTk L j).2.1)), some (vi 1)]) (st' := [vi 1]) rfl ?_
                exact M.zret rfl (Or.inr rfl) (Nat.zero_le _) (Nat.zero_le _) (by show PQ o L c1 c2 j ly m1 m2 f1 f2 fc fq w _ _ ((pOne L ly op fs fo fe) j); rw [pOne_u (by omega) (by omega) hR1]; exact ⟨rfl, hF198, ⟨(by show szE e1 + 1 + j ≤ k1; omega), hy1⟩, okE_un hK1, _, (by have hq9 := hR198; rw [show c1 + 2 * szE e1 + 2 = c1 + 2 * szE (unE (gTk L j).1 e1) from by show _ = c1 + 2 * (szE e1 + 1); omega] at hq9; exact hq9), un_at hK1 hC1, fun i hi => by rw [uN_o (by omega), uN_o (by omega)]; exact hU1 i hi⟩)
              · skip
                rw [hR1] at q197
                obtain ⟨hr1, hg1, hy1, dd1, gc1, hS1⟩ := q197
                rw [hr1]
                have hG1 := FrR.tr hF196 hg1
                refine M.if_eq (tgt := 291) rfl (qI (by decide)) (by decide) (fun _ => ?_) (fun q => absurd q (by decide))
                refine M.run 1 (pc' := 292) (lv' := [some (vr o), some (vi ((op : Nat) : Int)), some (vi ((gTk L j).1)), some (vi ((gTk L j).2.1)), some (vi 1)]) (st' := [vi 0]) rfl ?_
                exact M.zret rfl (Or.inl rfl) (Nat.zero_le _) (Nat.zero_le _) (by show PQ o L c1 c2 j ly m1 m2 f1 f2 fc fq w _ _ ((pOne L ly op fs fo fe) j); rw [pOne_v (by omega) (by omega) hR1]; exact ⟨rfl, hG1, hy1, _, _, hS1⟩)
            by_cases hs97_2 : (gTk L j).1 = 10
            · refine M.lsw (tgt := 293) (off := 196) rfl (qI (by omega)) (by decide) (by rw [hs97_2]; rfl) (by decide) ?_
              have hk300 := hx51 j (by omega)
              refine M.run 2 (pc' := 295) (lv' := [some (vr o), some (vi ((op : Nat) : Int)), some (vi ((gTk L j).1)), some (vi ((gTk L j).2.1)), some (vi 1)]) (st' := [vr o, vr o]) rfl ?_
              refine M.get fl_X3_38 rfl hP.1 (kf := 5) (v := vi ((j : Nat) : Int)) rfl ?_
              refine M.run 2 (pc' := 300) (lv' := [some (vr o), some (vi ((op : Nat) : Int)), some (vi ((gTk L j).1)), some (vi ((gTk L j).2.1)), some (vi 1)]) (st' := [vi (((j : Nat) : Int) + 1), vr o]) rfl ?_
              rw [show ((j : Nat) : Int) + 1 = ((j + 1 : Nat) : Int) from by omega]
              refine M.put fl_X3_38 rfl (hP.1) rfl rfl (Nat.le_of_ble_eq_true rfl) ?_
              change g 0 0 (up w o (Ob 2 [vr (o + 1), vr (o + 5), vr (o + 6), vi ((c1 : Nat) : Int), vi ((c2 : Nat) : Int), vi ((j + 1 : Nat) : Int), vi ly, vr m1, vr m2, vi f1, vi f2])) 303 [some (vr o), some (vi ((op : Nat) : Int)), some (vi ((gTk L j).1)), some (vi ((gTk L j).2.1)), some (vi 1)] []
              have hR203 : isRe o L c1 c2 (j + 1) ly m1 m2 f1 f2 fc fq (up w o (Ob 2 [vr (o + 1), vr (o + 5), vr (o + 6), vi ((c1 : Nat) : Int), vi ((c2 : Nat) : Int), vi ((j + 1 : Nat) : Int), vi ly, vr m1, vr m2, vi f1, vi f2])) := isRe_1 hP
              have hF203 : FrR o w (up w o (Ob 2 [vr (o + 1), vr (o + 5), vr (o + 6), vi ((c1 : Nat) : Int), vi ((c2 : Nat) : Int), vi ((j + 1 : Nat) : Int), vi ly, vr m1, vr m2, vi f1, vi f2])) := FrR.u FrR.rf o (by omega)
              generalize up w o (Ob 2 [vr (o + 1), vr (o + 5), vr (o + 6), vi ((c1 : Nat) : Int), vi ((c2 : Nat) : Int), vi ((j + 1 : Nat) : Int), vi ly, vr m1, vr m2, vi f1, vi f2]) = w203 at hR203 hF203 ⊢
              refine M.run 4 (pc' := 307) (lv' := [some (vr o), some (vi ((op : Nat) : Int)), some (vi ((gTk L j).1)), some (vi ((gTk L j).2.1)), some (vi 1)]) (st' := [vi (((op : Nat) : Int) + 1), vr o]) rfl ?_
              rw [show ((op : Nat) : Int) + 1 = ((op + 1 : Nat) : Int) from (by omega)]
              refine M.callV (he (by omega) c1 c2 (j + 1) m1 m2 f1 f2 fc fq (by omega) (by omega)) cv_X3_124 cd_X3_choice rfl (st := []) rfl (hR203.1) (by omega) (by decide) rfl (Nat.zero_le _) (Nat.zero_le _) hR203 (fun r204 w204 q204 => ?_)
              rcases hR1 : fe (j + 1) with ⟨e1, k1⟩ | ⟨s1, k1⟩
              · skip
                rw [hR1] at q204
                obtain ⟨hr1, hg1, ⟨hz1, hy1⟩, hK1, gc1, hS1, hC1, hU1⟩ := q204
                rw [hr1]
                have hG1 := FrR.tr hF203 hg1
                exact M.zret rfl (Or.inr rfl) (Nat.zero_le _) (Nat.zero_le _) (by show PQ o L c1 c2 j ly m1 m2 f1 f2 fc fq w _ _ ((pOne L ly op fs fo fe) j); rw [pOne_i (by omega) (by omega), hR1]; exact ⟨rfl, hG1, ⟨by omega, hy1⟩, hK1, _, hS1, hC1, hU1⟩)
              · skip
                rw [hR1] at q204
                obtain ⟨hr1, hg1, hy1, dd1, gc1, hS1⟩ := q204
                rw [hr1]
                have hG1 := FrR.tr hF203 hg1
                exact M.zret rfl (Or.inl rfl) (Nat.zero_le _) (Nat.zero_le _) (by show PQ o L c1 c2 j ly m1 m2 f1 f2 fc fq w _ _ ((pOne L ly op fs fo fe) j); rw [pOne_i (by omega) (by omega), hR1]; exact ⟨rfl, hG1, hy1, _, _, hS1⟩)
            by_cases hs97_3 : (gTk L j).1 = 35
            · refine M.lsw (tgt := 222) (off := 125) rfl (qI (by omega)) (by decide) (by rw [hs97_3]; rfl) (by decide) ?_
              have hk300 := hx51 j (by omega)
              refine M.run 2 (pc' := 224) (lv' := [some (vr o), some (vi ((op : Nat) : Int)), some (vi ((gTk L j).1)), some (vi ((gTk L j).2.1)), some (vi 1)]) (st' := [vr o, vr o]) rfl ?_
              refine M.get fl_X3_38 rfl hP.1 (kf := 5) (v := vi ((j : Nat) : Int)) rfl ?_
              refine M.run 2 (pc' := 229) (lv' := [some (vr o), some (vi ((op : Nat) : Int)), some (vi ((gTk L j).1)), some (vi ((gTk L j).2.1)), some (vi 1)]) (st' := [vi (((j : Nat) : Int) + 1), vr o]) rfl ?_
              rw [show ((j : Nat) : Int) + 1 = ((j + 1 : Nat) : Int) from by omega]
              refine M.put fl_X3_38 rfl (hP.1) rfl rfl (Nat.le_of_ble_eq_true rfl) ?_
              change g 0 0 (up w o (Ob 2 [vr (o + 1), vr (o + 5), vr (o + 6), vi ((c1 : Nat) : Int), vi ((c2 : Nat) : Int), vi ((j + 1 : Nat) : Int), vi ly, vr m1, vr m2, vi f1, vi f2])) 232 [some (vr o), some (vi ((op : Nat) : Int)), some (vi ((gTk L j).1)), some (vi ((gTk L j).2.1)), some (vi 1)] []
              have hR205 : isRe o L c1 c2 (j + 1) ly m1 m2 f1 f2 fc fq (up w o (Ob 2 [vr (o + 1), vr (o + 5), vr (o + 6), vi ((c1 : Nat) : Int), vi ((c2 : Nat) : Int), vi ((j + 1 : Nat) : Int), vi ly, vr m1, vr m2, vi f1, vi f2])) := isRe_1 hP
              have hF205 : FrR o w (up w o (Ob 2 [vr (o + 1), vr (o + 5), vr (o + 6), vi ((c1 : Nat) : Int), vi ((c2 : Nat) : Int), vi ((j + 1 : Nat) : Int), vi ly, vr m1, vr m2, vi f1, vi f2])) := FrR.u FrR.rf o (by omega)
              generalize up w o (Ob 2 [vr (o + 1), vr (o + 5), vr (o + 6), vi ((c1 : Nat) : Int), vi ((c2 : Nat) : Int), vi ((j + 1 : Nat) : Int), vi ly, vr m1, vr m2, vi f1, vi f2]) = w205 at hR205 hF205 ⊢
              refine M.run 4 (pc' := 236) (lv' := [some (vr o), some (vi ((op : Nat) : Int)), some (vi ((gTk L j).1)), some (vi ((gTk L j).2.1)), some (vi 1)]) (st' := [vi (((op : Nat) : Int) + 1), vr o]) rfl ?_
              rw [show ((op : Nat) : Int) + 1 = ((op + 1 : Nat) : Int) from (by omega)]
              refine M.callV (ho (by omega) c1 c2 (j + 1) m1 m2 f1 f2 fc fq (by omega) (by omega)) cv_X3_118 cd_X3_one rfl (st := []) rfl (hR205.1) (by omega) (by decide) rfl (Nat.zero_le _) (Nat.zero_le _) hR205 (fun r206 w206 q206 => ?_)
              rcases hR1 : fo (j + 1) with ⟨e1, k1⟩ | ⟨s1, k1⟩
              · skip
                rw [hR1] at q206
                obtain ⟨hr1, hg1, ⟨hz1, hy1⟩, hK1, gc1, hS1, hC1, hU1⟩ := q206
                rw [hr1]
                have hG1 := FrR.tr hF205 hg1
                refine M.if_eq (tgt := 256) rfl (qI (by decide)) (by decide) (fun q => absurd q (by decide)) (fun _ => ?_)
                refine M.run 3 (pc' := 246) (lv' := [some (vr o), some (vi ((op : Nat) : Int)), some (vi ((gTk L j).1)), some (vi ((gTk L j).2.1)), some (vi 1)]) (st' := [vi 0, vi 60, vr o]) rfl ?_
                refine M.callV (kX3_emit l G o L (c1 + 2 * szE e1) c2 k1 ly m1 m2 f1 f2 gc1 fq (by omega) 60 0 (by omega) (by omega)) cv_X3_114 cd_X3_emit rfl (st := []) rfl hS1.1 (by omega) (by decide) rfl (Nat.zero_le _) (Nat.zero_le _) hS1 (fun r208 w209 q210 => ?_)
                obtain ⟨q210r, hR207, q210f⟩ := q210
                rw [q210r]
                have hF207 : FrR o w w209 := FrR.tr hG1 q210f
                refine M.if_eq (tgt := 256) rfl (qI (by decide)) (by decide) (fun q => absurd q (by decide)) (fun _ => ?_)
                refine M.run 2 (pc' := 257) (lv' := [some (vr o), some (vi ((op : Nat) : Int)), some (vi ((gTk L j).1)), some (vi ((gTk L j).2.1)), some (vi 1)]) (st' := [vi 1]) rfl ?_
                exact M.zret rfl (Or.inr rfl) (Nat.zero_le _) (Nat.zero_le _) (by show PQ o L c1 c2 j ly m1 m2 f1 f2 fc fq w _ _ ((pOne L ly op fs fo fe) j); rw [pOne_m (by omega) (by omega) hR1]; exact ⟨rfl, hF207, ⟨(by show szE e1 + 1 + j ≤ k1; omega), hy1⟩, okE_un hK1, _, (by have hq9 := hR207; rw [show c1 + 2 * szE e1 + 2 = c1 + 2 * szE (unE 60 e1) from by show _ = c1 + 2 * (szE e1 + 1); omega] at hq9; exact hq9), un_at hK1 hC1, fun i hi => by rw [uN_o (by omega), uN_o (by omega)]; exact hU1 i hi⟩)
              · skip
                rw [hR1] at q206
                obtain ⟨hr1, hg1, hy1, dd1, gc1, hS1⟩ := q206
                rw [hr1]
                have hG1 := FrR.tr hF205 hg1
                refine M.if_eq (tgt := 256) rfl (qI (by decide)) (by decide) (fun _ => ?_) (fun q => absurd q (by decide))
                refine M.run 1 (pc' := 257) (lv' := [some (vr o), some (vi ((op : Nat) : Int)), some (vi ((gTk L j).1)), some (vi ((gTk L j).2.1)), some (vi 1)]) (st' := [vi 0]) rfl ?_
                exact M.zret rfl (Or.inl rfl) (Nat.zero_le _) (Nat.zero_le _) (by show PQ o L c1 c2 j ly m1 m2 f1 f2 fc fq w _ _ ((pOne L ly op fs fo fe) j); rw [pOne_n (by omega) (by omega) hR1]; exact ⟨rfl, hG1, hy1, _, _, hS1⟩)
            by_cases hs97_4 : (gTk L j).1 = 38
            · refine M.lsw (tgt := 187) (off := 90) rfl (qI (by omega)) (by decide) (by rw [hs97_4]; rfl) (by decide) ?_
              have hk300 := hx51 j (by omega)
              refine M.run 2 (pc' := 189) (lv' := [some (vr o), some (vi ((op : Nat) : Int)), some (vi ((gTk L j).1)), some (vi ((gTk L j).2.1)), some (vi 1)]) (st' := [vr o, vr o]) rfl ?_
              refine M.get fl_X3_38 rfl hP.1 (kf := 5) (v := vi ((j : Nat) : Int)) rfl ?_
              refine M.run 2 (pc' := 194) (lv' := [some (vr o), some (vi ((op : Nat) : Int)), some (vi ((gTk L j).1)), some (vi ((gTk L j).2.1)), some (vi 1)]) (st' := [vi (((j : Nat) : Int) + 1), vr o]) rfl ?_
              rw [show ((j : Nat) : Int) + 1 = ((j + 1 : Nat) : Int) from by omega]
              refine M.put fl_X3_38 rfl (hP.1) rfl rfl (Nat.le_of_ble_eq_true rfl) ?_
              change g 0 0 (up w o (Ob 2 [vr (o + 1), vr (o + 5), vr (o + 6), vi ((c1 : Nat) : Int), vi ((c2 : Nat) : Int), vi ((j + 1 : Nat) : Int), vi ly, vr m1, vr m2, vi f1, vi f2])) 197 [some (vr o), some (vi ((op : Nat) : Int)), some (vi ((gTk L j).1)), some (vi ((gTk L j).2.1)), some (vi 1)] []
              have hR212 : isRe o L c1 c2 (j + 1) ly m1 m2 f1 f2 fc fq (up w o (Ob 2 [vr (o + 1), vr (o + 5), vr (o + 6), vi ((c1 : Nat) : Int), vi ((c2 : Nat) : Int), vi ((j + 1 : Nat) : Int), vi ly, vr m1, vr m2, vi f1, vi f2])) := isRe_1 hP
              have hF212 : FrR o w (up w o (Ob 2 [vr (o + 1), vr (o + 5), vr (o + 6), vi ((c1 : Nat) : Int), vi ((c2 : Nat) : Int), vi ((j + 1 : Nat) : Int), vi ly, vr m1, vr m2, vi f1, vi f2])) := FrR.u FrR.rf o (by omega)
              generalize up w o (Ob 2 [vr (o + 1), vr (o + 5), vr (o + 6), vi ((c1 : Nat) : Int), vi ((c2 : Nat) : Int), vi ((j + 1 : Nat) : Int), vi ly, vr m1, vr m2, vi f1, vi f2]) = w212 at hR212 hF212 ⊢
              refine M.run 4 (pc' := 201) (lv' := [some (vr o), some (vi ((op : Nat) : Int)), some (vi ((gTk L j).1)), some (vi ((gTk L j).2.1)), some (vi 1)]) (st' := [vi (((op : Nat) : Int) + 1), vr o]) rfl ?_
              rw [show ((op : Nat) : Int) + 1 = ((op + 1 : Nat) : Int) from (by omega)]
              refine M.callV (hs (by omega) c1 c2 (j + 1) m1 m2 f1 f2 fc fq (by omega) (by omega)) cv_X3_89 cd_X3_sum rfl (st := []) rfl (hR212.1) (by omega) (by decide) rfl (Nat.zero_le _) (Nat.zero_le _) hR212 (fun r213 w213 q213 => ?_)
              rcases hR1 : fs (j + 1) with ⟨e1, k1⟩ | ⟨s1, k1⟩
              · skip
                rw [hR1] at q213
                obtain ⟨hr1, hg1, ⟨hz1, hy1⟩, hK1, gc1, hS1, hC1, hU1⟩ := q213
                rw [hr1]
                have hG1 := FrR.tr hF212 hg1
                refine M.if_eq (tgt := 220) rfl (qI (by decide)) (by decide) (fun q => absurd q (by decide)) (fun _ => ?_)
                refine M.run 2 (pc' := 210) (lv' := [some (vr o), some (vi ((op : Nat) : Int)), some (vi ((gTk L j).1)), some (vi ((gTk L j).2.1)), some (vi 1)]) (st' := [vi 39, vr o]) rfl ?_
                refine M.callV (kX3_take l G o L (c1 + 2 * szE e1) c2 k1 ly m1 m2 f1 f2 gc1 fq (by omega) hB 39 (by omega)) cv_X3_92 cd_X3_take rfl (st := []) rfl (hS1.1) (by omega) (by decide) rfl (Nat.zero_le _) (Nat.zero_le _) hS1 (fun r214 w214 q214 => ?_)
                by_cases hT1 : (gTk L k1).1 = 39
                · skip
                  rw [if_pos hT1] at q214
                  obtain ⟨hr1_, hS1_, hg1_⟩ := q214
                  rw [hr1_]
                  have hG1_ := FrR.tr hG1 hg1_
                  have hk301 := hx51 k1 (by omega)
                  refine M.if_eq (tgt := 220) rfl (qI (by decide)) (by decide) (fun q => absurd q (by decide)) (fun _ => ?_)
                  refine M.run 2 (pc' := 221) (lv' := [some (vr o), some (vi ((op : Nat) : Int)), some (vi ((gTk L j).1)), some (vi ((gTk L j).2.1)), some (vi 1)]) (st' := [vi 1]) rfl ?_
                  exact M.zret rfl (Or.inr rfl) (Nat.zero_le _) (Nat.zero_le _) (by show PQ o L c1 c2 j ly m1 m2 f1 f2 fc fq w _ _ ((pOne L ly op fs fo fe) j); rw [pOne_b (by omega) (by omega) hR1 hT1]; exact ⟨rfl, hG1_, ⟨by omega, by omega⟩, hK1, _, hS1_, hC1, hU1⟩)
                · skip
                  rw [if_neg hT1] at q214
                  obtain ⟨hr1_, hS1_, hg1_⟩ := q214
                  rw [hr1_]
                  have hG1_ := FrR.tr hG1 hg1_
                  refine M.if_eq (tgt := 220) rfl (qI (by decide)) (by decide) (fun _ => ?_) (fun q => absurd q (by decide))
                  refine M.run 1 (pc' := 221) (lv' := [some (vr o), some (vi ((op : Nat) : Int)), some (vi ((gTk L j).1)), some (vi ((gTk L j).2.1)), some (vi 1)]) (st' := [vi 0]) rfl ?_
                  exact M.zret rfl (Or.inl rfl) (Nat.zero_le _) (Nat.zero_le _) (by show PQ o L c1 c2 j ly m1 m2 f1 f2 fc fq w _ _ ((pOne L ly op fs fo fe) j); rw [pOne_c (by omega) (by omega) hR1 hT1]; exact ⟨rfl, hG1_, hy1, _, _, hS1_⟩)
              · skip
                rw [hR1] at q213
                obtain ⟨hr1, hg1, hy1, dd1, gc1, hS1⟩ := q213
                rw [hr1]
                have hG1 := FrR.tr hF212 hg1
                refine M.if_eq (tgt := 220) rfl (qI (by decide)) (by decide) (fun _ => ?_) (fun q => absurd q (by decide))
                refine M.run 1 (pc' := 221) (lv' := [some (vr o), some (vi ((op : Nat) : Int)), some (vi ((gTk L j).1)), some (vi ((gTk L j).2.1)), some (vi 1)]) (st' := [vi 0]) rfl ?_
                exact M.zret rfl (Or.inl rfl) (Nat.zero_le _) (Nat.zero_le _) (by show PQ o L c1 c2 j ly m1 m2 f1 f2 fc fq w _ _ ((pOne L ly op fs fo fe) j); rw [pOne_e (by omega) (by omega) hR1]; exact ⟨rfl, hG1, hy1, _, _, hS1⟩)
            by_cases hs97_5 : (gTk L j).1 = 50
            · refine M.lsw (tgt := 156) (off := 59) rfl (qI (by omega)) (by decide) (by rw [hs97_5]; rfl) (by decide) ?_
              refine M.run 2 (pc' := 160) (lv' := [some (vr o), some (vi ((op : Nat) : Int)), some (vi ((gTk L j).1)), some (vi ((gTk L j).2.1)), some (vi 1)]) (st' := [vi 9999, vi ((gTk L j).2.1)]) rfl ?_
              refine M.icmp_le (tgt := 169) rfl (qI (by omega)) (qI (by decide)) (by decide) (fun h160 => ?_) (fun h160 => ?_)
              · skip
                have hk300 := hx51 j (by omega)
                refine M.run 2 (pc' := 171) (lv' := [some (vr o), some (vi ((op : Nat) : Int)), some (vi ((gTk L j).1)), some (vi ((gTk L j).2.1)), some (vi 1)]) (st' := [vr o, vr o]) rfl ?_
                refine M.get fl_X3_38 rfl hP.1 (kf := 5) (v := vi ((j : Nat) : Int)) rfl ?_
                refine M.run 2 (pc' := 176) (lv' := [some (vr o), some (vi ((op : Nat) : Int)), some (vi ((gTk L j).1)), some (vi ((gTk L j).2.1)), some (vi 1)]) (st' := [vi (((j : Nat) : Int) + 1), vr o]) rfl ?_
                rw [show ((j : Nat) : Int) + 1 = ((j + 1 : Nat) : Int) from by omega]
                refine M.put fl_X3_38 rfl (hP.1) rfl rfl (Nat.le_of_ble_eq_true rfl) ?_
                change g 0 0 (up w o (Ob 2 [vr (o + 1), vr (o + 5), vr (o + 6), vi ((c1 : Nat) : Int), vi ((c2 : Nat) : Int), vi ((j + 1 : Nat) : Int), vi ly, vr m1, vr m2, vi f1, vi f2])) 179 [some (vr o), some (vi ((op : Nat) : Int)), some (vi ((gTk L j).1)), some (vi ((gTk L j).2.1)), some (vi 1)] []
                have hR215 : isRe o L c1 c2 (j + 1) ly m1 m2 f1 f2 fc fq (up w o (Ob 2 [vr (o + 1), vr (o + 5), vr (o + 6), vi ((c1 : Nat) : Int), vi ((c2 : Nat) : Int), vi ((j + 1 : Nat) : Int), vi ly, vr m1, vr m2, vi f1, vi f2])) := isRe_1 hP
                have hF215 : FrR o w (up w o (Ob 2 [vr (o + 1), vr (o + 5), vr (o + 6), vi ((c1 : Nat) : Int), vi ((c2 : Nat) : Int), vi ((j + 1 : Nat) : Int), vi ly, vr m1, vr m2, vi f1, vi f2])) := FrR.u FrR.rf o (by omega)
                generalize up w o (Ob 2 [vr (o + 1), vr (o + 5), vr (o + 6), vi ((c1 : Nat) : Int), vi ((c2 : Nat) : Int), vi ((j + 1 : Nat) : Int), vi ly, vr m1, vr m2, vi f1, vi f2]) = w215 at hR215 hF215 ⊢
                refine M.run 3 (pc' := 183) (lv' := [some (vr o), some (vi ((op : Nat) : Int)), some (vi ((gTk L j).1)), some (vi ((gTk L j).2.1)), some (vi 1)]) (st' := [vi ((gTk L j).2.1), vi 50, vr o]) rfl ?_
                refine M.callV (kX3_emit l G o L c1 c2 (j + 1) ly m1 m2 f1 f2 fc fq (by omega) 50 ((gTk L j).2.1) (by omega) (by omega)) cv_X3_114 cd_X3_emit rfl (st := []) rfl hR215.1 (by omega) (by decide) rfl (Nat.zero_le _) (Nat.zero_le _) hR215 (fun r217 w218 q219 => ?_)
                obtain ⟨q219r, hR216, q219f⟩ := q219
                rw [q219r]
                have hF216 : FrR o w w218 := FrR.tr hF215 q219f
                exact M.zret rfl (Or.inr rfl) (Nat.zero_le _) (Nat.zero_le _) (by show PQ o L c1 c2 j ly m1 m2 f1 f2 fc fq w _ _ ((pOne L ly op fs fo fe) j); rw [pOne_f (by omega) (by omega)]; exact ⟨rfl, hF216, ⟨(by show 1 + j ≤ j + 1; omega), by omega⟩, okE_lf, _, hR216, lf_at, fun i hi => by rw [uN_o (by omega), uN_o (by omega)]⟩)
              · skip
                refine M.run 2 (pc' := 165) (lv' := [some (vr o), some (vi ((op : Nat) : Int)), some (vi ((gTk L j).1)), some (vi ((gTk L j).2.1)), some (vi 1)]) (st' := [vi 2, vr o]) rfl ?_
                refine M.callV (kX3_refuse l G o L c1 c2 j ly m1 m2 f1 f2 fc fq (by omega) hB 2 (by omega)) cv_X3_73 cd_X3_refuse rfl (st := []) rfl hP.1 (by omega) (by decide) rfl (Nat.zero_le _) (Nat.zero_le _) hP (fun r222 w223 q224 => ?_)
                obtain ⟨q224r, hR221, q224f⟩ := q224
                rw [q224r]
                have hF221 : FrR o w w223 := FrR.tr FrR.rf q224f
                exact M.zret rfl (Or.inl rfl) (Nat.zero_le _) (Nat.zero_le _) (by show PQ o L c1 c2 j ly m1 m2 f1 f2 fc fq w _ _ ((pOne L ly op fs fo fe) j); rw [pOne_g (by omega) (by omega)]; exact ⟨rfl, hF221, hj, _, _, hR221⟩)
            refine M.lsw (tgt := 311) (off := 214) rfl (qI (by omega)) (by decide) (by rw [Op.lookupswitch.offset_cons, if_neg (fun q => hs97_0 q.symm), Op.lookupswitch.offset_cons, if_neg (fun q => hs97_1 q.symm), Op.lookupswitch.offset_cons, if_neg (fun q => hs97_2 q.symm), Op.lookupswitch.offset_cons, if_neg (fun q => hs97_3 q.symm), Op.lookupswitch.offset_cons, if_neg (fun q => hs97_4 q.symm), Op.lookupswitch.offset_cons, if_neg (fun q => hs97_5 q.symm)]; rfl) (by decide) ?_
            refine M.run 2 (pc' := 313) (lv' := [some (vr o), some (vi ((op : Nat) : Int)), some (vi ((gTk L j).1)), some (vi ((gTk L j).2.1)), some (vi 1)]) (st' := [vi 1, vr o]) rfl ?_
            refine M.callV (kX3_refuse l G o L c1 c2 j ly m1 m2 f1 f2 fc fq (by omega) hB 1 (by omega)) cv_X3_73 cd_X3_refuse rfl (st := []) rfl hP.1 (by omega) (by decide) rfl (Nat.zero_le _) (Nat.zero_le _) hP (fun r227 w228 q229 => ?_)
            obtain ⟨q229r, hR226, q229f⟩ := q229
            rw [q229r]
            have hF226 : FrR o w w228 := FrR.tr FrR.rf q229f
            exact M.zret rfl (Or.inl rfl) (Nat.zero_le _) (Nat.zero_le _) (by show PQ o L c1 c2 j ly m1 m2 f1 f2 fc fq w _ _ ((pOne L ly op fs fo fe) j); rw [pOne_o (by omega) (by omega) (by omega)]; exact ⟨rfl, hF226, hj, _, _, hR226⟩)
          · skip
            refine M.run 2 (pc' := 87) (lv' := [some (vr o), some (vi ((op : Nat) : Int)), some (vi ((gTk L j).1)), some (vi ((gTk L j).2.1)), some (vi 1)]) (st' := [vi 23, vi ((gTk L j).1)]) rfl ?_
            refine M.icmp_gt (tgt := 96) rfl (qI (by omega)) (qI (by decide)) (by decide) (fun h87 => ?_) (fun h87 => ?_)
            · skip
              refine M.run 1 (pc' := 97) (lv' := [some (vr o), some (vi ((op : Nat) : Int)), some (vi ((gTk L j).1)), some (vi ((gTk L j).2.1)), some (vi 1)]) (st' := [vi ((gTk L j).1)]) rfl ?_
              by_cases hs97_0 : (gTk L j).1 = 8
              · refine M.lsw (tgt := 258) (off := 161) rfl (qI (by omega)) (by decide) (by rw [hs97_0]; rfl) (by decide) ?_
                have hk300 := hx51 j (by omega)
                refine M.run 2 (pc' := 260) (lv' := [some (vr o), some (vi ((op : Nat) : Int)), some (vi ((gTk L j).1)), some (vi ((gTk L j).2.1)), some (vi 1)]) (st' := [vr o, vr o]) rfl ?_
                refine M.get fl_X3_38 rfl hP.1 (kf := 5) (v := vi ((j : Nat) : Int)) rfl ?_
                refine M.run 2 (pc' := 265) (lv' := [some (vr o), some (vi ((op : Nat) : Int)), some (vi ((gTk L j).1)), some (vi ((gTk L j).2.1)), some (vi 1)]) (st' := [vi (((j : Nat) : Int) + 1), vr o]) rfl ?_
                rw [show ((j : Nat) : Int) + 1 = ((j + 1 : Nat) : Int) from by omega]
                refine M.put fl_X3_38 rfl (hP.1) rfl rfl (Nat.le_of_ble_eq_true rfl) ?_
                change g 0 0 (up w o (Ob 2 [vr (o + 1), vr (o + 5), vr (o + 6), vi ((c1 : Nat) : Int), vi ((c2 : Nat) : Int), vi ((j + 1 : Nat) : Int), vi ly, vr m1, vr m2, vi f1, vi f2])) 268 [some (vr o), some (vi ((op : Nat) : Int)), some (vi ((gTk L j).1)), some (vi ((gTk L j).2.1)), some (vi 1)] []
                have hR231 : isRe o L c1 c2 (j + 1) ly m1 m2 f1 f2 fc fq (up w o (Ob 2 [vr (o + 1), vr (o + 5), vr (o + 6), vi ((c1 : Nat) : Int), vi ((c2 : Nat) : Int), vi ((j + 1 : Nat) : Int), vi ly, vr m1, vr m2, vi f1, vi f2])) := isRe_1 hP
                have hF231 : FrR o w (up w o (Ob 2 [vr (o + 1), vr (o + 5), vr (o + 6), vi ((c1 : Nat) : Int), vi ((c2 : Nat) : Int), vi ((j + 1 : Nat) : Int), vi ly, vr m1, vr m2, vi f1, vi f2])) := FrR.u FrR.rf o (by omega)
                generalize up w o (Ob 2 [vr (o + 1), vr (o + 5), vr (o + 6), vi ((c1 : Nat) : Int), vi ((c2 : Nat) : Int), vi ((j + 1 : Nat) : Int), vi ly, vr m1, vr m2, vi f1, vi f2]) = w231 at hR231 hF231 ⊢
                refine M.run 4 (pc' := 272) (lv' := [some (vr o), some (vi ((op : Nat) : Int)), some (vi ((gTk L j).1)), some (vi ((gTk L j).2.1)), some (vi 1)]) (st' := [vi (((op : Nat) : Int) + 1), vr o]) rfl ?_
                rw [show ((op : Nat) : Int) + 1 = ((op + 1 : Nat) : Int) from (by omega)]
                refine M.callV (ho (by omega) c1 c2 (j + 1) m1 m2 f1 f2 fc fq (by omega) (by omega)) cv_X3_118 cd_X3_one rfl (st := []) rfl (hR231.1) (by omega) (by decide) rfl (Nat.zero_le _) (Nat.zero_le _) hR231 (fun r232 w232 q232 => ?_)
                rcases hR1 : fo (j + 1) with ⟨e1, k1⟩ | ⟨s1, k1⟩
                · skip
                  rw [hR1] at q232
                  obtain ⟨hr1, hg1, ⟨hz1, hy1⟩, hK1, gc1, hS1, hC1, hU1⟩ := q232
                  rw [hr1]
                  have hG1 := FrR.tr hF231 hg1
                  refine M.if_eq (tgt := 291) rfl (qI (by decide)) (by decide) (fun q => absurd q (by decide)) (fun _ => ?_)
                  refine M.run 3 (pc' := 281) (lv' := [some (vr o), some (vi ((op : Nat) : Int)), some (vi ((gTk L j).1)), some (vi ((gTk L j).2.1)), some (vi 1)]) (st' := [vi 0, vi ((gTk L j).1), vr o]) rfl ?_
                  refine M.callV (kX3_emit l G o L (c1 + 2 * szE e1) c2 k1 ly m1 m2 f1 f2 gc1 fq (by omega) ((gTk L j).1) 0 (by omega) (by omega)) cv_X3_114 cd_X3_emit rfl (st := []) rfl hS1.1 (by omega) (by decide) rfl (Nat.zero_le _) (Nat.zero_le _) hS1 (fun r234 w235 q236 => ?_)
                  obtain ⟨q236r, hR233, q236f⟩ := q236
                  rw [q236r]
                  have hF233 : FrR o w w235 := FrR.tr hG1 q236f
                  refine M.if_eq (tgt := 291) rfl (qI (by decide)) (by decide) (fun q => absurd q (by decide)) (fun _ => ?_)
                  refine M.run 2 (pc' := 292) (lv' := [some (vr o), some (vi ((op : Nat) : Int)), some (vi ((gTk L j).1)), some (vi ((gTk L j).2.1)), some (vi 1)]) (st' := [vi 1]) rfl ?_
                  exact M.zret rfl (Or.inr rfl) (Nat.zero_le _) (Nat.zero_le _) (by show PQ o L c1 c2 j ly m1 m2 f1 f2 fc fq w _ _ ((pOne L ly op fs fo fe) j); rw [pOne_u (by omega) (by omega) hR1]; exact ⟨rfl, hF233, ⟨(by show szE e1 + 1 + j ≤ k1; omega), hy1⟩, okE_un hK1, _, (by have hq9 := hR233; rw [show c1 + 2 * szE e1 + 2 = c1 + 2 * szE (unE (gTk L j).1 e1) from by show _ = c1 + 2 * (szE e1 + 1); omega] at hq9; exact hq9), un_at hK1 hC1, fun i hi => by rw [uN_o (by omega), uN_o (by omega)]; exact hU1 i hi⟩)
                · skip
                  rw [hR1] at q232
                  obtain ⟨hr1, hg1, hy1, dd1, gc1, hS1⟩ := q232
                  rw [hr1]
                  have hG1 := FrR.tr hF231 hg1
                  refine M.if_eq (tgt := 291) rfl (qI (by decide)) (by decide) (fun _ => ?_) (fun q => absurd q (by decide))
                  refine M.run 1 (pc' := 292) (lv' := [some (vr o), some (vi ((op : Nat) : Int)), some (vi ((gTk L j).1)), some (vi ((gTk L j).2.1)), some (vi 1)]) (st' := [vi 0]) rfl ?_
                  exact M.zret rfl (Or.inl rfl) (Nat.zero_le _) (Nat.zero_le _) (by show PQ o L c1 c2 j ly m1 m2 f1 f2 fc fq w _ _ ((pOne L ly op fs fo fe) j); rw [pOne_v (by omega) (by omega) hR1]; exact ⟨rfl, hG1, hy1, _, _, hS1⟩)
              by_cases hs97_1 : (gTk L j).1 = 9
              · refine M.lsw (tgt := 258) (off := 161) rfl (qI (by omega)) (by decide) (by rw [hs97_1]; rfl) (by decide) ?_
                have hk300 := hx51 j (by omega)
                refine M.run 2 (pc' := 260) (lv' := [some (vr o), some (vi ((op : Nat) : Int)), some (vi ((gTk L j).1)), some (vi ((gTk L j).2.1)), some (vi 1)]) (st' := [vr o, vr o]) rfl ?_
                refine M.get fl_X3_38 rfl hP.1 (kf := 5) (v := vi ((j : Nat) : Int)) rfl ?_
                refine M.run 2 (pc' := 265) (lv' := [some (vr o), some (vi ((op : Nat) : Int)), some (vi ((gTk L j).1)), some (vi ((gTk L j).2.1)), some (vi 1)]) (st' := [vi (((j : Nat) : Int) + 1), vr o]) rfl ?_
                rw [show ((j : Nat) : Int) + 1 = ((j + 1 : Nat) : Int) from by omega]
                refine M.put fl_X3_38 rfl (hP.1) rfl rfl (Nat.le_of_ble_eq_true rfl) ?_
                change g 0 0 (up w o (Ob 2 [vr (o + 1), vr (o + 5), vr (o + 6), vi ((c1 : Nat) : Int), vi ((c2 : Nat) : Int), vi ((j + 1 : Nat) : Int), vi ly, vr m1, vr m2, vi f1, vi f2])) 268 [some (vr o), some (vi ((op : Nat) : Int)), some (vi ((gTk L j).1)), some (vi ((gTk L j).2.1)), some (vi 1)] []
                have hR238 : isRe o L c1 c2 (j + 1) ly m1 m2 f1 f2 fc fq (up w o (Ob 2 [vr (o + 1), vr (o + 5), vr (o + 6), vi ((c1 : Nat) : Int), vi ((c2 : Nat) : Int), vi ((j + 1 : Nat) : Int), vi ly, vr m1, vr m2, vi f1, vi f2])) := isRe_1 hP
                have hF238 : FrR o w (up w o (Ob 2 [vr (o + 1), vr (o + 5), vr (o + 6), vi ((c1 : Nat) : Int), vi ((c2 : Nat) : Int), vi ((j + 1 : Nat) : Int), vi ly, vr m1, vr m2, vi f1, vi f2])) := FrR.u FrR.rf o (by omega)
                generalize up w o (Ob 2 [vr (o + 1), vr (o + 5), vr (o + 6), vi ((c1 : Nat) : Int), vi ((c2 : Nat) : Int), vi ((j + 1 : Nat) : Int), vi ly, vr m1, vr m2, vi f1, vi f2]) = w238 at hR238 hF238 ⊢
                refine M.run 4 (pc' := 272) (lv' := [some (vr o), some (vi ((op : Nat) : Int)), some (vi ((gTk L j).1)), some (vi ((gTk L j).2.1)), some (vi 1)]) (st' := [vi (((op : Nat) : Int) + 1), vr o]) rfl ?_
                rw [show ((op : Nat) : Int) + 1 = ((op + 1 : Nat) : Int) from (by omega)]
                refine M.callV (ho (by omega) c1 c2 (j + 1) m1 m2 f1 f2 fc fq (by omega) (by omega)) cv_X3_118 cd_X3_one rfl (st := []) rfl (hR238.1) (by omega) (by decide) rfl (Nat.zero_le _) (Nat.zero_le _) hR238 (fun r239 w239 q239 => ?_)
                rcases hR1 : fo (j + 1) with ⟨e1, k1⟩ | ⟨s1, k1⟩
                · skip
                  rw [hR1] at q239
                  obtain ⟨hr1, hg1, ⟨hz1, hy1⟩, hK1, gc1, hS1, hC1, hU1⟩ := q239
                  rw [hr1]
                  have hG1 := FrR.tr hF238 hg1
                  refine M.if_eq (tgt := 291) rfl (qI (by decide)) (by decide) (fun q => absurd q (by decide)) (fun _ => ?_)
                  refine M.run 3 (pc' := 281) (lv' := [some (vr o), some (vi ((op : Nat) : Int)), some (vi ((gTk L j).1)), some (vi ((gTk L j).2.1)), some (vi 1)]) (st' := [vi 0, vi ((gTk L j).1), vr o]) rfl ?_
                  refine M.callV (kX3_emit l G o L (c1 + 2 * szE e1) c2 k1 ly m1 m2 f1 f2 gc1 fq (by omega) ((gTk L j).1) 0 (by omega) (by omega)) cv_X3_114 cd_X3_emit rfl (st := []) rfl hS1.1 (by omega) (by decide) rfl (Nat.zero_le _) (Nat.zero_le _) hS1 (fun r241 w242 q243 => ?_)
                  obtain ⟨q243r, hR240, q243f⟩ := q243
                  rw [q243r]
                  have hF240 : FrR o w w242 := FrR.tr hG1 q243f
                  refine M.if_eq (tgt := 291) rfl (qI (by decide)) (by decide) (fun q => absurd q (by decide)) (fun _ => ?_)
                  refine M.run 2 (pc' := 292) (lv' := [some (vr o), some (vi ((op : Nat) : Int)), some (vi ((gTk L j).1)), some (vi ((gTk L j).2.1)), some (vi 1)]) (st' := [vi 1]) rfl ?_
                  exact M.zret rfl (Or.inr rfl) (Nat.zero_le _) (Nat.zero_le _) (by show PQ o L c1 c2 j ly m1 m2 f1 f2 fc fq w _ _ ((pOne L ly op fs fo fe) j); rw [pOne_u (by omega) (by omega) hR1]; exact ⟨rfl, hF240, ⟨(by show szE e1 + 1 + j ≤ k1; omega), hy1⟩, okE_un hK1, _, (by have hq9 := hR240; rw [show c1 + 2 * szE e1 + 2 = c1 + 2 * szE (unE (gTk L j).1 e1) from by show _ = c1 + 2 * (szE e1 + 1); omega] at hq9; exact hq9), un_at hK1 hC1, fun i hi => by rw [uN_o (by omega), uN_o (by omega)]; exact hU1 i hi⟩)
                · skip
                  rw [hR1] at q239
                  obtain ⟨hr1, hg1, hy1, dd1, gc1, hS1⟩ := q239
                  rw [hr1]
                  have hG1 := FrR.tr hF238 hg1
                  refine M.if_eq (tgt := 291) rfl (qI (by decide)) (by decide) (fun _ => ?_) (fun q => absurd q (by decide))
                  refine M.run 1 (pc' := 292) (lv' := [some (vr o), some (vi ((op : Nat) : Int)), some (vi ((gTk L j).1)), some (vi ((gTk L j).2.1)), some (vi 1)]) (st' := [vi 0]) rfl ?_
                  exact M.zret rfl (Or.inl rfl) (Nat.zero_le _) (Nat.zero_le _) (by show PQ o L c1 c2 j ly m1 m2 f1 f2 fc fq w _ _ ((pOne L ly op fs fo fe) j); rw [pOne_v (by omega) (by omega) hR1]; exact ⟨rfl, hG1, hy1, _, _, hS1⟩)
              by_cases hs97_2 : (gTk L j).1 = 10
              · refine M.lsw (tgt := 293) (off := 196) rfl (qI (by omega)) (by decide) (by rw [hs97_2]; rfl) (by decide) ?_
                have hk300 := hx51 j (by omega)
                refine M.run 2 (pc' := 295) (lv' := [some (vr o), some (vi ((op : Nat) : Int)), some (vi ((gTk L j).1)), some (vi ((gTk L j).2.1)), some (vi 1)]) (st' := [vr o, vr o]) rfl ?_
                refine M.get fl_X3_38 rfl hP.1 (kf := 5) (v := vi ((j : Nat) : Int)) rfl ?_
                refine M.run 2 (pc' := 300) (lv' := [some (vr o), some (vi ((op : Nat) : Int)), some (vi ((gTk L j).1)), some (vi ((gTk L j).2.1)), some (vi 1)]) (st' := [vi (((j : Nat) : Int) + 1), vr o]) rfl ?_
                rw [show ((j : Nat) : Int) + 1 = ((j + 1 : Nat) : Int) from by omega]
                refine M.put fl_X3_38 rfl (hP.1) rfl rfl (Nat.le_of_ble_eq_true rfl) ?_
                change g 0 0 (up w o (Ob 2 [vr (o + 1), vr (o + 5), vr (o + 6), vi ((c1 : Nat) : Int), vi ((c2 : Nat) : Int), vi ((j + 1 : Nat) : Int), vi ly, vr m1, vr m2, vi f1, vi f2])) 303 [some (vr o), some (vi ((op : Nat) : Int)), some (vi ((gTk L j).1)), some (vi ((gTk L j).2.1)), some (vi 1)] []
                have hR245 : isRe o L c1 c2 (j + 1) ly m1 m2 f1 f2 fc fq (up w o (Ob 2 [vr (o + 1), vr (o + 5), vr (o + 6), vi ((c1 : Nat) : Int), vi ((c2 : Nat) : Int), vi ((j + 1 : Nat) : Int), vi ly, vr m1, vr m2, vi f1, vi f2])) := isRe_1 hP
                have hF245 : FrR o w (up w o (Ob 2 [vr (o + 1), vr (o + 5), vr (o + 6), vi ((c1 : Nat) : Int), vi ((c2 : Nat) : Int), vi ((j + 1 : Nat) : Int), vi ly, vr m1, vr m2, vi f1, vi f2])) := FrR.u FrR.rf o (by omega)
                generalize up w o (Ob 2 [vr (o + 1), vr (o + 5), vr (o + 6), vi ((c1 : Nat) : Int), vi ((c2 : Nat) : Int), vi ((j + 1 : Nat) : Int), vi ly, vr m1, vr m2, vi f1, vi f2]) = w245 at hR245 hF245 ⊢
                refine M.run 4 (pc' := 307) (lv' := [some (vr o), some (vi ((op : Nat) : Int)), some (vi ((gTk L j).1)), some (vi ((gTk L j).2.1)), some (vi 1)]) (st' := [vi (((op : Nat) : Int) + 1), vr o]) rfl ?_
                rw [show ((op : Nat) : Int) + 1 = ((op + 1 : Nat) : Int) from (by omega)]
                refine M.callV (he (by omega) c1 c2 (j + 1) m1 m2 f1 f2 fc fq (by omega) (by omega)) cv_X3_124 cd_X3_choice rfl (st := []) rfl (hR245.1) (by omega) (by decide) rfl (Nat.zero_le _) (Nat.zero_le _) hR245 (fun r246 w246 q246 => ?_)
                rcases hR1 : fe (j + 1) with ⟨e1, k1⟩ | ⟨s1, k1⟩
                · skip
                  rw [hR1] at q246
                  obtain ⟨hr1, hg1, ⟨hz1, hy1⟩, hK1, gc1, hS1, hC1, hU1⟩ := q246
                  rw [hr1]
                  have hG1 := FrR.tr hF245 hg1
                  exact M.zret rfl (Or.inr rfl) (Nat.zero_le _) (Nat.zero_le _) (by show PQ o L c1 c2 j ly m1 m2 f1 f2 fc fq w _ _ ((pOne L ly op fs fo fe) j); rw [pOne_i (by omega) (by omega), hR1]; exact ⟨rfl, hG1, ⟨by omega, hy1⟩, hK1, _, hS1, hC1, hU1⟩)
                · skip
                  rw [hR1] at q246
                  obtain ⟨hr1, hg1, hy1, dd1, gc1, hS1⟩ := q246
                  rw [hr1]
                  have hG1 := FrR.tr hF245 hg1
                  exact M.zret rfl (Or.inl rfl) (Nat.zero_le _) (Nat.zero_le _) (by show PQ o L c1 c2 j ly m1 m2 f1 f2 fc fq w _ _ ((pOne L ly op fs fo fe) j); rw [pOne_i (by omega) (by omega), hR1]; exact ⟨rfl, hG1, hy1, _, _, hS1⟩)
              by_cases hs97_3 : (gTk L j).1 = 35
              · refine M.lsw (tgt := 222) (off := 125) rfl (qI (by omega)) (by decide) (by rw [hs97_3]; rfl) (by decide) ?_
                have hk300 := hx51 j (by omega)
                refine M.run 2 (pc' := 224) (lv' := [some (vr o), some (vi ((op : Nat) : Int)), some (vi ((gTk L j).1)), some (vi ((gTk L j).2.1)), some (vi 1)]) (st' := [vr o, vr o]) rfl ?_
                refine M.get fl_X3_38 rfl hP.1 (kf := 5) (v := vi ((j : Nat) : Int)) rfl ?_
                refine M.run 2 (pc' := 229) (lv' := [some (vr o), some (vi ((op : Nat) : Int)), some (vi ((gTk L j).1)), some (vi ((gTk L j).2.1)), some (vi 1)]) (st' := [vi (((j : Nat) : Int) + 1), vr o]) rfl ?_
                rw [show ((j : Nat) : Int) + 1 = ((j + 1 : Nat) : Int) from by omega]
                refine M.put fl_X3_38 rfl (hP.1) rfl rfl (Nat.le_of_ble_eq_true rfl) ?_
                change g 0 0 (up w o (Ob 2 [vr (o + 1), vr (o + 5), vr (o + 6), vi ((c1 : Nat) : Int), vi ((c2 : Nat) : Int), vi ((j + 1 : Nat) : Int), vi ly, vr m1, vr m2, vi f1, vi f2])) 232 [some (vr o), some (vi ((op : Nat) : Int)), some (vi ((gTk L j).1)), some (vi ((gTk L j).2.1)), some (vi 1)] []
                have hR247 : isRe o L c1 c2 (j + 1) ly m1 m2 f1 f2 fc fq (up w o (Ob 2 [vr (o + 1), vr (o + 5), vr (o + 6), vi ((c1 : Nat) : Int), vi ((c2 : Nat) : Int), vi ((j + 1 : Nat) : Int), vi ly, vr m1, vr m2, vi f1, vi f2])) := isRe_1 hP
                have hF247 : FrR o w (up w o (Ob 2 [vr (o + 1), vr (o + 5), vr (o + 6), vi ((c1 : Nat) : Int), vi ((c2 : Nat) : Int), vi ((j + 1 : Nat) : Int), vi ly, vr m1, vr m2, vi f1, vi f2])) := FrR.u FrR.rf o (by omega)
                generalize up w o (Ob 2 [vr (o + 1), vr (o + 5), vr (o + 6), vi ((c1 : Nat) : Int), vi ((c2 : Nat) : Int), vi ((j + 1 : Nat) : Int), vi ly, vr m1, vr m2, vi f1, vi f2]) = w247 at hR247 hF247 ⊢
                refine M.run 4 (pc' := 236) (lv' := [some (vr o), some (vi ((op : Nat) : Int)), some (vi ((gTk L j).1)), some (vi ((gTk L j).2.1)), some (vi 1)]) (st' := [vi (((op : Nat) : Int) + 1), vr o]) rfl ?_
                rw [show ((op : Nat) : Int) + 1 = ((op + 1 : Nat) : Int) from (by omega)]
                refine M.callV (ho (by omega) c1 c2 (j + 1) m1 m2 f1 f2 fc fq (by omega) (by omega)) cv_X3_118 cd_X3_one rfl (st := []) rfl (hR247.1) (by omega) (by decide) rfl (Nat.zero_le _) (Nat.zero_le _) hR247 (fun r248 w248 q248 => ?_)
                rcases hR1 : fo (j + 1) with ⟨e1, k1⟩ | ⟨s1, k1⟩
                · skip
                  rw [hR1] at q248
                  obtain ⟨hr1, hg1, ⟨hz1, hy1⟩, hK1, gc1, hS1, hC1, hU1⟩ := q248
                  rw [hr1]
                  have hG1 := FrR.tr hF247 hg1
                  refine M.if_eq (tgt := 256) rfl (qI (by decide)) (by decide) (fun q => absurd q (by decide)) (fun _ => ?_)
                  refine M.run 3 (pc' := 246) (lv' := [some (vr o), some (vi ((op : Nat) : Int)), some (vi ((gTk L j).1)), some (vi ((gTk L j).2.1)), some (vi 1)]) (st' := [vi 0, vi 60, vr o]) rfl ?_
                  refine M.callV (kX3_emit l G o L (c1 + 2 * szE e1) c2 k1 ly m1 m2 f1 f2 gc1 fq (by omega) 60 0 (by omega) (by omega)) cv_X3_114 cd_X3_emit rfl (st := []) rfl hS1.1 (by omega) (by decide) rfl (Nat.zero_le _) (Nat.zero_le _) hS1 (fun r250 w251 q252 => ?_)
                  obtain ⟨q252r, hR249, q252f⟩ := q252
                  rw [q252r]
                  have hF249 : FrR o w w251 := FrR.tr hG1 q252f
                  refine M.if_eq (tgt := 256) rfl (qI (by decide)) (by decide) (fun q => absurd q (by decide)) (fun _ => ?_)
                  refine M.run 2 (pc' := 257) (lv' := [some (vr o), some (vi ((op : Nat) : Int)), some (vi ((gTk L j).1)), some (vi ((gTk L j).2.1)), some (vi 1)]) (st' := [vi 1]) rfl ?_
                  exact M.zret rfl (Or.inr rfl) (Nat.zero_le _) (Nat.zero_le _) (by show PQ o L c1 c2 j ly m1 m2 f1 f2 fc fq w _ _ ((pOne L ly op fs fo fe) j); rw [pOne_m (by omega) (by omega) hR1]; exact ⟨rfl, hF249, ⟨(by show szE e1 + 1 + j ≤ k1; omega), hy1⟩, okE_un hK1, _, (by have hq9 := hR249; rw [show c1 + 2 * szE e1 + 2 = c1 + 2 * szE (unE 60 e1) from by show _ = c1 + 2 * (szE e1 + 1); omega] at hq9; exact hq9), un_at hK1 hC1, fun i hi => by rw [uN_o (by omega), uN_o (by omega)]; exact hU1 i hi⟩)
                · skip
                  rw [hR1] at q248
                  obtain ⟨hr1, hg1, hy1, dd1, gc1, hS1⟩ := q248
                  rw [hr1]
                  have hG1 := FrR.tr hF247 hg1
                  refine M.if_eq (tgt := 256) rfl (qI (by decide)) (by decide) (fun _ => ?_) (fun q => absurd q (by decide))
                  refine M.run 1 (pc' := 257) (lv' := [some (vr o), some (vi ((op : Nat) : Int)), some (vi ((gTk L j).1)), some (vi ((gTk L j).2.1)), some (vi 1)]) (st' := [vi 0]) rfl ?_
                  exact M.zret rfl (Or.inl rfl) (Nat.zero_le _) (Nat.zero_le _) (by show PQ o L c1 c2 j ly m1 m2 f1 f2 fc fq w _ _ ((pOne L ly op fs fo fe) j); rw [pOne_n (by omega) (by omega) hR1]; exact ⟨rfl, hG1, hy1, _, _, hS1⟩)
              by_cases hs97_4 : (gTk L j).1 = 38
              · refine M.lsw (tgt := 187) (off := 90) rfl (qI (by omega)) (by decide) (by rw [hs97_4]; rfl) (by decide) ?_
                have hk300 := hx51 j (by omega)
                refine M.run 2 (pc' := 189) (lv' := [some (vr o), some (vi ((op : Nat) : Int)), some (vi ((gTk L j).1)), some (vi ((gTk L j).2.1)), some (vi 1)]) (st' := [vr o, vr o]) rfl ?_
                refine M.get fl_X3_38 rfl hP.1 (kf := 5) (v := vi ((j : Nat) : Int)) rfl ?_
                refine M.run 2 (pc' := 194) (lv' := [some (vr o), some (vi ((op : Nat) : Int)), some (vi ((gTk L j).1)), some (vi ((gTk L j).2.1)), some (vi 1)]) (st' := [vi (((j : Nat) : Int) + 1), vr o]) rfl ?_
                rw [show ((j : Nat) : Int) + 1 = ((j + 1 : Nat) : Int) from by omega]
                refine M.put fl_X3_38 rfl (hP.1) rfl rfl (Nat.le_of_ble_eq_true rfl) ?_
                change g 0 0 (up w o (Ob 2 [vr (o + 1), vr (o + 5), vr (o + 6), vi ((c1 : Nat) : Int), vi ((c2 : Nat) : Int), vi ((j + 1 : Nat) : Int), vi ly, vr m1, vr m2, vi f1, vi f2])) 197 [some (vr o), some (vi ((op : Nat) : Int)), some (vi ((gTk L j).1)), some (vi ((gTk L j).2.1)), some (vi 1)] []
                have hR254 : isRe o L c1 c2 (j + 1) ly m1 m2 f1 f2 fc fq (up w o (Ob 2 [vr (o + 1), vr (o + 5), vr (o + 6), vi ((c1 : Nat) : Int), vi ((c2 : Nat) : Int), vi ((j + 1 : Nat) : Int), vi ly, vr m1, vr m2, vi f1, vi f2])) := isRe_1 hP
                have hF254 : FrR o w (up w o (Ob 2 [vr (o + 1), vr (o + 5), vr (o + 6), vi ((c1 : Nat) : Int), vi ((c2 : Nat) : Int), vi ((j + 1 : Nat) : Int), vi ly, vr m1, vr m2, vi f1, vi f2])) := FrR.u FrR.rf o (by omega)
                generalize up w o (Ob 2 [vr (o + 1), vr (o + 5), vr (o + 6), vi ((c1 : Nat) : Int), vi ((c2 : Nat) : Int), vi ((j + 1 : Nat) : Int), vi ly, vr m1, vr m2, vi f1, vi f2]) = w254 at hR254 hF254 ⊢
                refine M.run 4 (pc' := 201) (lv' := [some (vr o), some (vi ((op : Nat) : Int)), some (vi ((gTk L j).1)), some (vi ((gTk L j).2.1)), some (vi 1)]) (st' := [vi (((op : Nat) : Int) + 1), vr o]) rfl ?_
                rw [show ((op : Nat) : Int) + 1 = ((op + 1 : Nat) : Int) from (by omega)]
                refine M.callV (hs (by omega) c1 c2 (j + 1) m1 m2 f1 f2 fc fq (by omega) (by omega)) cv_X3_89 cd_X3_sum rfl (st := []) rfl (hR254.1) (by omega) (by decide) rfl (Nat.zero_le _) (Nat.zero_le _) hR254 (fun r255 w255 q255 => ?_)
                rcases hR1 : fs (j + 1) with ⟨e1, k1⟩ | ⟨s1, k1⟩
                · skip
                  rw [hR1] at q255
                  obtain ⟨hr1, hg1, ⟨hz1, hy1⟩, hK1, gc1, hS1, hC1, hU1⟩ := q255
                  rw [hr1]
                  have hG1 := FrR.tr hF254 hg1
                  refine M.if_eq (tgt := 220) rfl (qI (by decide)) (by decide) (fun q => absurd q (by decide)) (fun _ => ?_)
                  refine M.run 2 (pc' := 210) (lv' := [some (vr o), some (vi ((op : Nat) : Int)), some (vi ((gTk L j).1)), some (vi ((gTk L j).2.1)), some (vi 1)]) (st' := [vi 39, vr o]) rfl ?_
                  refine M.callV (kX3_take l G o L (c1 + 2 * szE e1) c2 k1 ly m1 m2 f1 f2 gc1 fq (by omega) hB 39 (by omega)) cv_X3_92 cd_X3_take rfl (st := []) rfl (hS1.1) (by omega) (by decide) rfl (Nat.zero_le _) (Nat.zero_le _) hS1 (fun r256 w256 q256 => ?_)
                  by_cases hT1 : (gTk L k1).1 = 39
                  · skip
                    rw [if_pos hT1] at q256
                    obtain ⟨hr1_, hS1_, hg1_⟩ := q256
                    rw [hr1_]
                    have hG1_ := FrR.tr hG1 hg1_
                    have hk301 := hx51 k1 (by omega)
                    refine M.if_eq (tgt := 220) rfl (qI (by decide)) (by decide) (fun q => absurd q (by decide)) (fun _ => ?_)
                    refine M.run 2 (pc' := 221) (lv' := [some (vr o), some (vi ((op : Nat) : Int)), some (vi ((gTk L j).1)), some (vi ((gTk L j).2.1)), some (vi 1)]) (st' := [vi 1]) rfl ?_
                    exact M.zret rfl (Or.inr rfl) (Nat.zero_le _) (Nat.zero_le _) (by show PQ o L c1 c2 j ly m1 m2 f1 f2 fc fq w _ _ ((pOne L ly op fs fo fe) j); rw [pOne_b (by omega) (by omega) hR1 hT1]; exact ⟨rfl, hG1_, ⟨by omega, by omega⟩, hK1, _, hS1_, hC1, hU1⟩)
                  · skip
                    rw [if_neg hT1] at q256
                    obtain ⟨hr1_, hS1_, hg1_⟩ := q256
                    rw [hr1_]
                    have hG1_ := FrR.tr hG1 hg1_
                    refine M.if_eq (tgt := 220) rfl (qI (by decide)) (by decide) (fun _ => ?_) (fun q => absurd q (by decide))
                    refine M.run 1 (pc' := 221) (lv' := [some (vr o), some (vi ((op : Nat) : Int)), some (vi ((gTk L j).1)), some (vi ((gTk L j).2.1)), some (vi 1)]) (st' := [vi 0]) rfl ?_
                    exact M.zret rfl (Or.inl rfl) (Nat.zero_le _) (Nat.zero_le _) (by show PQ o L c1 c2 j ly m1 m2 f1 f2 fc fq w _ _ ((pOne L ly op fs fo fe) j); rw [pOne_c (by omega) (by omega) hR1 hT1]; exact ⟨rfl, hG1_, hy1, _, _, hS1_⟩)
                · skip
                  rw [hR1] at q255
                  obtain ⟨hr1, hg1, hy1, dd1, gc1, hS1⟩ := q255
                  rw [hr1]
                  have hG1 := FrR.tr hF254 hg1
                  refine M.if_eq (tgt := 220) rfl (qI (by decide)) (by decide) (fun _ => ?_) (fun q => absurd q (by decide))
                  refine M.run 1 (pc' := 221) (lv' := [some (vr o), some (vi ((op : Nat) : Int)), some (vi ((gTk L j).1)), some (vi ((gTk L j).2.1)), some (vi 1)]) (st' := [vi 0]) rfl ?_
                  exact M.zret rfl (Or.inl rfl) (Nat.zero_le _) (Nat.zero_le _) (by show PQ o L c1 c2 j ly m1 m2 f1 f2 fc fq w _ _ ((pOne L ly op fs fo fe) j); rw [pOne_e (by omega) (by omega) hR1]; exact ⟨rfl, hG1, hy1, _, _, hS1⟩)
              by_cases hs97_5 : (gTk L j).1 = 50
              · refine M.lsw (tgt := 156) (off := 59) rfl (qI (by omega)) (by decide) (by rw [hs97_5]; rfl) (by decide) ?_
                refine M.run 2 (pc' := 160) (lv' := [some (vr o), some (vi ((op : Nat) : Int)), some (vi ((gTk L j).1)), some (vi ((gTk L j).2.1)), some (vi 1)]) (st' := [vi 9999, vi ((gTk L j).2.1)]) rfl ?_
                refine M.icmp_le (tgt := 169) rfl (qI (by omega)) (qI (by decide)) (by decide) (fun h160 => ?_) (fun h160 => ?_)
                · skip
                  have hk300 := hx51 j (by omega)
                  refine M.run 2 (pc' := 171) (lv' := [some (vr o), some (vi ((op : Nat) : Int)), some (vi ((gTk L j).1)), some (vi ((gTk L j).2.1)), some (vi 1)]) (st' := [vr o, vr o]) rfl ?_
                  refine M.get fl_X3_38 rfl hP.1 (kf := 5) (v := vi ((j : Nat) : Int)) rfl ?_
                  refine M.run 2 (pc' := 176) (lv' := [some (vr o), some (vi ((op : Nat) : Int)), some (vi ((gTk L j).1)), some (vi ((gTk L j).2.1)), some (vi 1)]) (st' := [vi (((j : Nat) : Int) + 1), vr o]) rfl ?_
                  rw [show ((j : Nat) : Int) + 1 = ((j + 1 : Nat) : Int) from by omega]
                  refine M.put fl_X3_38 rfl (hP.1) rfl rfl (Nat.le_of_ble_eq_true rfl) ?_
                  change g 0 0 (up w o (Ob 2 [vr (o + 1), vr (o + 5), vr (o + 6), vi ((c1 : Nat) : Int), vi ((c2 : Nat) : Int), vi ((j + 1 : Nat) : Int), vi ly, vr m1, vr m2, vi f1, vi f2])) 179 [some (vr o), some (vi ((op : Nat) : Int)), some (vi ((gTk L j).1)), some (vi ((gTk L j).2.1)), some (vi 1)] []
                  have hR257 : isRe o L c1 c2 (j + 1) ly m1 m2 f1 f2 fc fq (up w o (Ob 2 [vr (o + 1), vr (o + 5), vr (o + 6), vi ((c1 : Nat) : Int), vi ((c2 : Nat) : Int), vi ((j + 1 : Nat) : Int), vi ly, vr m1, vr m2, vi f1, vi f2])) := isRe_1 hP
                  have hF257 : FrR o w (up w o (Ob 2 [vr (o + 1), vr (o + 5), vr (o + 6), vi ((c1 : Nat) : Int), vi ((c2 : Nat) : Int), vi ((j + 1 : Nat) : Int), vi ly, vr m1, vr m2, vi f1, vi f2])) := FrR.u FrR.rf o (by omega)
                  generalize up w o (Ob 2 [vr (o + 1), vr (o + 5), vr (o + 6), vi ((c1 : Nat) : Int), vi ((c2 : Nat) : Int), vi ((j + 1 : Nat) : Int), vi ly, vr m1, vr m2, vi f1, vi f2]) = w257 at hR257 hF257 ⊢
                  refine M.run 3 (pc' := 183) (lv' := [some (vr o), some (vi ((op : Nat) : Int)), some (vi ((gTk L j).1)), some (vi ((gTk L j).2.1)), some (vi 1)]) (st' := [vi ((gTk L j).2.1), vi 50, vr o]) rfl ?_
                  refine M.callV (kX3_emit l G o L c1 c2 (j + 1) ly m1 m2 f1 f2 fc fq (by omega) 50 ((gTk L j).2.1) (by omega) (by omega)) cv_X3_114 cd_X3_emit rfl (st := []) rfl hR257.1 (by omega) (by decide) rfl (Nat.zero_le _) (Nat.zero_le _) hR257 (fun r259 w260 q261 => ?_)
                  obtain ⟨q261r, hR258, q261f⟩ := q261
                  rw [q261r]
                  have hF258 : FrR o w w260 := FrR.tr hF257 q261f
                  exact M.zret rfl (Or.inr rfl) (Nat.zero_le _) (Nat.zero_le _) (by show PQ o L c1 c2 j ly m1 m2 f1 f2 fc fq w _ _ ((pOne L ly op fs fo fe) j); rw [pOne_f (by omega) (by omega)]; exact ⟨rfl, hF258, ⟨(by show 1 + j ≤ j + 1; omega), by omega⟩, okE_lf, _, hR258, lf_at, fun i hi => by rw [uN_o (by omega), uN_o (by omega)]⟩)
                · skip
                  refine M.run 2 (pc' := 165) (lv' := [some (vr o), some (vi ((op : Nat) : Int)), some (vi ((gTk L j).1)), some (vi ((gTk L j).2.1)), some (vi 1)]) (st' := [vi 2, vr o]) rfl ?_
                  refine M.callV (kX3_refuse l G o L c1 c2 j ly m1 m2 f1 f2 fc fq (by omega) hB 2 (by omega)) cv_X3_73 cd_X3_refuse rfl (st := []) rfl hP.1 (by omega) (by decide) rfl (Nat.zero_le _) (Nat.zero_le _) hP (fun r264 w265 q266 => ?_)
                  obtain ⟨q266r, hR263, q266f⟩ := q266
                  rw [q266r]
                  have hF263 : FrR o w w265 := FrR.tr FrR.rf q266f
                  exact M.zret rfl (Or.inl rfl) (Nat.zero_le _) (Nat.zero_le _) (by show PQ o L c1 c2 j ly m1 m2 f1 f2 fc fq w _ _ ((pOne L ly op fs fo fe) j); rw [pOne_g (by omega) (by omega)]; exact ⟨rfl, hF263, hj, _, _, hR263⟩)
              refine M.lsw (tgt := 311) (off := 214) rfl (qI (by omega)) (by decide) (by rw [Op.lookupswitch.offset_cons, if_neg (fun q => hs97_0 q.symm), Op.lookupswitch.offset_cons, if_neg (fun q => hs97_1 q.symm), Op.lookupswitch.offset_cons, if_neg (fun q => hs97_2 q.symm), Op.lookupswitch.offset_cons, if_neg (fun q => hs97_3 q.symm), Op.lookupswitch.offset_cons, if_neg (fun q => hs97_4 q.symm), Op.lookupswitch.offset_cons, if_neg (fun q => hs97_5 q.symm)]; rfl) (by decide) ?_
              refine M.run 2 (pc' := 313) (lv' := [some (vr o), some (vi ((op : Nat) : Int)), some (vi ((gTk L j).1)), some (vi ((gTk L j).2.1)), some (vi 1)]) (st' := [vi 1, vr o]) rfl ?_
              refine M.callV (kX3_refuse l G o L c1 c2 j ly m1 m2 f1 f2 fc fq (by omega) hB 1 (by omega)) cv_X3_73 cd_X3_refuse rfl (st := []) rfl hP.1 (by omega) (by decide) rfl (Nat.zero_le _) (Nat.zero_le _) hP (fun r269 w270 q271 => ?_)
              obtain ⟨q271r, hR268, q271f⟩ := q271
              rw [q271r]
              have hF268 : FrR o w w270 := FrR.tr FrR.rf q271f
              exact M.zret rfl (Or.inl rfl) (Nat.zero_le _) (Nat.zero_le _) (by show PQ o L c1 c2 j ly m1 m2 f1 f2 fc fq w _ _ ((pOne L ly op fs fo fe) j); rw [pOne_o (by omega) (by omega) (by omega)]; exact ⟨rfl, hF268, hj, _, _, hR268⟩)
            · skip
              have hk300 := hx51 j (by omega)
              refine M.run 2 (pc' := 92) (lv' := [some (vr o), some (vi ((op : Nat) : Int)), some (vi ((gTk L j).1)), some (vi ((gTk L j).2.1)), some (vi 1)]) (st' := [vi ((gTk L j).1), vr o]) rfl ?_
              refine M.callV (kX3_name l G o L c1 c2 j ly m1 m2 f1 f2 fc fq (by omega) hB (by omega) hly ((gTk L j).1) (by omega)) cv_X3_121 cd_X3_name rfl (st := []) rfl (hP.1) (by omega) (by decide) rfl (Nat.zero_le _) (Nat.zero_le _) hP (fun r273 w273 q273 => ?_)
              by_cases hT1 : ((gTk L j).1) = (if ly = 0 then 23 else 22)
              · skip
                rw [if_pos hT1] at q273
                obtain ⟨hr1_, hS1_, hg1_⟩ := q273
                rw [hr1_]
                have hG1_ := FrR.tr FrR.rf hg1_
                exact M.zret rfl (Or.inl rfl) (Nat.zero_le _) (Nat.zero_le _) (by show PQ o L c1 c2 j ly m1 m2 f1 f2 fc fq w _ _ ((pOne L ly op fs fo fe) j); rw [pOne_x (by omega) (by omega) hT1]; exact ⟨rfl, hG1_, hj, _, _, hS1_⟩)
              · skip
                rw [if_neg hT1] at q273
                obtain ⟨hr1_, hS1_, hg1_⟩ := q273
                rw [hr1_]
                have hG1_ := FrR.tr FrR.rf hg1_
                exact M.zret rfl (Or.inr rfl) (Nat.zero_le _) (Nat.zero_le _) (by show PQ o L c1 c2 j ly m1 m2 f1 f2 fc fq w _ _ ((pOne L ly op fs fo fe) j); rw [pOne_y (by omega) (by omega) hT1]; exact ⟨rfl, hG1_, ⟨(by show 1 + j ≤ j + 1; omega), by omega⟩, okE_lf, _, hS1_, lf_at, fun i hi => by rw [uN_o (by omega), uN_o (by omega)]⟩)
        · skip
          refine M.run 2 (pc' := 74) (lv' := [some (vr o), some (vi ((op : Nat) : Int)), some (vi ((gTk L j).1)), some (vi ((gTk L j).2.1)), some (vi 1)]) (st' := [vi 3, vr o]) rfl ?_
          refine M.callV (kX3_refuse l G o L c1 c2 j ly m1 m2 f1 f2 fc fq (by omega) hB 3 (by omega)) cv_X3_73 cd_X3_refuse rfl (st := []) rfl hP.1 (by omega) (by decide) rfl (Nat.zero_le _) (Nat.zero_le _) hP (fun r275 w276 q277 => ?_)
          obtain ⟨q277r, hR274, q277f⟩ := q277
          rw [q277r]
          have hF274 : FrR o w w276 := FrR.tr FrR.rf q277f
          exact M.zret rfl (Or.inl rfl) (Nat.zero_le _) (Nat.zero_le _) (by show PQ o L c1 c2 j ly m1 m2 f1 f2 fc fq w _ _ ((pOne L ly op fs fo fe) j); rw [pOne_d ⟨by omega, by omega⟩]; exact ⟨rfl, hF274, hj, _, _, hR274⟩)
      · skip
        refine M.run 2 (pc' := 45) (lv' := [some (vr o), some (vi ((op : Nat) : Int)), some (vi ((gTk L j).1)), some (vi ((gTk L j).2.1)), none]) (st' := [vi 9, vi ((gTk L j).1)]) rfl ?_
        refine M.icmp_eq (tgt := 54) rfl (qI (by omega)) (qI (by decide)) (by decide) (fun h45 => ?_) (fun h45 => ?_)
        · skip
          refine M.run 4 (pc' := 63) (lv' := [some (vr o), some (vi ((op : Nat) : Int)), some (vi ((gTk L j).1)), some (vi ((gTk L j).2.1)), some (vi 1)]) (st' := [vi 1]) rfl ?_
          refine M.if_eq (tgt := 78) rfl (qI (by decide)) (by decide) (fun q => absurd q (by decide)) (fun _ => ?_)
          refine M.run 2 (pc' := 69) (lv' := [some (vr o), some (vi ((op : Nat) : Int)), some (vi ((gTk L j).1)), some (vi ((gTk L j).2.1)), some (vi 1)]) (st' := [vi 8, vi ((op : Nat) : Int)]) rfl ?_
          refine M.icmp_lt (tgt := 78) rfl (qI (by omega)) (qI (by decide)) (by decide) (fun h69 => ?_) (fun h69 => ?_)
          · skip
            refine M.run 2 (pc' := 81) (lv' := [some (vr o), some (vi ((op : Nat) : Int)), some (vi ((gTk L j).1)), some (vi ((gTk L j).2.1)), some (vi 1)]) (st' := [vi 17, vi ((gTk L j).1)]) rfl ?_
            refine M.icmp_lt (tgt := 96) rfl (qI (by omega)) (qI (by decide)) (by decide) (fun h81 => ?_) (fun h81 => ?_)
            · skip
              refine M.run 1 (pc' := 97) (lv' := [some (vr o), some (vi ((op : Nat) : Int)), some (vi ((gTk L j).1)), some (vi ((gTk L j).2.1)), some (vi 1)]) (st' := [vi ((gTk L j).1)]) rfl ?_
              by_cases hs97_0 : (gTk L j).1 = 8
              · refine M.lsw (tgt := 258) (off := 161) rfl (qI (by omega)) (by decide) (by rw [hs97_0]; rfl) (by decide) ?_
                have hk300 := hx51 j (by omega)
                refine M.run 2 (pc' := 260) (lv' := [some (vr o), some (vi ((op : Nat) : Int)), some (vi ((gTk L j).1)), some (vi ((gTk L j).2.1)), some (vi 1)]) (st' := [vr o, vr o]) rfl ?_
                refine M.get fl_X3_38 rfl hP.1 (kf := 5) (v := vi ((j : Nat) : Int)) rfl ?_
                refine M.run 2 (pc' := 265) (lv' := [some (vr o), some (vi ((op : Nat) : Int)), some (vi ((gTk L j).1)), some (vi ((gTk L j).2.1)), some (vi 1)]) (st' := [vi (((j : Nat) : Int) + 1), vr o]) rfl ?_
                rw [show ((j : Nat) : Int) + 1 = ((j + 1 : Nat) : Int) from by omega]
                refine M.put fl_X3_38 rfl (hP.1) rfl rfl (Nat.le_of_ble_eq_true rfl) ?_
                change g 0 0 (up w o (Ob 2 [vr (o + 1), vr (o + 5), vr (o + 6), vi ((c1 : Nat) : Int), vi ((c2 : Nat) : Int), vi ((j + 1 : Nat) : Int), vi ly, vr m1, vr m2, vi f1, vi f2])) 268 [some (vr o), some (vi ((op : Nat) : Int)), some (vi ((gTk L j).1)), some (vi ((gTk L j).2.1)), some (vi 1)] []
                have hR279 : isRe o L c1 c2 (j + 1) ly m1 m2 f1 f2 fc fq (up w o (Ob 2 [vr (o + 1), vr (o + 5), vr (o + 6), vi ((c1 : Nat) : Int), vi ((c2 : Nat) : Int), vi ((j + 1 : Nat) : Int), vi ly, vr m1, vr m2, vi f1, vi f2])) := isRe_1 hP
                have hF279 : FrR o w (up w o (Ob 2 [vr (o + 1), vr (o + 5), vr (o + 6), vi ((c1 : Nat) : Int), vi ((c2 : Nat) : Int), vi ((j + 1 : Nat) : Int), vi ly, vr m1, vr m2, vi f1, vi f2])) := FrR.u FrR.rf o (by omega)
                generalize up w o (Ob 2 [vr (o + 1), vr (o + 5), vr (o + 6), vi ((c1 : Nat) : Int), vi ((c2 : Nat) : Int), vi ((j + 1 : Nat) : Int), vi ly, vr m1, vr m2, vi f1, vi f2]) = w279 at hR279 hF279 ⊢
                refine M.run 4 (pc' := 272) (lv' := [some (vr o), some (vi ((op : Nat) : Int)), some (vi ((gTk L j).1)), some (vi ((gTk L j).2.1)), some (vi 1)]) (st' := [vi (((op : Nat) : Int) + 1), vr o]) rfl ?_
                rw [show ((op : Nat) : Int) + 1 = ((op + 1 : Nat) : Int) from (by omega)]
                refine M.callV (ho (by omega) c1 c2 (j + 1) m1 m2 f1 f2 fc fq (by omega) (by omega)) cv_X3_118 cd_X3_one rfl (st := []) rfl (hR279.1) (by omega) (by decide) rfl (Nat.zero_le _) (Nat.zero_le _) hR279 (fun r280 w280 q280 => ?_)
                rcases hR1 : fo (j + 1) with ⟨e1, k1⟩ | ⟨s1, k1⟩
                · skip
                  rw [hR1] at q280
                  obtain ⟨hr1, hg1, ⟨hz1, hy1⟩, hK1, gc1, hS1, hC1, hU1⟩ := q280
                  rw [hr1]
                  have hG1 := FrR.tr hF279 hg1
                  refine M.if_eq (tgt := 291) rfl (qI (by decide)) (by decide) (fun q => absurd q (by decide)) (fun _ => ?_)
                  refine M.run 3 (pc' := 281) (lv' := [some (vr o), some (vi ((op : Nat) : Int)), some (vi ((gTk L j).1)), some (vi ((gTk L j).2.1)), some (vi 1)]) (st' := [vi 0, vi ((gTk L j).1), vr o]) rfl ?_
                  refine M.callV (kX3_emit l G o L (c1 + 2 * szE e1) c2 k1 ly m1 m2 f1 f2 gc1 fq (by omega) ((gTk L j).1) 0 (by omega) (by omega)) cv_X3_114 cd_X3_emit rfl (st := []) rfl hS1.1 (by omega) (by decide) rfl (Nat.zero_le _) (Nat.zero_le _) hS1 (fun r282 w283 q284 => ?_)
                  obtain ⟨q284r, hR281, q284f⟩ := q284
                  rw [q284r]
                  have hF281 : FrR o w w283 := FrR.tr hG1 q284f
                  refine M.if_eq (tgt := 291) rfl (qI (by decide)) (by decide) (fun q => absurd q (by decide)) (fun _ => ?_)
                  refine M.run 2 (pc' := 292) (lv' := [some (vr o), some (vi ((op : Nat) : Int)), some (vi ((gTk L j).1)), some (vi ((gTk L j).2.1)), some (vi 1)]) (st' := [vi 1]) rfl ?_
                  exact M.zret rfl (Or.inr rfl) (Nat.zero_le _) (Nat.zero_le _) (by show PQ o L c1 c2 j ly m1 m2 f1 f2 fc fq w _ _ ((pOne L ly op fs fo fe) j); rw [pOne_u (by omega) (by omega) hR1]; exact ⟨rfl, hF281, ⟨(by show szE e1 + 1 + j ≤ k1; omega), hy1⟩, okE_un hK1, _, (by have hq9 := hR281; rw [show c1 + 2 * szE e1 + 2 = c1 + 2 * szE (unE (gTk L j).1 e1) from by show _ = c1 + 2 * (szE e1 + 1); omega] at hq9; exact hq9), un_at hK1 hC1, fun i hi => by rw [uN_o (by omega), uN_o (by omega)]; exact hU1 i hi⟩)
                · skip
                  rw [hR1] at q280
                  obtain ⟨hr1, hg1, hy1, dd1, gc1, hS1⟩ := q280
                  rw [hr1]
                  have hG1 := FrR.tr hF279 hg1
                  refine M.if_eq (tgt := 291) rfl (qI (by decide)) (by decide) (fun _ => ?_) (fun q => absurd q (by decide))
                  refine M.run 1 (pc' := 292) (lv' := [some (vr o), some (vi ((op : Nat) : Int)), some (vi ((gTk L j).1)), some (vi ((gTk L j).2.1)), some (vi 1)]) (st' := [vi 0]) rfl ?_
                  exact M.zret rfl (Or.inl rfl) (Nat.zero_le _) (Nat.zero_le _) (by show PQ o L c1 c2 j ly m1 m2 f1 f2 fc fq w _ _ ((pOne L ly op fs fo fe) j); rw [pOne_v (by omega) (by omega) hR1]; exact ⟨rfl, hG1, hy1, _, _, hS1⟩)
              by_cases hs97_1 : (gTk L j).1 = 9
              · refine M.lsw (tgt := 258) (off := 161) rfl (qI (by omega)) (by decide) (by rw [hs97_1]; rfl) (by decide) ?_
                have hk300 := hx51 j (by omega)
                refine M.run 2 (pc' := 260) (lv' := [some (vr o), some (vi ((op : Nat) : Int)), some (vi ((gTk L j).1)), some (vi ((gTk L j).2.1)), some (vi 1)]) (st' := [vr o, vr o]) rfl ?_
                refine M.get fl_X3_38 rfl hP.1 (kf := 5) (v := vi ((j : Nat) : Int)) rfl ?_
                refine M.run 2 (pc' := 265) (lv' := [some (vr o), some (vi ((op : Nat) : Int)), some (vi ((gTk L j).1)), some (vi ((gTk L j).2.1)), some (vi 1)]) (st' := [vi (((j : Nat) : Int) + 1), vr o]) rfl ?_
                rw [show ((j : Nat) : Int) + 1 = ((j + 1 : Nat) : Int) from by omega]
                refine M.put fl_X3_38 rfl (hP.1) rfl rfl (Nat.le_of_ble_eq_true rfl) ?_
                change g 0 0 (up w o (Ob 2 [vr (o + 1), vr (o + 5), vr (o + 6), vi ((c1 : Nat) : Int), vi ((c2 : Nat) : Int), vi ((j + 1 : Nat) : Int), vi ly, vr m1, vr m2, vi f1, vi f2])) 268 [some (vr o), some (vi ((op : Nat) : Int)), some (vi ((gTk L j).1)), some (vi ((gTk L j).2.1)), some (vi 1)] []
                have hR286 : isRe o L c1 c2 (j + 1) ly m1 m2 f1 f2 fc fq (up w o (Ob 2 [vr (o + 1), vr (o + 5), vr (o + 6), vi ((c1 : Nat) : Int), vi ((c2 : Nat) : Int), vi ((j + 1 : Nat) : Int), vi ly, vr m1, vr m2, vi f1, vi f2])) := isRe_1 hP
                have hF286 : FrR o w (up w o (Ob 2 [vr (o + 1), vr (o + 5), vr (o + 6), vi ((c1 : Nat) : Int), vi ((c2 : Nat) : Int), vi ((j + 1 : Nat) : Int), vi ly, vr m1, vr m2, vi f1, vi f2])) := FrR.u FrR.rf o (by omega)
                generalize up w o (Ob 2 [vr (o + 1), vr (o + 5), vr (o + 6), vi ((c1 : Nat) : Int), vi ((c2 : Nat) : Int), vi ((j + 1 : Nat) : Int), vi ly, vr m1, vr m2, vi f1, vi f2]) = w286 at hR286 hF286 ⊢
                refine M.run 4 (pc' := 272) (lv' := [some (vr o), some (vi ((op : Nat) : Int)), some (vi ((gTk L j).1)), some (vi ((gTk L j).2.1)), some (vi 1)]) (st' := [vi (((op : Nat) : Int) + 1), vr o]) rfl ?_
                rw [show ((op : Nat) : Int) + 1 = ((op + 1 : Nat) : Int) from (by omega)]
                refine M.callV (ho (by omega) c1 c2 (j + 1) m1 m2 f1 f2 fc fq (by omega) (by omega)) cv_X3_118 cd_X3_one rfl (st := []) rfl (hR286.1) (by omega) (by decide) rfl (Nat.zero_le _) (Nat.zero_le _) hR286 (fun r287 w287 q287 => ?_)
                rcases hR1 : fo (j + 1) with ⟨e1, k1⟩ | ⟨s1, k1⟩
                · skip
                  rw [hR1] at q287
                  obtain ⟨hr1, hg1, ⟨hz1, hy1⟩, hK1, gc1, hS1, hC1, hU1⟩ := q287
                  rw [hr1]
                  have hG1 := FrR.tr hF286 hg1
                  refine M.if_eq (tgt := 291) rfl (qI (by decide)) (by decide) (fun q => absurd q (by decide)) (fun _ => ?_)
                  refine M.run 3 (pc' := 281) (lv' := [some (vr o), some (vi ((op : Nat) : Int)), some (vi ((gTk L j).1)), some (vi ((gTk L j).2.1)), some (vi 1)]) (st' := [vi 0, vi ((gTk L j).1), vr o]) rfl ?_
                  refine M.callV (kX3_emit l G o L (c1 + 2 * szE e1) c2 k1 ly m1 m2 f1 f2 gc1 fq (by omega) ((gTk L j).1) 0 (by omega) (by omega)) cv_X3_114 cd_X3_emit rfl (st := []) rfl hS1.1 (by omega) (by decide) rfl (Nat.zero_le _) (Nat.zero_le _) hS1 (fun r289 w290 q291 => ?_)
                  obtain ⟨q291r, hR288, q291f⟩ := q291
                  rw [q291r]
                  have hF288 : FrR o w w290 := FrR.tr hG1 q291f
                  refine M.if_eq (tgt := 291) rfl (qI (by decide)) (by decide) (fun q => absurd q (by decide)) (fun _ => ?_)
                  refine M.run 2 (pc' := 292) (lv' := [some (vr o), some (vi ((op : Nat) : Int)), some (vi ((gTk L j).1)), some (vi ((gTk L j).2.1)), some (vi 1)]) (st' := [vi 1]) rfl ?_
                  exact M.zret rfl (Or.inr rfl) (Nat.zero_le _) (Nat.zero_le _) (by show PQ o L c1 c2 j ly m1 m2 f1 f2 fc fq w _ _ ((pOne L ly op fs fo fe) j); rw [pOne_u (by omega) (by omega) hR1]; exact ⟨rfl, hF288, ⟨(by show szE e1 + 1 + j ≤ k1; omega), hy1⟩, okE_un hK1, _, (by have hq9 := hR288; rw [show c1 + 2 * szE e1 + 2 = c1 + 2 * szE (unE (gTk L j).1 e1) from by show _ = c1 + 2 * (szE e1 + 1); omega] at hq9; exact hq9), un_at hK1 hC1, fun i hi => by rw [uN_o (by omega), uN_o (by omega)]; exact hU1 i hi⟩)
                · skip
                  rw [hR1] at q287
                  obtain ⟨hr1, hg1, hy1, dd1, gc1, hS1⟩ := q287
                  rw [hr1]
                  have hG1 := FrR.tr hF286 hg1
                  refine M.if_eq (tgt := 291) rfl (qI (by decide)) (by decide) (fun _ => ?_) (fun q => absurd q (by decide))
                  refine M.run 1 (pc' := 292) (lv' := [some (vr o), some (vi ((op : Nat) : Int)), some (vi ((gTk L j).1)), some (vi ((gTk L j).2.1)), some (vi 1)]) (st' := [vi 0]) rfl ?_
                  exact M.zret rfl (Or.inl rfl) (Nat.zero_le _) (Nat.zero_le _) (by show PQ o L c1 c2 j ly m1 m2 f1 f2 fc fq w _ _ ((pOne L ly op fs fo fe) j); rw [pOne_v (by omega) (by omega) hR1]; exact ⟨rfl, hG1, hy1, _, _, hS1⟩)
              by_cases hs97_2 : (gTk L j).1 = 10
              · refine M.lsw (tgt := 293) (off := 196) rfl (qI (by omega)) (by decide) (by rw [hs97_2]; rfl) (by decide) ?_
                have hk300 := hx51 j (by omega)
                refine M.run 2 (pc' := 295) (lv' := [some (vr o), some (vi ((op : Nat) : Int)), some (vi ((gTk L j).1)), some (vi ((gTk L j).2.1)), some (vi 1)]) (st' := [vr o, vr o]) rfl ?_
                refine M.get fl_X3_38 rfl hP.1 (kf := 5) (v := vi ((j : Nat) : Int)) rfl ?_
                refine M.run 2 (pc' := 300) (lv' := [some (vr o), some (vi ((op : Nat) : Int)), some (vi ((gTk L j).1)), some (vi ((gTk L j).2.1)), some (vi 1)]) (st' := [vi (((j : Nat) : Int) + 1), vr o]) rfl ?_
                rw [show ((j : Nat) : Int) + 1 = ((j + 1 : Nat) : Int) from by omega]
                refine M.put fl_X3_38 rfl (hP.1) rfl rfl (Nat.le_of_ble_eq_true rfl) ?_
                change g 0 0 (up w o (Ob 2 [vr (o + 1), vr (o + 5), vr (o + 6), vi ((c1 : Nat) : Int), vi ((c2 : Nat) : Int), vi ((j + 1 : Nat) : Int), vi ly, vr m1, vr m2, vi f1, vi f2])) 303 [some (vr o), some (vi ((op : Nat) : Int)), some (vi ((gTk L j).1)), some (vi ((gTk L j).2.1)), some (vi 1)] []
                have hR293 : isRe o L c1 c2 (j + 1) ly m1 m2 f1 f2 fc fq (up w o (Ob 2 [vr (o + 1), vr (o + 5), vr (o + 6), vi ((c1 : Nat) : Int), vi ((c2 : Nat) : Int), vi ((j + 1 : Nat) : Int), vi ly, vr m1, vr m2, vi f1, vi f2])) := isRe_1 hP
                have hF293 : FrR o w (up w o (Ob 2 [vr (o + 1), vr (o + 5), vr (o + 6), vi ((c1 : Nat) : Int), vi ((c2 : Nat) : Int), vi ((j + 1 : Nat) : Int), vi ly, vr m1, vr m2, vi f1, vi f2])) := FrR.u FrR.rf o (by omega)
                generalize up w o (Ob 2 [vr (o + 1), vr (o + 5), vr (o + 6), vi ((c1 : Nat) : Int), vi ((c2 : Nat) : Int), vi ((j + 1 : Nat) : Int), vi ly, vr m1, vr m2, vi f1, vi f2]) = w293 at hR293 hF293 ⊢
                refine M.run 4 (pc' := 307) (lv' := [some (vr o), some (vi ((op : Nat) : Int)), some (vi ((gTk L j).1)), some (vi ((gTk L j).2.1)), some (vi 1)]) (st' := [vi (((op : Nat) : Int) + 1), vr o]) rfl ?_
                rw [show ((op : Nat) : Int) + 1 = ((op + 1 : Nat) : Int) from (by omega)]
                refine M.callV (he (by omega) c1 c2 (j + 1) m1 m2 f1 f2 fc fq (by omega) (by omega)) cv_X3_124 cd_X3_choice rfl (st := []) rfl (hR293.1) (by omega) (by decide) rfl (Nat.zero_le _) (Nat.zero_le _) hR293 (fun r294 w294 q294 => ?_)
                rcases hR1 : fe (j + 1) with ⟨e1, k1⟩ | ⟨s1, k1⟩
                · skip
                  rw [hR1] at q294
                  obtain ⟨hr1, hg1, ⟨hz1, hy1⟩, hK1, gc1, hS1, hC1, hU1⟩ := q294
                  rw [hr1]
                  have hG1 := FrR.tr hF293 hg1
                  exact M.zret rfl (Or.inr rfl) (Nat.zero_le _) (Nat.zero_le _) (by show PQ o L c1 c2 j ly m1 m2 f1 f2 fc fq w _ _ ((pOne L ly op fs fo fe) j); rw [pOne_i (by omega) (by omega), hR1]; exact ⟨rfl, hG1, ⟨by omega, hy1⟩, hK1, _, hS1, hC1, hU1⟩)
                · skip
                  rw [hR1] at q294
                  obtain ⟨hr1, hg1, hy1, dd1, gc1, hS1⟩ := q294
                  rw [hr1]
                  have hG1 := FrR.tr hF293 hg1
                  exact M.zret rfl (Or.inl rfl) (Nat.zero_le _) (Nat.zero_le _) (by show PQ o L c1 c2 j ly m1 m2 f1 f2 fc fq w _ _ ((pOne L ly op fs fo fe) j); rw [pOne_i (by omega) (by omega), hR1]; exact ⟨rfl, hG1, hy1, _, _, hS1⟩)
              by_cases hs97_3 : (gTk L j).1 = 35
              · refine M.lsw (tgt := 222) (off := 125) rfl (qI (by omega)) (by decide) (by rw [hs97_3]; rfl) (by decide) ?_
                have hk300 := hx51 j (by omega)
                refine M.run 2 (pc' := 224) (lv' := [some (vr o), some (vi ((op : Nat) : Int)), some (vi ((gTk L j).1)), some (vi ((gTk L j).2.1)), some (vi 1)]) (st' := [vr o, vr o]) rfl ?_
                refine M.get fl_X3_38 rfl hP.1 (kf := 5) (v := vi ((j : Nat) : Int)) rfl ?_
                refine M.run 2 (pc' := 229) (lv' := [some (vr o), some (vi ((op : Nat) : Int)), some (vi ((gTk L j).1)), some (vi ((gTk L j).2.1)), some (vi 1)]) (st' := [vi (((j : Nat) : Int) + 1), vr o]) rfl ?_
                rw [show ((j : Nat) : Int) + 1 = ((j + 1 : Nat) : Int) from by omega]
                refine M.put fl_X3_38 rfl (hP.1) rfl rfl (Nat.le_of_ble_eq_true rfl) ?_
                change g 0 0 (up w o (Ob 2 [vr (o + 1), vr (o + 5), vr (o + 6), vi ((c1 : Nat) : Int), vi ((c2 : Nat) : Int), vi ((j + 1 : Nat) : Int), vi ly, vr m1, vr m2, vi f1, vi f2])) 232 [some (vr o), some (vi ((op : Nat) : Int)), some (vi ((gTk L j).1)), some (vi ((gTk L j).2.1)), some (vi 1)] []
                have hR295 : isRe o L c1 c2 (j + 1) ly m1 m2 f1 f2 fc fq (up w o (Ob 2 [vr (o + 1), vr (o + 5), vr (o + 6), vi ((c1 : Nat) : Int), vi ((c2 : Nat) : Int), vi ((j + 1 : Nat) : Int), vi ly, vr m1, vr m2, vi f1, vi f2])) := isRe_1 hP
                have hF295 : FrR o w (up w o (Ob 2 [vr (o + 1), vr (o + 5), vr (o + 6), vi ((c1 : Nat) : Int), vi ((c2 : Nat) : Int), vi ((j + 1 : Nat) : Int), vi ly, vr m1, vr m2, vi f1, vi f2])) := FrR.u FrR.rf o (by omega)
                generalize up w o (Ob 2 [vr (o + 1), vr (o + 5), vr (o + 6), vi ((c1 : Nat) : Int), vi ((c2 : Nat) : Int), vi ((j + 1 : Nat) : Int), vi ly, vr m1, vr m2, vi f1, vi f2]) = w295 at hR295 hF295 ⊢
                refine M.run 4 (pc' := 236) (lv' := [some (vr o), some (vi ((op : Nat) : Int)), some (vi ((gTk L j).1)), some (vi ((gTk L j).2.1)), some (vi 1)]) (st' := [vi (((op : Nat) : Int) + 1), vr o]) rfl ?_
                rw [show ((op : Nat) : Int) + 1 = ((op + 1 : Nat) : Int) from (by omega)]
                refine M.callV (ho (by omega) c1 c2 (j + 1) m1 m2 f1 f2 fc fq (by omega) (by omega)) cv_X3_118 cd_X3_one rfl (st := []) rfl (hR295.1) (by omega) (by decide) rfl (Nat.zero_le _) (Nat.zero_le _) hR295 (fun r296 w296 q296 => ?_)
                rcases hR1 : fo (j + 1) with ⟨e1, k1⟩ | ⟨s1, k1⟩
                · skip
                  rw [hR1] at q296
                  obtain ⟨hr1, hg1, ⟨hz1, hy1⟩, hK1, gc1, hS1, hC1, hU1⟩ := q296
                  rw [hr1]
                  have hG1 := FrR.tr hF295 hg1
                  refine M.if_eq (tgt := 256) rfl (qI (by decide)) (by decide) (fun q => absurd q (by decide)) (fun _ => ?_)
                  refine M.run 3 (pc' := 246) (lv' := [some (vr o), some (vi ((op : Nat) : Int)), some (vi ((gTk L j).1)), some (vi ((gTk L j).2.1)), some (vi 1)]) (st' := [vi 0, vi 60, vr o]) rfl ?_
                  refine M.callV (kX3_emit l G o L (c1 + 2 * szE e1) c2 k1 ly m1 m2 f1 f2 gc1 fq (by omega) 60 0 (by omega) (by omega)) cv_X3_114 cd_X3_emit rfl (st := []) rfl hS1.1 (by omega) (by decide) rfl (Nat.zero_le _) (Nat.zero_le _) hS1 (fun r298 w299 q300 => ?_)
                  obtain ⟨q300r, hR297, q300f⟩ := q300
                  rw [q300r]
                  have hF297 : FrR o w w299 := FrR.tr hG1 q300f
                  refine M.if_eq (tgt := 256) rfl (qI (by decide)) (by decide) (fun q => absurd q (by decide)) (fun _ => ?_)
                  refine M.run 2 (pc' := 257) (lv' := [some (vr o), some (vi ((op : Nat) : Int)), some (vi ((gTk L j).1)), some (vi ((gTk L j).2.1)), some (vi 1)]) (st' := [vi 1]) rfl ?_
                  exact M.zret rfl (Or.inr rfl) (Nat.zero_le _) (Nat.zero_le _) (by show PQ o L c1 c2 j ly m1 m2 f1 f2 fc fq w _ _ ((pOne L ly op fs fo fe) j); rw [pOne_m (by omega) (by omega) hR1]; exact ⟨rfl, hF297, ⟨(by show szE e1 + 1 + j ≤ k1; omega), hy1⟩, okE_un hK1, _, (by have hq9 := hR297; rw [show c1 + 2 * szE e1 + 2 = c1 + 2 * szE (unE 60 e1) from by show _ = c1 + 2 * (szE e1 + 1); omega] at hq9; exact hq9), un_at hK1 hC1, fun i hi => by rw [uN_o (by omega), uN_o (by omega)]; exact hU1 i hi⟩)
                · skip
                  rw [hR1] at q296
                  obtain ⟨hr1, hg1, hy1, dd1, gc1, hS1⟩ := q296
                  rw [hr1]
                  have hG1 := FrR.tr hF295 hg1
                  refine M.if_eq (tgt := 256) rfl (qI (by decide)) (by decide) (fun _ => ?_) (fun q => absurd q (by decide))
                  refine M.run 1 (pc' := 257) (lv' := [some (vr o), some (vi ((op : Nat) : Int)), some (vi ((gTk L j).1)), some (vi ((gTk L j).2.1)), some (vi 1)]) (st' := [vi 0]) rfl ?_
                  exact M.zret rfl (Or.inl rfl) (Nat.zero_le _) (Nat.zero_le _) (by show PQ o L c1 c2 j ly m1 m2 f1 f2 fc fq w _ _ ((pOne L ly op fs fo fe) j); rw [pOne_n (by omega) (by omega) hR1]; exact ⟨rfl, hG1, hy1, _, _, hS1⟩)
              by_cases hs97_4 : (gTk L j).1 = 38
              · refine M.lsw (tgt := 187) (off := 90) rfl (qI (by omega)) (by decide) (by rw [hs97_4]; rfl) (by decide) ?_
                have hk300 := hx51 j (by omega)
                refine M.run 2 (pc' := 189) (lv' := [some (vr o), some (vi ((op : Nat) : Int)), some (vi ((gTk L j).1)), some (vi ((gTk L j).2.1)), some (vi 1)]) (st' := [vr o, vr o]) rfl ?_
                refine M.get fl_X3_38 rfl hP.1 (kf := 5) (v := vi ((j : Nat) : Int)) rfl ?_
                refine M.run 2 (pc' := 194) (lv' := [some (vr o), some (vi ((op : Nat) : Int)), some (vi ((gTk L j).1)), some (vi ((gTk L j).2.1)), some (vi 1)]) (st' := [vi (((j : Nat) : Int) + 1), vr o]) rfl ?_
                rw [show ((j : Nat) : Int) + 1 = ((j + 1 : Nat) : Int) from by omega]
                refine M.put fl_X3_38 rfl (hP.1) rfl rfl (Nat.le_of_ble_eq_true rfl) ?_
                change g 0 0 (up w o (Ob 2 [vr (o + 1), vr (o + 5), vr (o + 6), vi ((c1 : Nat) : Int), vi ((c2 : Nat) : Int), vi ((j + 1 : Nat) : Int), vi ly, vr m1, vr m2, vi f1, vi f2])) 197 [some (vr o), some (vi ((op : Nat) : Int)), some (vi ((gTk L j).1)), some (vi ((gTk L j).2.1)), some (vi 1)] []
                have hR302 : isRe o L c1 c2 (j + 1) ly m1 m2 f1 f2 fc fq (up w o (Ob 2 [vr (o + 1), vr (o + 5), vr (o + 6), vi ((c1 : Nat) : Int), vi ((c2 : Nat) : Int), vi ((j + 1 : Nat) : Int), vi ly, vr m1, vr m2, vi f1, vi f2])) := isRe_1 hP
                have hF302 : FrR o w (up w o (Ob 2 [vr (o + 1), vr (o + 5), vr (o + 6), vi ((c1 : Nat) : Int), vi ((c2 : Nat) : Int), vi ((j + 1 : Nat) : Int), vi ly, vr m1, vr m2, vi f1, vi f2])) := FrR.u FrR.rf o (by omega)
                generalize up w o (Ob 2 [vr (o + 1), vr (o + 5), vr (o + 6), vi ((c1 : Nat) : Int), vi ((c2 : Nat) : Int), vi ((j + 1 : Nat) : Int), vi ly, vr m1, vr m2, vi f1, vi f2]) = w302 at hR302 hF302 ⊢
                refine M.run 4 (pc' := 201) (lv' := [some (vr o), some (vi ((op : Nat) : Int)), some (vi ((gTk L j).1)), some (vi ((gTk L j).2.1)), some (vi 1)]) (st' := [vi (((op : Nat) : Int) + 1), vr o]) rfl ?_
                rw [show ((op : Nat) : Int) + 1 = ((op + 1 : Nat) : Int) from (by omega)]
                refine M.callV (hs (by omega) c1 c2 (j + 1) m1 m2 f1 f2 fc fq (by omega) (by omega)) cv_X3_89 cd_X3_sum rfl (st := []) rfl (hR302.1) (by omega) (by decide) rfl (Nat.zero_le _) (Nat.zero_le _) hR302 (fun r303 w303 q303 => ?_)
                rcases hR1 : fs (j + 1) with ⟨e1, k1⟩ | ⟨s1, k1⟩
                · skip
                  rw [hR1] at q303
                  obtain ⟨hr1, hg1, ⟨hz1, hy1⟩, hK1, gc1, hS1, hC1, hU1⟩ := q303
                  rw [hr1]
                  have hG1 := FrR.tr hF302 hg1
                  refine M.if_eq (tgt := 220) rfl (qI (by decide)) (by decide) (fun q => absurd q (by decide)) (fun _ => ?_)
                  refine M.run 2 (pc' := 210) (lv' := [some (vr o), some (vi ((op : Nat) : Int)), some (vi ((gTk L j).1)), some (vi ((gTk L j).2.1)), some (vi 1)]) (st' := [vi 39, vr o]) rfl ?_
                  refine M.callV (kX3_take l G o L (c1 + 2 * szE e1) c2 k1 ly m1 m2 f1 f2 gc1 fq (by omega) hB 39 (by omega)) cv_X3_92 cd_X3_take rfl (st := []) rfl (hS1.1) (by omega) (by decide) rfl (Nat.zero_le _) (Nat.zero_le _) hS1 (fun r304 w304 q304 => ?_)
                  by_cases hT1 : (gTk L k1).1 = 39
                  · skip
                    rw [if_pos hT1] at q304
                    obtain ⟨hr1_, hS1_, hg1_⟩ := q304
                    rw [hr1_]
                    have hG1_ := FrR.tr hG1 hg1_
                    have hk301 := hx51 k1 (by omega)
                    refine M.if_eq (tgt := 220) rfl (qI (by decide)) (by decide) (fun q => absurd q (by decide)) (fun _ => ?_)
                    refine M.run 2 (pc' := 221) (lv' := [some (vr o), some (vi ((op : Nat) : Int)), some (vi ((gTk L j).1)), some (vi ((gTk L j).2.1)), some (vi 1)]) (st' := [vi 1]) rfl ?_
                    exact M.zret rfl (Or.inr rfl) (Nat.zero_le _) (Nat.zero_le _) (by show PQ o L c1 c2 j ly m1 m2 f1 f2 fc fq w _ _ ((pOne L ly op fs fo fe) j); rw [pOne_b (by omega) (by omega) hR1 hT1]; exact ⟨rfl, hG1_, ⟨by omega, by omega⟩, hK1, _, hS1_, hC1, hU1⟩)
                  · skip
                    rw [if_neg hT1] at q304
                    obtain ⟨hr1_, hS1_, hg1_⟩ := q304
                    rw [hr1_]
                    have hG1_ := FrR.tr hG1 hg1_
                    refine M.if_eq (tgt := 220) rfl (qI (by decide)) (by decide) (fun _ => ?_) (fun q => absurd q (by decide))
                    refine M.run 1 (pc' := 221) (lv' := [some (vr o), some (vi ((op : Nat) : Int)), some (vi ((gTk L j).1)), some (vi ((gTk L j).2.1)), some (vi 1)]) (st' := [vi 0]) rfl ?_
                    exact M.zret rfl (Or.inl rfl) (Nat.zero_le _) (Nat.zero_le _) (by show PQ o L c1 c2 j ly m1 m2 f1 f2 fc fq w _ _ ((pOne L ly op fs fo fe) j); rw [pOne_c (by omega) (by omega) hR1 hT1]; exact ⟨rfl, hG1_, hy1, _, _, hS1_⟩)
                · skip
                  rw [hR1] at q303
                  obtain ⟨hr1, hg1, hy1, dd1, gc1, hS1⟩ := q303
                  rw [hr1]
                  have hG1 := FrR.tr hF302 hg1
                  refine M.if_eq (tgt := 220) rfl (qI (by decide)) (by decide) (fun _ => ?_) (fun q => absurd q (by decide))
                  refine M.run 1 (pc' := 221) (lv' := [some (vr o), some (vi ((op : Nat) : Int)), some (vi ((gTk L j).1)), some (vi ((gTk L j).2.1)), some (vi 1)]) (st' := [vi 0]) rfl ?_
                  exact M.zret rfl (Or.inl rfl) (Nat.zero_le _) (Nat.zero_le _) (by show PQ o L c1 c2 j ly m1 m2 f1 f2 fc fq w _ _ ((pOne L ly op fs fo fe) j); rw [pOne_e (by omega) (by omega) hR1]; exact ⟨rfl, hG1, hy1, _, _, hS1⟩)
              by_cases hs97_5 : (gTk L j).1 = 50
              · refine M.lsw (tgt := 156) (off := 59) rfl (qI (by omega)) (by decide) (by rw [hs97_5]; rfl) (by decide) ?_
                refine M.run 2 (pc' := 160) (lv' := [some (vr o), some (vi ((op : Nat) : Int)), some (vi ((gTk L j).1)), some (vi ((gTk L j).2.1)), some (vi 1)]) (st' := [vi 9999, vi ((gTk L j).2.1)]) rfl ?_
                refine M.icmp_le (tgt := 169) rfl (qI (by omega)) (qI (by decide)) (by decide) (fun h160 => ?_) (fun h160 => ?_)
                · skip
                  have hk300 := hx51 j (by omega)
                  refine M.run 2 (pc' := 171) (lv' := [some (vr o), some (vi ((op : Nat) : Int)), some (vi ((gTk L j).1)), some (vi ((gTk L j).2.1)), some (vi 1)]) (st' := [vr o, vr o]) rfl ?_
                  refine M.get fl_X3_38 rfl hP.1 (kf := 5) (v := vi ((j : Nat) : Int)) rfl ?_
                  refine M.run 2 (pc' := 176) (lv' := [some (vr o), some (vi ((op : Nat) : Int)), some (vi ((gTk L j).1)), some (vi ((gTk L j).2.1)), some (vi 1)]) (st' := [vi (((j : Nat) : Int) + 1), vr o]) rfl ?_
                  rw [show ((j : Nat) : Int) + 1 = ((j + 1 : Nat) : Int) from by omega]
                  refine M.put fl_X3_38 rfl (hP.1) rfl rfl (Nat.le_of_ble_eq_true rfl) ?_
                  change g 0 0 (up w o (Ob 2 [vr (o + 1), vr (o + 5), vr (o + 6), vi ((c1 : Nat) : Int), vi ((c2 : Nat) : Int), vi ((j + 1 : Nat) : Int), vi ly, vr m1, vr m2, vi f1, vi f2])) 179 [some (vr o), some (vi ((op : Nat) : Int)), some (vi ((gTk L j).1)), some (vi ((gTk L j).2.1)), some (vi 1)] []
                  have hR305 : isRe o L c1 c2 (j + 1) ly m1 m2 f1 f2 fc fq (up w o (Ob 2 [vr (o + 1), vr (o + 5), vr (o + 6), vi ((c1 : Nat) : Int), vi ((c2 : Nat) : Int), vi ((j + 1 : Nat) : Int), vi ly, vr m1, vr m2, vi f1, vi f2])) := isRe_1 hP
                  have hF305 : FrR o w (up w o (Ob 2 [vr (o + 1), vr (o + 5), vr (o + 6), vi ((c1 : Nat) : Int), vi ((c2 : Nat) : Int), vi ((j + 1 : Nat) : Int), vi ly, vr m1, vr m2, vi f1, vi f2])) := FrR.u FrR.rf o (by omega)
                  generalize up w o (Ob 2 [vr (o + 1), vr (o + 5), vr (o + 6), vi ((c1 : Nat) : Int), vi ((c2 : Nat) : Int), vi ((j + 1 : Nat) : Int), vi ly, vr m1, vr m2, vi f1, vi f2]) = w305 at hR305 hF305 ⊢
                  refine M.run 3 (pc' := 183) (lv' := [some (vr o), some (vi ((op : Nat) : Int)), some (vi ((gTk L j).1)), some (vi ((gTk L j).2.1)), some (vi 1)]) (st' := [vi ((gTk L j).2.1), vi 50, vr o]) rfl ?_
                  refine M.callV (kX3_emit l G o L c1 c2 (j + 1) ly m1 m2 f1 f2 fc fq (by omega) 50 ((gTk L j).2.1) (by omega) (by omega)) cv_X3_114 cd_X3_emit rfl (st := []) rfl hR305.1 (by omega) (by decide) rfl (Nat.zero_le _) (Nat.zero_le _) hR305 (fun r307 w308 q309 => ?_)
                  obtain ⟨q309r, hR306, q309f⟩ := q309
                  rw [q309r]
                  have hF306 : FrR o w w308 := FrR.tr hF305 q309f
                  exact M.zret rfl (Or.inr rfl) (Nat.zero_le _) (Nat.zero_le _) (by show PQ o L c1 c2 j ly m1 m2 f1 f2 fc fq w _ _ ((pOne L ly op fs fo fe) j); rw [pOne_f (by omega) (by omega)]; exact ⟨rfl, hF306, ⟨(by show 1 + j ≤ j + 1; omega), by omega⟩, okE_lf, _, hR306, lf_at, fun i hi => by rw [uN_o (by omega), uN_o (by omega)]⟩)
                · skip
                  refine M.run 2 (pc' := 165) (lv' := [some (vr o), some (vi ((op : Nat) : Int)), some (vi ((gTk L j).1)), some (vi ((gTk L j).2.1)), some (vi 1)]) (st' := [vi 2, vr o]) rfl ?_
                  refine M.callV (kX3_refuse l G o L c1 c2 j ly m1 m2 f1 f2 fc fq (by omega) hB 2 (by omega)) cv_X3_73 cd_X3_refuse rfl (st := []) rfl hP.1 (by omega) (by decide) rfl (Nat.zero_le _) (Nat.zero_le _) hP (fun r312 w313 q314 => ?_)
                  obtain ⟨q314r, hR311, q314f⟩ := q314
                  rw [q314r]
                  have hF311 : FrR o w w313 := FrR.tr FrR.rf q314f
                  exact M.zret rfl (Or.inl rfl) (Nat.zero_le _) (Nat.zero_le _) (by show PQ o L c1 c2 j ly m1 m2 f1 f2 fc fq w _ _ ((pOne L ly op fs fo fe) j); rw [pOne_g (by omega) (by omega)]; exact ⟨rfl, hF311, hj, _, _, hR311⟩)
              refine M.lsw (tgt := 311) (off := 214) rfl (qI (by omega)) (by decide) (by rw [Op.lookupswitch.offset_cons, if_neg (fun q => hs97_0 q.symm), Op.lookupswitch.offset_cons, if_neg (fun q => hs97_1 q.symm), Op.lookupswitch.offset_cons, if_neg (fun q => hs97_2 q.symm), Op.lookupswitch.offset_cons, if_neg (fun q => hs97_3 q.symm), Op.lookupswitch.offset_cons, if_neg (fun q => hs97_4 q.symm), Op.lookupswitch.offset_cons, if_neg (fun q => hs97_5 q.symm)]; rfl) (by decide) ?_
              refine M.run 2 (pc' := 313) (lv' := [some (vr o), some (vi ((op : Nat) : Int)), some (vi ((gTk L j).1)), some (vi ((gTk L j).2.1)), some (vi 1)]) (st' := [vi 1, vr o]) rfl ?_
              refine M.callV (kX3_refuse l G o L c1 c2 j ly m1 m2 f1 f2 fc fq (by omega) hB 1 (by omega)) cv_X3_73 cd_X3_refuse rfl (st := []) rfl hP.1 (by omega) (by decide) rfl (Nat.zero_le _) (Nat.zero_le _) hP (fun r317 w318 q319 => ?_)
              obtain ⟨q319r, hR316, q319f⟩ := q319
              rw [q319r]
              have hF316 : FrR o w w318 := FrR.tr FrR.rf q319f
              exact M.zret rfl (Or.inl rfl) (Nat.zero_le _) (Nat.zero_le _) (by show PQ o L c1 c2 j ly m1 m2 f1 f2 fc fq w _ _ ((pOne L ly op fs fo fe) j); rw [pOne_o (by omega) (by omega) (by omega)]; exact ⟨rfl, hF316, hj, _, _, hR316⟩)
            · skip
              refine M.run 2 (pc' := 87) (lv' := [some (vr o), some (vi ((op : Nat) : Int)), some (vi ((gTk L j).1)), some (vi ((gTk L j).2.1)), some (vi 1)]) (st' := [vi 23, vi ((gTk L j).1)]) rfl ?_
              refine M.icmp_gt (tgt := 96) rfl (qI (by omega)) (qI (by decide)) (by decide) (fun h87 => ?_) (fun h87 => ?_)
              · skip
                refine M.run 1 (pc' := 97) (lv' := [some (vr o), some (vi ((op : Nat) : Int)), some (vi ((gTk L j).1)), some (vi ((gTk L j).2.1)), some (vi 1)]) (st' := [vi ((gTk L j).1)]) rfl ?_
                by_cases hs97_0 : (gTk L j).1 = 8
                · refine M.lsw (tgt := 258) (off := 161) rfl (qI (by omega)) (by decide) (by rw [hs97_0]; rfl) (by decide) ?_
                  have hk300 := hx51 j (by omega)
                  refine M.run 2 (pc' := 260) (lv' := [some (vr o), some (vi ((op : Nat) : Int)), some (vi ((gTk L j).1)), some (vi ((gTk L j).2.1)), some (vi 1)]) (st' := [vr o, vr o]) rfl ?_
                  refine M.get fl_X3_38 rfl hP.1 (kf := 5) (v := vi ((j : Nat) : Int)) rfl ?_
                  refine M.run 2 (pc' := 265) (lv' := [some (vr o), some (vi ((op : Nat) : Int)), some (vi ((gTk L j).1)), some (vi ((gTk L j).2.1)), some (vi 1)]) (st' := [vi (((j : Nat) : Int) + 1), vr o]) rfl ?_
                  rw [show ((j : Nat) : Int) + 1 = ((j + 1 : Nat) : Int) from by omega]
                  refine M.put fl_X3_38 rfl (hP.1) rfl rfl (Nat.le_of_ble_eq_true rfl) ?_
                  change g 0 0 (up w o (Ob 2 [vr (o + 1), vr (o + 5), vr (o + 6), vi ((c1 : Nat) : Int), vi ((c2 : Nat) : Int), vi ((j + 1 : Nat) : Int), vi ly, vr m1, vr m2, vi f1, vi f2])) 268 [some (vr o), some (vi ((op : Nat) : Int)), some (vi ((gTk L j).1)), some (vi ((gTk L j).2.1)), some (vi 1)] []
                  have hR321 : isRe o L c1 c2 (j + 1) ly m1 m2 f1 f2 fc fq (up w o (Ob 2 [vr (o + 1), vr (o + 5), vr (o + 6), vi ((c1 : Nat) : Int), vi ((c2 : Nat) : Int), vi ((j + 1 : Nat) : Int), vi ly, vr m1, vr m2, vi f1, vi f2])) := isRe_1 hP
                  have hF321 : FrR o w (up w o (Ob 2 [vr (o + 1), vr (o + 5), vr (o + 6), vi ((c1 : Nat) : Int), vi ((c2 : Nat) : Int), vi ((j + 1 : Nat) : Int), vi ly, vr m1, vr m2, vi f1, vi f2])) := FrR.u FrR.rf o (by omega)
                  generalize up w o (Ob 2 [vr (o + 1), vr (o + 5), vr (o + 6), vi ((c1 : Nat) : Int), vi ((c2 : Nat) : Int), vi ((j + 1 : Nat) : Int), vi ly, vr m1, vr m2, vi f1, vi f2]) = w321 at hR321 hF321 ⊢
                  refine M.run 4 (pc' := 272) (lv' := [some (vr o), some (vi ((op : Nat) : Int)), some (vi ((gTk L j).1)), some (vi ((gTk L j).2.1)), some (vi 1)]) (st' := [vi (((op : Nat) : Int) + 1), vr o]) rfl ?_
                  rw [show ((op : Nat) : Int) + 1 = ((op + 1 : Nat) : Int) from (by omega)]
                  refine M.callV (ho (by omega) c1 c2 (j + 1) m1 m2 f1 f2 fc fq (by omega) (by omega)) cv_X3_118 cd_X3_one rfl (st := []) rfl (hR321.1) (by omega) (by decide) rfl (Nat.zero_le _) (Nat.zero_le _) hR321 (fun r322 w322 q322 => ?_)
                  rcases hR1 : fo (j + 1) with ⟨e1, k1⟩ | ⟨s1, k1⟩
                  · skip
                    rw [hR1] at q322
                    obtain ⟨hr1, hg1, ⟨hz1, hy1⟩, hK1, gc1, hS1, hC1, hU1⟩ := q322
                    rw [hr1]
                    have hG1 := FrR.tr hF321 hg1
                    refine M.if_eq (tgt := 291) rfl (qI (by decide)) (by decide) (fun q => absurd q (by decide)) (fun _ => ?_)
                    refine M.run 3 (pc' := 281) (lv' := [some (vr o), some (vi ((op : Nat) : Int)), some (vi ((gTk L j).1)), some (vi ((gTk L j).2.1)), some (vi 1)]) (st' := [vi 0, vi ((gTk L j).1), vr o]) rfl ?_
                    refine M.callV (kX3_emit l G o L (c1 + 2 * szE e1) c2 k1 ly m1 m2 f1 f2 gc1 fq (by omega) ((gTk L j).1) 0 (by omega) (by omega)) cv_X3_114 cd_X3_emit rfl (st := []) rfl hS1.1 (by omega) (by decide) rfl (Nat.zero_le _) (Nat.zero_le _) hS1 (fun r324 w325 q326 => ?_)
                    obtain ⟨q326r, hR323, q326f⟩ := q326
                    rw [q326r]
                    have hF323 : FrR o w w325 := FrR.tr hG1 q326f
                    refine M.if_eq (tgt := 291) rfl (qI (by decide)) (by decide) (fun q => absurd q (by decide)) (fun _ => ?_)
                    refine M.run 2 (pc' := 292) (lv' := [some (vr o), some (vi ((op : Nat) : Int)), some (vi ((gTk L j).1)), some (vi ((gTk L j).2.1)), some (vi 1)]) (st' := [vi 1]) rfl ?_
                    exact M.zret rfl (Or.inr rfl) (Nat.zero_le _) (Nat.zero_le _) (by show PQ o L c1 c2 j ly m1 m2 f1 f2 fc fq w _ _ ((pOne L ly op fs fo fe) j); rw [pOne_u (by omega) (by omega) hR1]; exact ⟨rfl, hF323, ⟨(by show szE e1 + 1 + j ≤ k1; omega), hy1⟩, okE_un hK1, _, (by have hq9 := hR323; rw [show c1 + 2 * szE e1 + 2 = c1 + 2 * szE (unE (gTk L j).1 e1) from by show _ = c1 + 2 * (szE e1 + 1); omega] at hq9; exact hq9), un_at hK1 hC1, fun i hi => by rw [uN_o (by omega), uN_o (by omega)]; exact hU1 i hi⟩)
                  · skip
                    rw [hR1] at q322
                    obtain ⟨hr1, hg1, hy1, dd1, gc1, hS1⟩ := q322
                    rw [hr1]
                    have hG1 := FrR.tr hF321 hg1
                    refine M.if_eq (tgt := 291) rfl (qI (by decide)) (by decide) (fun _ => ?_) (fun q => absurd q (by decide))
                    refine M.run 1 (pc' := 292) (lv' := [some (vr o), some (vi ((op : Nat) : Int)), some (vi ((gTk L j).1)), some (vi ((gTk L j).2.1)), some (vi 1)]) (st' := [vi 0]) rfl ?_
                    exact M.zret rfl (Or.inl rfl) (Nat.zero_le _) (Nat.zero_le _) (by show PQ o L c1 c2 j ly m1 m2 f1 f2 fc fq w _ _ ((pOne L ly op fs fo fe) j); rw [pOne_v (by omega) (by omega) hR1]; exact ⟨rfl, hG1, hy1, _, _, hS1⟩)
                by_cases hs97_1 : (gTk L j).1 = 9
                · refine M.lsw (tgt := 258) (off := 161) rfl (qI (by omega)) (by decide) (by rw [hs97_1]; rfl) (by decide) ?_
                  have hk300 := hx51 j (by omega)
                  refine M.run 2 (pc' := 260) (lv' := [some (vr o), some (vi ((op : Nat) : Int)), some (vi ((gTk L j).1)), some (vi ((gTk L j).2.1)), some (vi 1)]) (st' := [vr o, vr o]) rfl ?_
                  refine M.get fl_X3_38 rfl hP.1 (kf := 5) (v := vi ((j : Nat) : Int)) rfl ?_
                  refine M.run 2 (pc' := 265) (lv' := [some (vr o), some (vi ((op : Nat) : Int)), some (vi ((gTk L j).1)), some (vi ((gTk L j).2.1)), some (vi 1)]) (st' := [vi (((j : Nat) : Int) + 1), vr o]) rfl ?_
                  rw [show ((j : Nat) : Int) + 1 = ((j + 1 : Nat) : Int) from by omega]
                  refine M.put fl_X3_38 rfl (hP.1) rfl rfl (Nat.le_of_ble_eq_true rfl) ?_
                  change g 0 0 (up w o (Ob 2 [vr (o + 1), vr (o + 5), vr (o + 6), vi ((c1 : Nat) : Int), vi ((c2 : Nat) : Int), vi ((j + 1 : Nat) : Int), vi ly, vr m1, vr m2, vi f1, vi f2])) 268 [some (vr o), some (vi ((op : Nat) : Int)), some (vi ((gTk L j).1)), some (vi ((gTk L j).2.1)), some (vi 1)] []
                  have hR328 : isRe o L c1 c2 (j + 1) ly m1 m2 f1 f2 fc fq (up w o (Ob 2 [vr (o + 1), vr (o + 5), vr (o + 6), vi ((c1 : Nat) : Int), vi ((c2 : Nat) : Int), vi ((j + 1 : Nat) : Int), vi ly, vr m1, vr m2, vi f1, vi f2])) := isRe_1 hP
                  have hF328 : FrR o w (up w o (Ob 2 [vr (o + 1), vr (o + 5), vr (o + 6), vi ((c1 : Nat) : Int), vi ((c2 : Nat) : Int), vi ((j + 1 : Nat) : Int), vi ly, vr m1, vr m2, vi f1, vi f2])) := FrR.u FrR.rf o (by omega)
                  generalize up w o (Ob 2 [vr (o + 1), vr (o + 5), vr (o + 6), vi ((c1 : Nat) : Int), vi ((c2 : Nat) : Int), vi ((j + 1 : Nat) : Int), vi ly, vr m1, vr m2, vi f1, vi f2]) = w328 at hR328 hF328 ⊢
                  refine M.run 4 (pc' := 272) (lv' := [some (vr o), some (vi ((op : Nat) : Int)), some (vi ((gTk L j).1)), some (vi ((gTk L j).2.1)), some (vi 1)]) (st' := [vi (((op : Nat) : Int) + 1), vr o]) rfl ?_
                  rw [show ((op : Nat) : Int) + 1 = ((op + 1 : Nat) : Int) from (by omega)]
                  refine M.callV (ho (by omega) c1 c2 (j + 1) m1 m2 f1 f2 fc fq (by omega) (by omega)) cv_X3_118 cd_X3_one rfl (st := []) rfl (hR328.1) (by omega) (by decide) rfl (Nat.zero_le _) (Nat.zero_le _) hR328 (fun r329 w329 q329 => ?_)
                  rcases hR1 : fo (j + 1) with ⟨e1, k1⟩ | ⟨s1, k1⟩
                  · skip
                    rw [hR1] at q329
                    obtain ⟨hr1, hg1, ⟨hz1, hy1⟩, hK1, gc1, hS1, hC1, hU1⟩ := q329
                    rw [hr1]
                    have hG1 := FrR.tr hF328 hg1
                    refine M.if_eq (tgt := 291) rfl (qI (by decide)) (by decide) (fun q => absurd q (by decide)) (fun _ => ?_)
                    refine M.run 3 (pc' := 281) (lv' := [some (vr o), some (vi ((op : Nat) : Int)), some (vi ((gTk L j).1)), some (vi ((gTk L j).2.1)), some (vi 1)]) (st' := [vi 0, vi ((gTk L j).1), vr o]) rfl ?_
                    refine M.callV (kX3_emit l G o L (c1 + 2 * szE e1) c2 k1 ly m1 m2 f1 f2 gc1 fq (by omega) ((gTk L j).1) 0 (by omega) (by omega)) cv_X3_114 cd_X3_emit rfl (st := []) rfl hS1.1 (by omega) (by decide) rfl (Nat.zero_le _) (Nat.zero_le _) hS1 (fun r331 w332 q333 => ?_)
                    obtain ⟨q333r, hR330, q333f⟩ := q333
                    rw [q333r]
                    have hF330 : FrR o w w332 := FrR.tr hG1 q333f
                    refine M.if_eq (tgt := 291) rfl (qI (by decide)) (by decide) (fun q => absurd q (by decide)) (fun _ => ?_)
                    refine M.run 2 (pc' := 292) (lv' := [some (vr o), some (vi ((op : Nat) : Int)), some (vi ((gTk L j).1)), some (vi ((gTk L j).2.1)), some (vi 1)]) (st' := [vi 1]) rfl ?_
                    exact M.zret rfl (Or.inr rfl) (Nat.zero_le _) (Nat.zero_le _) (by show PQ o L c1 c2 j ly m1 m2 f1 f2 fc fq w _ _ ((pOne L ly op fs fo fe) j); rw [pOne_u (by omega) (by omega) hR1]; exact ⟨rfl, hF330, ⟨(by show szE e1 + 1 + j ≤ k1; omega), hy1⟩, okE_un hK1, _, (by have hq9 := hR330; rw [show c1 + 2 * szE e1 + 2 = c1 + 2 * szE (unE (gTk L j).1 e1) from by show _ = c1 + 2 * (szE e1 + 1); omega] at hq9; exact hq9), un_at hK1 hC1, fun i hi => by rw [uN_o (by omega), uN_o (by omega)]; exact hU1 i hi⟩)
                  · skip
                    rw [hR1] at q329
                    obtain ⟨hr1, hg1, hy1, dd1, gc1, hS1⟩ := q329
                    rw [hr1]
                    have hG1 := FrR.tr hF328 hg1
                    refine M.if_eq (tgt := 291) rfl (qI (by decide)) (by decide) (fun _ => ?_) (fun q => absurd q (by decide))
                    refine M.run 1 (pc' := 292) (lv' := [some (vr o), some (vi ((op : Nat) : Int)), some (vi ((gTk L j).1)), some (vi ((gTk L j).2.1)), some (vi 1)]) (st' := [vi 0]) rfl ?_
                    exact M.zret rfl (Or.inl rfl) (Nat.zero_le _) (Nat.zero_le _) (by show PQ o L c1 c2 j ly m1 m2 f1 f2 fc fq w _ _ ((pOne L ly op fs fo fe) j); rw [pOne_v (by omega) (by omega) hR1]; exact ⟨rfl, hG1, hy1, _, _, hS1⟩)
                by_cases hs97_2 : (gTk L j).1 = 10
                · refine M.lsw (tgt := 293) (off := 196) rfl (qI (by omega)) (by decide) (by rw [hs97_2]; rfl) (by decide) ?_
                  have hk300 := hx51 j (by omega)
                  refine M.run 2 (pc' := 295) (lv' := [some (vr o), some (vi ((op : Nat) : Int)), some (vi ((gTk L j).1)), some (vi ((gTk L j).2.1)), some (vi 1)]) (st' := [vr o, vr o]) rfl ?_
                  refine M.get fl_X3_38 rfl hP.1 (kf := 5) (v := vi ((j : Nat) : Int)) rfl ?_
                  refine M.run 2 (pc' := 300) (lv' := [some (vr o), some (vi ((op : Nat) : Int)), some (vi ((gTk L j).1)), some (vi ((gTk L j).2.1)), some (vi 1)]) (st' := [vi (((j : Nat) : Int) + 1), vr o]) rfl ?_
                  rw [show ((j : Nat) : Int) + 1 = ((j + 1 : Nat) : Int) from by omega]
                  refine M.put fl_X3_38 rfl (hP.1) rfl rfl (Nat.le_of_ble_eq_true rfl) ?_
                  change g 0 0 (up w o (Ob 2 [vr (o + 1), vr (o + 5), vr (o + 6), vi ((c1 : Nat) : Int), vi ((c2 : Nat) : Int), vi ((j + 1 : Nat) : Int), vi ly, vr m1, vr m2, vi f1, vi f2])) 303 [some (vr o), some (vi ((op : Nat) : Int)), some (vi ((gTk L j).1)), some (vi ((gTk L j).2.1)), some (vi 1)] []
                  have hR335 : isRe o L c1 c2 (j + 1) ly m1 m2 f1 f2 fc fq (up w o (Ob 2 [vr (o + 1), vr (o + 5), vr (o + 6), vi ((c1 : Nat) : Int), vi ((c2 : Nat) : Int), vi ((j + 1 : Nat) : Int), vi ly, vr m1, vr m2, vi f1, vi f2])) := isRe_1 hP
                  have hF335 : FrR o w (up w o (Ob 2 [vr (o + 1), vr (o + 5), vr (o + 6), vi ((c1 : Nat) : Int), vi ((c2 : Nat) : Int), vi ((j + 1 : Nat) : Int), vi ly, vr m1, vr m2, vi f1, vi f2])) := FrR.u FrR.rf o (by omega)
                  generalize up w o (Ob 2 [vr (o + 1), vr (o + 5), vr (o + 6), vi ((c1 : Nat) : Int), vi ((c2 : Nat) : Int), vi ((j + 1 : Nat) : Int), vi ly, vr m1, vr m2, vi f1, vi f2]) = w335 at hR335 hF335 ⊢
                  refine M.run 4 (pc' := 307) (lv' := [some (vr o), some (vi ((op : Nat) : Int)), some (vi ((gTk L j).1)), some (vi ((gTk L j).2.1)), some (vi 1)]) (st' := [vi (((op : Nat) : Int) + 1), vr o]) rfl ?_
                  rw [show ((op : Nat) : Int) + 1 = ((op + 1 : Nat) : Int) from (by omega)]
                  refine M.callV (he (by omega) c1 c2 (j + 1) m1 m2 f1 f2 fc fq (by omega) (by omega)) cv_X3_124 cd_X3_choice rfl (st := []) rfl (hR335.1) (by omega) (by decide) rfl (Nat.zero_le _) (Nat.zero_le _) hR335 (fun r336 w336 q336 => ?_)
                  rcases hR1 : fe (j + 1) with ⟨e1, k1⟩ | ⟨s1, k1⟩
                  · skip
                    rw [hR1] at q336
                    obtain ⟨hr1, hg1, ⟨hz1, hy1⟩, hK1, gc1, hS1, hC1, hU1⟩ := q336
                    rw [hr1]
                    have hG1 := FrR.tr hF335 hg1
                    exact M.zret rfl (Or.inr rfl) (Nat.zero_le _) (Nat.zero_le _) (by show PQ o L c1 c2 j ly m1 m2 f1 f2 fc fq w _ _ ((pOne L ly op fs fo fe) j); rw [pOne_i (by omega) (by omega), hR1]; exact ⟨rfl, hG1, ⟨by omega, hy1⟩, hK1, _, hS1, hC1, hU1⟩)
                  · skip
                    rw [hR1] at q336
                    obtain ⟨hr1, hg1, hy1, dd1, gc1, hS1⟩ := q336
                    rw [hr1]
                    have hG1 := FrR.tr hF335 hg1
                    exact M.zret rfl (Or.inl rfl) (Nat.zero_le _) (Nat.zero_le _) (by show PQ o L c1 c2 j ly m1 m2 f1 f2 fc fq w _ _ ((pOne L ly op fs fo fe) j); rw [pOne_i (by omega) (by omega), hR1]; exact ⟨rfl, hG1, hy1, _, _, hS1⟩)
                by_cases hs97_3 : (gTk L j).1 = 35
                · refine M.lsw (tgt := 222) (off := 125) rfl (qI (by omega)) (by decide) (by rw [hs97_3]; rfl) (by decide) ?_
                  have hk300 := hx51 j (by omega)
                  refine M.run 2 (pc' := 224) (lv' := [some (vr o), some (vi ((op : Nat) : Int)), some (vi ((gTk L j).1)), some (vi ((gTk L j).2.1)), some (vi 1)]) (st' := [vr o, vr o]) rfl ?_
                  refine M.get fl_X3_38 rfl hP.1 (kf := 5) (v := vi ((j : Nat) : Int)) rfl ?_
                  refine M.run 2 (pc' := 229) (lv' := [some (vr o), some (vi ((op : Nat) : Int)), some (vi ((gTk L j).1)), some (vi ((gTk L j).2.1)), some (vi 1)]) (st' := [vi (((j : Nat) : Int) + 1), vr o]) rfl ?_
                  rw [show ((j : Nat) : Int) + 1 = ((j + 1 : Nat) : Int) from by omega]
                  refine M.put fl_X3_38 rfl (hP.1) rfl rfl (Nat.le_of_ble_eq_true rfl) ?_
                  change g 0 0 (up w o (Ob 2 [vr (o + 1), vr (o + 5), vr (o + 6), vi ((c1 : Nat) : Int), vi ((c2 : Nat) : Int), vi ((j + 1 : Nat) : Int), vi ly, vr m1, vr m2, vi f1, vi f2])) 232 [some (vr o), some (vi ((op : Nat) : Int)), some (vi ((gTk L j).1)), some (vi ((gTk L j).2.1)), some (vi 1)] []
                  have hR337 : isRe o L c1 c2 (j + 1) ly m1 m2 f1 f2 fc fq (up w o (Ob 2 [vr (o + 1), vr (o + 5), vr (o + 6), vi ((c1 : Nat) : Int), vi ((c2 : Nat) : Int), vi ((j + 1 : Nat) : Int), vi ly, vr m1, vr m2, vi f1, vi f2])) := isRe_1 hP
                  have hF337 : FrR o w (up w o (Ob 2 [vr (o + 1), vr (o + 5), vr (o + 6), vi ((c1 : Nat) : Int), vi ((c2 : Nat) : Int), vi ((j + 1 : Nat) : Int), vi ly, vr m1, vr m2, vi f1, vi f2])) := FrR.u FrR.rf o (by omega)
                  generalize up w o (Ob 2 [vr (o + 1), vr (o + 5), vr (o + 6), vi ((c1 : Nat) : Int), vi ((c2 : Nat) : Int), vi ((j + 1 : Nat) : Int), vi ly, vr m1, vr m2, vi f1, vi f2]) = w337 at hR337 hF337 ⊢
                  refine M.run 4 (pc' := 236) (lv' := [some (vr o), some (vi ((op : Nat) : Int)), some (vi ((gTk L j).1)), some (vi ((gTk L j).2.1)), some (vi 1)]) (st' := [vi (((op : Nat) : Int) + 1), vr o]) rfl ?_
                  rw [show ((op : Nat) : Int) + 1 = ((op + 1 : Nat) : Int) from (by omega)]
                  refine M.callV (ho (by omega) c1 c2 (j + 1) m1 m2 f1 f2 fc fq (by omega) (by omega)) cv_X3_118 cd_X3_one rfl (st := []) rfl (hR337.1) (by omega) (by decide) rfl (Nat.zero_le _) (Nat.zero_le _) hR337 (fun r338 w338 q338 => ?_)
                  rcases hR1 : fo (j + 1) with ⟨e1, k1⟩ | ⟨s1, k1⟩
                  · skip
                    rw [hR1] at q338
                    obtain ⟨hr1, hg1, ⟨hz1, hy1⟩, hK1, gc1, hS1, hC1, hU1⟩ := q338
                    rw [hr1]
                    have hG1 := FrR.tr hF337 hg1
                    refine M.if_eq (tgt := 256) rfl (qI (by decide)) (by decide) (fun q => absurd q (by decide)) (fun _ => ?_)
                    refine M.run 3 (pc' := 246) (lv' := [some (vr o), some (vi ((op : Nat) : Int)), some (vi ((gTk L j).1)), some (vi ((gTk L j).2.1)), some (vi 1)]) (st' := [vi 0, vi 60, vr o]) rfl ?_
                    refine M.callV (kX3_emit l G o L (c1 + 2 * szE e1) c2 k1 ly m1 m2 f1 f2 gc1 fq (by omega) 60 0 (by omega) (by omega)) cv_X3_114 cd_X3_emit rfl (st := []) rfl hS1.1 (by omega) (by decide) rfl (Nat.zero_le _) (Nat.zero_le _) hS1 (fun r340 w341 q342 => ?_)
                    obtain ⟨q342r, hR339, q342f⟩ := q342
                    rw [q342r]
                    have hF339 : FrR o w w341 := FrR.tr hG1 q342f
                    refine M.if_eq (tgt := 256) rfl (qI (by decide)) (by decide) (fun q => absurd q (by decide)) (fun _ => ?_)
                    refine M.run 2 (pc' := 257) (lv' := [some (vr o), some (vi ((op : Nat) : Int)), some (vi ((gTk L j).1)), some (vi ((gTk L j).2.1)), some (vi 1)]) (st' := [vi 1]) rfl ?_
                    exact M.zret rfl (Or.inr rfl) (Nat.zero_le _) (Nat.zero_le _) (by show PQ o L c1 c2 j ly m1 m2 f1 f2 fc fq w _ _ ((pOne L ly op fs fo fe) j); rw [pOne_m (by omega) (by omega) hR1]; exact ⟨rfl, hF339, ⟨(by show szE e1 + 1 + j ≤ k1; omega), hy1⟩, okE_un hK1, _, (by have hq9 := hR339; rw [show c1 + 2 * szE e1 + 2 = c1 + 2 * szE (unE 60 e1) from by show _ = c1 + 2 * (szE e1 + 1); omega] at hq9; exact hq9), un_at hK1 hC1, fun i hi => by rw [uN_o (by omega), uN_o (by omega)]; exact hU1 i hi⟩)
                  · skip
                    rw [hR1] at q338
                    obtain ⟨hr1, hg1, hy1, dd1, gc1, hS1⟩ := q338
                    rw [hr1]
                    have hG1 := FrR.tr hF337 hg1
                    refine M.if_eq (tgt := 256) rfl (qI (by decide)) (by decide) (fun _ => ?_) (fun q => absurd q (by decide))
                    refine M.run 1 (pc' := 257) (lv' := [some (vr o), some (vi ((op : Nat) : Int)), some (vi ((gTk L j).1)), some (vi ((gTk L j).2.1)), some (vi 1)]) (st' := [vi 0]) rfl ?_
                    exact M.zret rfl (Or.inl rfl) (Nat.zero_le _) (Nat.zero_le _) (by show PQ o L c1 c2 j ly m1 m2 f1 f2 fc fq w _ _ ((pOne L ly op fs fo fe) j); rw [pOne_n (by omega) (by omega) hR1]; exact ⟨rfl, hG1, hy1, _, _, hS1⟩)
                by_cases hs97_4 : (gTk L j).1 = 38
                · refine M.lsw (tgt := 187) (off := 90) rfl (qI (by omega)) (by decide) (by rw [hs97_4]; rfl) (by decide) ?_
                  have hk300 := hx51 j (by omega)
                  refine M.run 2 (pc' := 189) (lv' := [some (vr o), some (vi ((op : Nat) : Int)), some (vi ((gTk L j).1)), some (vi ((gTk L j).2.1)), some (vi 1)]) (st' := [vr o, vr o]) rfl ?_
                  refine M.get fl_X3_38 rfl hP.1 (kf := 5) (v := vi ((j : Nat) : Int)) rfl ?_
                  refine M.run 2 (pc' := 194) (lv' := [some (vr o), some (vi ((op : Nat) : Int)), some (vi ((gTk L j).1)), some (vi ((gTk L j).2.1)), some (vi 1)]) (st' := [vi (((j : Nat) : Int) + 1), vr o]) rfl ?_
                  rw [show ((j : Nat) : Int) + 1 = ((j + 1 : Nat) : Int) from by omega]
                  refine M.put fl_X3_38 rfl (hP.1) rfl rfl (Nat.le_of_ble_eq_true rfl) ?_
                  change g 0 0 (up w o (Ob 2 [vr (o + 1), vr (o + 5), vr (o + 6), vi ((c1 : Nat) : Int), vi ((c2 : Nat) : Int), vi ((j + 1 : Nat) : Int), vi ly, vr m1, vr m2, vi f1, vi f2])) 197 [some (vr o), some (vi ((op : Nat) : Int)), some (vi ((gTk L j).1)), some (vi ((gTk L j).2.1)), some (vi 1)] []
                  have hR344 : isRe o L c1 c2 (j + 1) ly m1 m2 f1 f2 fc fq (up w o (Ob 2 [vr (o + 1), vr (o + 5), vr (o + 6), vi ((c1 : Nat) : Int), vi ((c2 : Nat) : Int), vi ((j + 1 : Nat) : Int), vi ly, vr m1, vr m2, vi f1, vi f2])) := isRe_1 hP
                  have hF344 : FrR o w (up w o (Ob 2 [vr (o + 1), vr (o + 5), vr (o + 6), vi ((c1 : Nat) : Int), vi ((c2 : Nat) : Int), vi ((j + 1 : Nat) : Int), vi ly, vr m1, vr m2, vi f1, vi f2])) := FrR.u FrR.rf o (by omega)
                  generalize up w o (Ob 2 [vr (o + 1), vr (o + 5), vr (o + 6), vi ((c1 : Nat) : Int), vi ((c2 : Nat) : Int), vi ((j + 1 : Nat) : Int), vi ly, vr m1, vr m2, vi f1, vi f2]) = w344 at hR344 hF344 ⊢
                  refine M.run 4 (pc' := 201) (lv' := [some (vr o), some (vi ((op : Nat) : Int)), some (vi ((gTk L j).1)), some (vi ((gTk L j).2.1)), some (vi 1)]) (st' := [vi (((op : Nat) : Int) + 1), vr o]) rfl ?_
                  rw [show ((op : Nat) : Int) + 1 = ((op + 1 : Nat) : Int) from (by omega)]
                  refine M.callV (hs (by omega) c1 c2 (j + 1) m1 m2 f1 f2 fc fq (by omega) (by omega)) cv_X3_89 cd_X3_sum rfl (st := []) rfl (hR344.1) (by omega) (by decide) rfl (Nat.zero_le _) (Nat.zero_le _) hR344 (fun r345 w345 q345 => ?_)
                  rcases hR1 : fs (j + 1) with ⟨e1, k1⟩ | ⟨s1, k1⟩
                  · skip
                    rw [hR1] at q345
                    obtain ⟨hr1, hg1, ⟨hz1, hy1⟩, hK1, gc1, hS1, hC1, hU1⟩ := q345
                    rw [hr1]
                    have hG1 := FrR.tr hF344 hg1
                    refine M.if_eq (tgt := 220) rfl (qI (by decide)) (by decide) (fun q => absurd q (by decide)) (fun _ => ?_)
                    refine M.run 2 (pc' := 210) (lv' := [some (vr o), some (vi ((op : Nat) : Int)), some (vi ((gTk L j).1)), some (vi ((gTk L j).2.1)), some (vi 1)]) (st' := [vi 39, vr o]) rfl ?_
                    refine M.callV (kX3_take l G o L (c1 + 2 * szE e1) c2 k1 ly m1 m2 f1 f2 gc1 fq (by omega) hB 39 (by omega)) cv_X3_92 cd_X3_take rfl (st := []) rfl (hS1.1) (by omega) (by decide) rfl (Nat.zero_le _) (Nat.zero_le _) hS1 (fun r346 w346 q346 => ?_)
                    by_cases hT1 : (gTk L k1).1 = 39
                    · skip
                      rw [if_pos hT1] at q346
                      obtain ⟨hr1_, hS1_, hg1_⟩ := q346
                      rw [hr1_]
                      have hG1_ := FrR.tr hG1 hg1_
                      have hk301 := hx51 k1 (by omega)
                      refine M.if_eq (tgt := 220) rfl (qI (by decide)) (by decide) (fun q => absurd q (by decide)) (fun _ => ?_)
                      refine M.run 2 (pc' := 221) (lv' := [some (vr o), some (vi ((op : Nat) : Int)), some (vi ((gTk L j).1)), some (vi ((gTk L j).2.1)), some (vi 1)]) (st' := [vi 1]) rfl ?_
                      exact M.zret rfl (Or.inr rfl) (Nat.zero_le _) (Nat.zero_le _) (by show PQ o L c1 c2 j ly m1 m2 f1 f2 fc fq w _ _ ((pOne L ly op fs fo fe) j); rw [pOne_b (by omega) (by omega) hR1 hT1]; exact ⟨rfl, hG1_, ⟨by omega, by omega⟩, hK1, _, hS1_, hC1, hU1⟩)
                    · skip
                      rw [if_neg hT1] at q346
                      obtain ⟨hr1_, hS1_, hg1_⟩ := q346
                      rw [hr1_]
                      have hG1_ := FrR.tr hG1 hg1_
                      refine M.if_eq (tgt := 220) rfl (qI (by decide)) (by decide) (fun _ => ?_) (fun q => absurd q (by decide))
                      refine M.run 1 (pc' := 221) (lv' := [some (vr o), some (vi ((op : Nat) : Int)), some (vi ((gTk L j).1)), some (vi ((gTk L j).2.1)), some (vi 1)]) (st' := [vi 0]) rfl ?_
                      exact M.zret rfl (Or.inl rfl) (Nat.zero_le _) (Nat.zero_le _) (by show PQ o L c1 c2 j ly m1 m2 f1 f2 fc fq w _ _ ((pOne L ly op fs fo fe) j); rw [pOne_c (by omega) (by omega) hR1 hT1]; exact ⟨rfl, hG1_, hy1, _, _, hS1_⟩)
                  · skip
                    rw [hR1] at q345
                    obtain ⟨hr1, hg1, hy1, dd1, gc1, hS1⟩ := q345
                    rw [hr1]
                    have hG1 := FrR.tr hF344 hg1
                    refine M.if_eq (tgt := 220) rfl (qI (by decide)) (by decide) (fun _ => ?_) (fun q => absurd q (by decide))
                    refine M.run 1 (pc' := 221) (lv' := [some (vr o), some (vi ((op : Nat) : Int)), some (vi ((gTk L j).1)), some (vi ((gTk L j).2.1)), some (vi 1)]) (st' := [vi 0]) rfl ?_
                    exact M.zret rfl (Or.inl rfl) (Nat.zero_le _) (Nat.zero_le _) (by show PQ o L c1 c2 j ly m1 m2 f1 f2 fc fq w _ _ ((pOne L ly op fs fo fe) j); rw [pOne_e (by omega) (by omega) hR1]; exact ⟨rfl, hG1, hy1, _, _, hS1⟩)
                by_cases hs97_5 : (gTk L j).1 = 50
                · refine M.lsw (tgt := 156) (off := 59) rfl (qI (by omega)) (by decide) (by rw [hs97_5]; rfl) (by decide) ?_
                  refine M.run 2 (pc' := 160) (lv' := [some (vr o), some (vi ((op : Nat) : Int)), some (vi ((gTk L j).1)), some (vi ((gTk L j).2.1)), some (vi 1)]) (st' := [vi 9999, vi ((gTk L j).2.1)]) rfl ?_
                  refine M.icmp_le (tgt := 169) rfl (qI (by omega)) (qI (by decide)) (by decide) (fun h160 => ?_) (fun h160 => ?_)
                  · skip
                    have hk300 := hx51 j (by omega)
                    refine M.run 2 (pc' := 171) (lv' := [some (vr o), some (vi ((op : Nat) : Int)), some (vi ((gTk L j).1)), some (vi ((gTk L j).2.1)), some (vi 1)]) (st' := [vr o, vr o]) rfl ?_
                    refine M.get fl_X3_38 rfl hP.1 (kf := 5) (v := vi ((j : Nat) : Int)) rfl ?_
                    refine M.run 2 (pc' := 176) (lv' := [some (vr o), some (vi ((op : Nat) : Int)), some (vi ((gTk L j).1)), some (vi ((gTk L j).2.1)), some (vi 1)]) (st' := [vi (((j : Nat) : Int) + 1), vr o]) rfl ?_
                    rw [show ((j : Nat) : Int) + 1 = ((j + 1 : Nat) : Int) from by omega]
                    refine M.put fl_X3_38 rfl (hP.1) rfl rfl (Nat.le_of_ble_eq_true rfl) ?_
                    change g 0 0 (up w o (Ob 2 [vr (o + 1), vr (o + 5), vr (o + 6), vi ((c1 : Nat) : Int), vi ((c2 : Nat) : Int), vi ((j + 1 : Nat) : Int), vi ly, vr m1, vr m2, vi f1, vi f2])) 179 [some (vr o), some (vi ((op : Nat) : Int)), some (vi ((gTk L j).1)), some (vi ((gTk L j).2.1)), some (vi 1)] []
                    have hR347 : isRe o L c1 c2 (j + 1) ly m1 m2 f1 f2 fc fq (up w o (Ob 2 [vr (o + 1), vr (o + 5), vr (o + 6), vi ((c1 : Nat) : Int), vi ((c2 : Nat) : Int), vi ((j + 1 : Nat) : Int), vi ly, vr m1, vr m2, vi f1, vi f2])) := isRe_1 hP
                    have hF347 : FrR o w (up w o (Ob 2 [vr (o + 1), vr (o + 5), vr (o + 6), vi ((c1 : Nat) : Int), vi ((c2 : Nat) : Int), vi ((j + 1 : Nat) : Int), vi ly, vr m1, vr m2, vi f1, vi f2])) := FrR.u FrR.rf o (by omega)
                    generalize up w o (Ob 2 [vr (o + 1), vr (o + 5), vr (o + 6), vi ((c1 : Nat) : Int), vi ((c2 : Nat) : Int), vi ((j + 1 : Nat) : Int), vi ly, vr m1, vr m2, vi f1, vi f2]) = w347 at hR347 hF347 ⊢
                    refine M.run 3 (pc' := 183) (lv' := [some (vr o), some (vi ((op : Nat) : Int)), some (vi ((gTk L j).1)), some (vi ((gTk L j).2.1)), some (vi 1)]) (st' := [vi ((gTk L j).2.1), vi 50, vr o]) rfl ?_
                    refine M.callV (kX3_emit l G o L c1 c2 (j + 1) ly m1 m2 f1 f2 fc fq (by omega) 50 ((gTk L j).2.1) (by omega) (by omega)) cv_X3_114 cd_X3_emit rfl (st := []) rfl hR347.1 (by omega) (by decide) rfl (Nat.zero_le _) (Nat.zero_le _) hR347 (fun r349 w350 q351 => ?_)
                    obtain ⟨q351r, hR348, q351f⟩ := q351
                    rw [q351r]
                    have hF348 : FrR o w w350 := FrR.tr hF347 q351f
                    exact M.zret rfl (Or.inr rfl) (Nat.zero_le _) (Nat.zero_le _) (by show PQ o L c1 c2 j ly m1 m2 f1 f2 fc fq w _ _ ((pOne L ly op fs fo fe) j); rw [pOne_f (by omega) (by omega)]; exact ⟨rfl, hF348, ⟨(by show 1 + j ≤ j + 1; omega), by omega⟩, okE_lf, _, hR348, lf_at, fun i hi => by rw [uN_o (by omega), uN_o (by omega)]⟩)
                  · skip
                    refine M.run 2 (pc' := 165) (lv' := [some (vr o), some (vi ((op : Nat) : Int)), some (vi ((gTk L j).1)), some (vi ((gTk L j).2.1)), some (vi 1)]) (st' := [vi 2, vr o]) rfl ?_
                    refine M.callV (kX3_refuse l G o L c1 c2 j ly m1 m2 f1 f2 fc fq (by omega) hB 2 (by omega)) cv_X3_73 cd_X3_refuse rfl (st := []) rfl hP.1 (by omega) (by decide) rfl (Nat.zero_le _) (Nat.zero_le _) hP (fun r354 w355 q356 => ?_)
                    obtain ⟨q356r, hR353, q356f⟩ := q356
                    rw [q356r]
                    have hF353 : FrR o w w355 := FrR.tr FrR.rf q356f
                    exact M.zret rfl (Or.inl rfl) (Nat.zero_le _) (Nat.zero_le _) (by show PQ o L c1 c2 j ly m1 m2 f1 f2 fc fq w _ _ ((pOne L ly op fs fo fe) j); rw [pOne_g (by omega) (by omega)]; exact ⟨rfl, hF353, hj, _, _, hR353⟩)
                refine M.lsw (tgt := 311) (off := 214) rfl (qI (by omega)) (by decide) (by rw [Op.lookupswitch.offset_cons, if_neg (fun q => hs97_0 q.symm), Op.lookupswitch.offset_cons, if_neg (fun q => hs97_1 q.symm), Op.lookupswitch.offset_cons, if_neg (fun q => hs97_2 q.symm), Op.lookupswitch.offset_cons, if_neg (fun q => hs97_3 q.symm), Op.lookupswitch.offset_cons, if_neg (fun q => hs97_4 q.symm), Op.lookupswitch.offset_cons, if_neg (fun q => hs97_5 q.symm)]; rfl) (by decide) ?_
                refine M.run 2 (pc' := 313) (lv' := [some (vr o), some (vi ((op : Nat) : Int)), some (vi ((gTk L j).1)), some (vi ((gTk L j).2.1)), some (vi 1)]) (st' := [vi 1, vr o]) rfl ?_
                refine M.callV (kX3_refuse l G o L c1 c2 j ly m1 m2 f1 f2 fc fq (by omega) hB 1 (by omega)) cv_X3_73 cd_X3_refuse rfl (st := []) rfl hP.1 (by omega) (by decide) rfl (Nat.zero_le _) (Nat.zero_le _) hP (fun r359 w360 q361 => ?_)
                obtain ⟨q361r, hR358, q361f⟩ := q361
                rw [q361r]
                have hF358 : FrR o w w360 := FrR.tr FrR.rf q361f
                exact M.zret rfl (Or.inl rfl) (Nat.zero_le _) (Nat.zero_le _) (by show PQ o L c1 c2 j ly m1 m2 f1 f2 fc fq w _ _ ((pOne L ly op fs fo fe) j); rw [pOne_o (by omega) (by omega) (by omega)]; exact ⟨rfl, hF358, hj, _, _, hR358⟩)
              · skip
                have hk300 := hx51 j (by omega)
                refine M.run 2 (pc' := 92) (lv' := [some (vr o), some (vi ((op : Nat) : Int)), some (vi ((gTk L j).1)), some (vi ((gTk L j).2.1)), some (vi 1)]) (st' := [vi ((gTk L j).1), vr o]) rfl ?_
                refine M.callV (kX3_name l G o L c1 c2 j ly m1 m2 f1 f2 fc fq (by omega) hB (by omega) hly ((gTk L j).1) (by omega)) cv_X3_121 cd_X3_name rfl (st := []) rfl (hP.1) (by omega) (by decide) rfl (Nat.zero_le _) (Nat.zero_le _) hP (fun r363 w363 q363 => ?_)
                by_cases hT1 : ((gTk L j).1) = (if ly = 0 then 23 else 22)
                · skip
                  rw [if_pos hT1] at q363
                  obtain ⟨hr1_, hS1_, hg1_⟩ := q363
                  rw [hr1_]
                  have hG1_ := FrR.tr FrR.rf hg1_
                  exact M.zret rfl (Or.inl rfl) (Nat.zero_le _) (Nat.zero_le _) (by show PQ o L c1 c2 j ly m1 m2 f1 f2 fc fq w _ _ ((pOne L ly op fs fo fe) j); rw [pOne_x (by omega) (by omega) hT1]; exact ⟨rfl, hG1_, hj, _, _, hS1_⟩)
                · skip
                  rw [if_neg hT1] at q363
                  obtain ⟨hr1_, hS1_, hg1_⟩ := q363
                  rw [hr1_]
                  have hG1_ := FrR.tr FrR.rf hg1_
                  exact M.zret rfl (Or.inr rfl) (Nat.zero_le _) (Nat.zero_le _) (by show PQ o L c1 c2 j ly m1 m2 f1 f2 fc fq w _ _ ((pOne L ly op fs fo fe) j); rw [pOne_y (by omega) (by omega) hT1]; exact ⟨rfl, hG1_, ⟨(by show 1 + j ≤ j + 1; omega), by omega⟩, okE_lf, _, hS1_, lf_at, fun i hi => by rw [uN_o (by omega), uN_o (by omega)]⟩)
          · skip
            refine M.run 2 (pc' := 74) (lv' := [some (vr o), some (vi ((op : Nat) : Int)), some (vi ((gTk L j).1)), some (vi ((gTk L j).2.1)), some (vi 1)]) (st' := [vi 3, vr o]) rfl ?_
            refine M.callV (kX3_refuse l G o L c1 c2 j ly m1 m2 f1 f2 fc fq (by omega) hB 3 (by omega)) cv_X3_73 cd_X3_refuse rfl (st := []) rfl hP.1 (by omega) (by decide) rfl (Nat.zero_le _) (Nat.zero_le _) hP (fun r365 w366 q367 => ?_)
            obtain ⟨q367r, hR364, q367f⟩ := q367
            rw [q367r]
            have hF364 : FrR o w w366 := FrR.tr FrR.rf q367f
            exact M.zret rfl (Or.inl rfl) (Nat.zero_le _) (Nat.zero_le _) (by show PQ o L c1 c2 j ly m1 m2 f1 f2 fc fq w _ _ ((pOne L ly op fs fo fe) j); rw [pOne_d ⟨by omega, by omega⟩]; exact ⟨rfl, hF364, hj, _, _, hR364⟩)
        · skip
          refine M.run 2 (pc' := 51) (lv' := [some (vr o), some (vi ((op : Nat) : Int)), some (vi ((gTk L j).1)), some (vi ((gTk L j).2.1)), none]) (st' := [vi 10, vi ((gTk L j).1)]) rfl ?_
          refine M.icmp_ne (tgt := 58) rfl (qI (by omega)) (qI (by decide)) (by decide) (fun h51 => ?_) (fun h51 => ?_)
          · skip
            refine M.run 3 (pc' := 63) (lv' := [some (vr o), some (vi ((op : Nat) : Int)), some (vi ((gTk L j).1)), some (vi ((gTk L j).2.1)), some (vi 0)]) (st' := [vi 0]) rfl ?_
            refine M.if_eq (tgt := 78) rfl (qI (by decide)) (by decide) (fun _ => ?_) (fun q => absurd q (by decide))
            refine M.run 2 (pc' := 81) (lv' := [some (vr o), some (vi ((op : Nat) : Int)), some (vi ((gTk L j).1)), some (vi ((gTk L j).2.1)), some (vi 0)]) (st' := [vi 17, vi ((gTk L j).1)]) rfl ?_
            refine M.icmp_lt (tgt := 96) rfl (qI (by omega)) (qI (by decide)) (by decide) (fun h81 => ?_) (fun h81 => ?_)
            · skip
              refine M.run 1 (pc' := 97) (lv' := [some (vr o), some (vi ((op : Nat) : Int)), some (vi ((gTk L j).1)), some (vi ((gTk L j).2.1)), some (vi 0)]) (st' := [vi ((gTk L j).1)]) rfl ?_
              by_cases hs97_0 : (gTk L j).1 = 8
              · refine M.lsw (tgt := 258) (off := 161) rfl (qI (by omega)) (by decide) (by rw [hs97_0]; rfl) (by decide) ?_
                have hk300 := hx51 j (by omega)
                refine M.run 2 (pc' := 260) (lv' := [some (vr o), some (vi ((op : Nat) : Int)), some (vi ((gTk L j).1)), some (vi ((gTk L j).2.1)), some (vi 0)]) (st' := [vr o, vr o]) rfl ?_
                refine M.get fl_X3_38 rfl hP.1 (kf := 5) (v := vi ((j : Nat) : Int)) rfl ?_
                refine M.run 2 (pc' := 265) (lv' := [some (vr o), some (vi ((op : Nat) : Int)), some (vi ((gTk L j).1)), some (vi ((gTk L j).2.1)), some (vi 0)]) (st' := [vi (((j : Nat) : Int) + 1), vr o]) rfl ?_
                rw [show ((j : Nat) : Int) + 1 = ((j + 1 : Nat) : Int) from by omega]
                refine M.put fl_X3_38 rfl (hP.1) rfl rfl (Nat.le_of_ble_eq_true rfl) ?_
                change g 0 0 (up w o (Ob 2 [vr (o + 1), vr (o + 5), vr (o + 6), vi ((c1 : Nat) : Int), vi ((c2 : Nat) : Int), vi ((j + 1 : Nat) : Int), vi ly, vr m1, vr m2, vi f1, vi f2])) 268 [some (vr o), some (vi ((op : Nat) : Int)), some (vi ((gTk L j).1)), some (vi ((gTk L j).2.1)), some (vi 0)] []
                have hR369 : isRe o L c1 c2 (j + 1) ly m1 m2 f1 f2 fc fq (up w o (Ob 2 [vr (o + 1), vr (o + 5), vr (o + 6), vi ((c1 : Nat) : Int), vi ((c2 : Nat) : Int), vi ((j + 1 : Nat) : Int), vi ly, vr m1, vr m2, vi f1, vi f2])) := isRe_1 hP
                have hF369 : FrR o w (up w o (Ob 2 [vr (o + 1), vr (o + 5), vr (o + 6), vi ((c1 : Nat) : Int), vi ((c2 : Nat) : Int), vi ((j + 1 : Nat) : Int), vi ly, vr m1, vr m2, vi f1, vi f2])) := FrR.u FrR.rf o (by omega)
                generalize up w o (Ob 2 [vr (o + 1), vr (o + 5), vr (o + 6), vi ((c1 : Nat) : Int), vi ((c2 : Nat) : Int), vi ((j + 1 : Nat) : Int), vi ly, vr m1, vr m2, vi f1, vi f2]) = w369 at hR369 hF369 ⊢
                refine M.run 4 (pc' := 272) (lv' := [some (vr o), some (vi ((op : Nat) : Int)), some (vi ((gTk L j).1)), some (vi ((gTk L j).2.1)), some (vi 0)]) (st' := [vi (((op : Nat) : Int) + 1), vr o]) rfl ?_
                rw [show ((op : Nat) : Int) + 1 = ((op + 1 : Nat) : Int) from (by omega)]
                refine M.callV (ho (by omega) c1 c2 (j + 1) m1 m2 f1 f2 fc fq (by omega) (by omega)) cv_X3_118 cd_X3_one rfl (st := []) rfl (hR369.1) (by omega) (by decide) rfl (Nat.zero_le _) (Nat.zero_le _) hR369 (fun r370 w370 q370 => ?_)
                rcases hR1 : fo (j + 1) with ⟨e1, k1⟩ | ⟨s1, k1⟩
                · skip
                  rw [hR1] at q370
                  obtain ⟨hr1, hg1, ⟨hz1, hy1⟩, hK1, gc1, hS1, hC1, hU1⟩ := q370
                  rw [hr1]
                  have hG1 := FrR.tr hF369 hg1
                  refine M.if_eq (tgt := 291) rfl (qI (by decide)) (by decide) (fun q => absurd q (by decide)) (fun _ => ?_)
                  refine M.run 3 (pc' := 281) (lv' := [some (vr o), some (vi ((op : Nat) : Int)), some (vi ((gTk L j).1)), some (vi ((gTk L j).2.1)), some (vi 0)]) (st' := [vi 0, vi ((gTk L j).1), vr o]) rfl ?_
                  refine M.callV (kX3_emit l G o L (c1 + 2 * szE e1) c2 k1 ly m1 m2 f1 f2 gc1 fq (by omega) ((gTk L j).1) 0 (by omega) (by omega)) cv_X3_114 cd_X3_emit rfl (st := []) rfl hS1.1 (by omega) (by decide) rfl (Nat.zero_le _) (Nat.zero_le _) hS1 (fun r372 w373 q374 => ?_)
                  obtain ⟨q374r, hR371, q374f⟩ := q374
                  rw [q374r]
                  have hF371 : FrR o w w373 := FrR.tr hG1 q374f
                  refine M.if_eq (tgt := 291) rfl (qI (by decide)) (by decide) (fun q => absurd q (by decide)) (fun _ => ?_)
                  refine M.run 2 (pc' := 292) (lv' := [some (vr o), some (vi ((op : Nat) : Int)), some (vi ((gTk L j).1)), some (vi ((gTk L j).2.1)), some (vi 0)]) (st' := [vi 1]) rfl ?_
                  exact M.zret rfl (Or.inr rfl) (Nat.zero_le _) (Nat.zero_le _) (by show PQ o L c1 c2 j ly m1 m2 f1 f2 fc fq w _ _ ((pOne L ly op fs fo fe) j); rw [pOne_u (by omega) (by omega) hR1]; exact ⟨rfl, hF371, ⟨(by show szE e1 + 1 + j ≤ k1; omega), hy1⟩, okE_un hK1, _, (by have hq9 := hR371; rw [show c1 + 2 * szE e1 + 2 = c1 + 2 * szE (unE (gTk L j).1 e1) from by show _ = c1 + 2 * (szE e1 + 1); omega] at hq9; exact hq9), un_at hK1 hC1, fun i hi => by rw [uN_o (by omega), uN_o (by omega)]; exact hU1 i hi⟩)
                · skip
                  rw [hR1] at q370
                  obtain ⟨hr1, hg1, hy1, dd1, gc1, hS1⟩ := q370
                  rw [hr1]
                  have hG1 := FrR.tr hF369 hg1
                  refine M.if_eq (tgt := 291) rfl (qI (by decide)) (by decide) (fun _ => ?_) (fun q => absurd q (by decide))
                  refine M.run 1 (pc' := 292) (lv' := [some (vr o), some (vi ((op : Nat) : Int)), some (vi ((gTk L j).1)), some (vi ((gTk L j).2.1)), some (vi 0)]) (st' := [vi 0]) rfl ?_
                  exact M.zret rfl (Or.inl rfl) (Nat.zero_le _) (Nat.zero_le _) (by show PQ o L c1 c2 j ly m1 m2 f1 f2 fc fq w _ _ ((pOne L ly op fs fo fe) j); rw [pOne_v (by omega) (by omega) hR1]; exact ⟨rfl, hG1, hy1, _, _, hS1⟩)
              by_cases hs97_1 : (gTk L j).1 = 9
              · refine M.lsw (tgt := 258) (off := 161) rfl (qI (by omega)) (by decide) (by rw [hs97_1]; rfl) (by decide) ?_
                have hk300 := hx51 j (by omega)
                refine M.run 2 (pc' := 260) (lv' := [some (vr o), some (vi ((op : Nat) : Int)), some (vi ((gTk L j).1)), some (vi ((gTk L j).2.1)), some (vi 0)]) (st' := [vr o, vr o]) rfl ?_
                refine M.get fl_X3_38 rfl hP.1 (kf := 5) (v := vi ((j : Nat) : Int)) rfl ?_
                refine M.run 2 (pc' := 265) (lv' := [some (vr o), some (vi ((op : Nat) : Int)), some (vi ((gTk L j).1)), some (vi ((gTk L j).2.1)), some (vi 0)]) (st' := [vi (((j : Nat) : Int) + 1), vr o]) rfl ?_
                rw [show ((j : Nat) : Int) + 1 = ((j + 1 : Nat) : Int) from by omega]
                refine M.put fl_X3_38 rfl (hP.1) rfl rfl (Nat.le_of_ble_eq_true rfl) ?_
                change g 0 0 (up w o (Ob 2 [vr (o + 1), vr (o + 5), vr (o + 6), vi ((c1 : Nat) : Int), vi ((c2 : Nat) : Int), vi ((j + 1 : Nat) : Int), vi ly, vr m1, vr m2, vi f1, vi f2])) 268 [some (vr o), some (vi ((op : Nat) : Int)), some (vi ((gTk L j).1)), some (vi ((gTk L j).2.1)), some (vi 0)] []
                have hR376 : isRe o L c1 c2 (j + 1) ly m1 m2 f1 f2 fc fq (up w o (Ob 2 [vr (o + 1), vr (o + 5), vr (o + 6), vi ((c1 : Nat) : Int), vi ((c2 : Nat) : Int), vi ((j + 1 : Nat) : Int), vi ly, vr m1, vr m2, vi f1, vi f2])) := isRe_1 hP
                have hF376 : FrR o w (up w o (Ob 2 [vr (o + 1), vr (o + 5), vr (o + 6), vi ((c1 : Nat) : Int), vi ((c2 : Nat) : Int), vi ((j + 1 : Nat) : Int), vi ly, vr m1, vr m2, vi f1, vi f2])) := FrR.u FrR.rf o (by omega)
                generalize up w o (Ob 2 [vr (o + 1), vr (o + 5), vr (o + 6), vi ((c1 : Nat) : Int), vi ((c2 : Nat) : Int), vi ((j + 1 : Nat) : Int), vi ly, vr m1, vr m2, vi f1, vi f2]) = w376 at hR376 hF376 ⊢
                refine M.run 4 (pc' := 272) (lv' := [some (vr o), some (vi ((op : Nat) : Int)), some (vi ((gTk L j).1)), some (vi ((gTk L j).2.1)), some (vi 0)]) (st' := [vi (((op : Nat) : Int) + 1), vr o]) rfl ?_
                rw [show ((op : Nat) : Int) + 1 = ((op + 1 : Nat) : Int) from (by omega)]
                refine M.callV (ho (by omega) c1 c2 (j + 1) m1 m2 f1 f2 fc fq (by omega) (by omega)) cv_X3_118 cd_X3_one rfl (st := []) rfl (hR376.1) (by omega) (by decide) rfl (Nat.zero_le _) (Nat.zero_le _) hR376 (fun r377 w377 q377 => ?_)
                rcases hR1 : fo (j + 1) with ⟨e1, k1⟩ | ⟨s1, k1⟩
                · skip
                  rw [hR1] at q377
                  obtain ⟨hr1, hg1, ⟨hz1, hy1⟩, hK1, gc1, hS1, hC1, hU1⟩ := q377
                  rw [hr1]
                  have hG1 := FrR.tr hF376 hg1
                  refine M.if_eq (tgt := 291) rfl (qI (by decide)) (by decide) (fun q => absurd q (by decide)) (fun _ => ?_)
                  refine M.run 3 (pc' := 281) (lv' := [some (vr o), some (vi ((op : Nat) : Int)), some (vi ((gTk L j).1)), some (vi ((gTk L j).2.1)), some (vi 0)]) (st' := [vi 0, vi ((gTk L j).1), vr o]) rfl ?_
                  refine M.callV (kX3_emit l G o L (c1 + 2 * szE e1) c2 k1 ly m1 m2 f1 f2 gc1 fq (by omega) ((gTk L j).1) 0 (by omega) (by omega)) cv_X3_114 cd_X3_emit rfl (st := []) rfl hS1.1 (by omega) (by decide) rfl (Nat.zero_le _) (Nat.zero_le _) hS1 (fun r379 w380 q381 => ?_)
                  obtain ⟨q381r, hR378, q381f⟩ := q381
                  rw [q381r]
                  have hF378 : FrR o w w380 := FrR.tr hG1 q381f
                  refine M.if_eq (tgt := 291) rfl (qI (by decide)) (by decide) (fun q => absurd q (by decide)) (fun _ => ?_)
                  refine M.run 2 (pc' := 292) (lv' := [some (vr o), some (vi ((op : Nat) : Int)), some (vi ((gTk L j).1)), some (vi ((gTk L j).2.1)), some (vi 0)]) (st' := [vi 1]) rfl ?_
                  exact M.zret rfl (Or.inr rfl) (Nat.zero_le _) (Nat.zero_le _) (by show PQ o L c1 c2 j ly m1 m2 f1 f2 fc fq w _ _ ((pOne L ly op fs fo fe) j); rw [pOne_u (by omega) (by omega) hR1]; exact ⟨rfl, hF378, ⟨(by show szE e1 + 1 + j ≤ k1; omega), hy1⟩, okE_un hK1, _, (by have hq9 := hR378; rw [show c1 + 2 * szE e1 + 2 = c1 + 2 * szE (unE (gTk L j).1 e1) from by show _ = c1 + 2 * (szE e1 + 1); omega] at hq9; exact hq9), un_at hK1 hC1, fun i hi => by rw [uN_o (by omega), uN_o (by omega)]; exact hU1 i hi⟩)
                · skip
                  rw [hR1] at q377
                  obtain ⟨hr1, hg1, hy1, dd1, gc1, hS1⟩ := q377
                  rw [hr1]
                  have hG1 := FrR.tr hF376 hg1
                  refine M.if_eq (tgt := 291) rfl (qI (by decide)) (by decide) (fun _ => ?_) (fun q => absurd q (by decide))
                  refine M.run 1 (pc' := 292) (lv' := [some (vr o), some (vi ((op : Nat) : Int)), some (vi ((gTk L j).1)), some (vi ((gTk L j).2.1)), some (vi 0)]) (st' := [vi 0]) rfl ?_
                  exact M.zret rfl (Or.inl rfl) (Nat.zero_le _) (Nat.zero_le _) (by show PQ o L c1 c2 j ly m1 m2 f1 f2 fc fq w _ _ ((pOne L ly op fs fo fe) j); rw [pOne_v (by omega) (by omega) hR1]; exact ⟨rfl, hG1, hy1, _, _, hS1⟩)
              by_cases hs97_2 : (gTk L j).1 = 10
              · refine M.lsw (tgt := 293) (off := 196) rfl (qI (by omega)) (by decide) (by rw [hs97_2]; rfl) (by decide) ?_
                have hk300 := hx51 j (by omega)
                refine M.run 2 (pc' := 295) (lv' := [some (vr o), some (vi ((op : Nat) : Int)), some (vi ((gTk L j).1)), some (vi ((gTk L j).2.1)), some (vi 0)]) (st' := [vr o, vr o]) rfl ?_
                refine M.get fl_X3_38 rfl hP.1 (kf := 5) (v := vi ((j : Nat) : Int)) rfl ?_
                refine M.run 2 (pc' := 300) (lv' := [some (vr o), some (vi ((op : Nat) : Int)), some (vi ((gTk L j).1)), some (vi ((gTk L j).2.1)), some (vi 0)]) (st' := [vi (((j : Nat) : Int) + 1), vr o]) rfl ?_
                rw [show ((j : Nat) : Int) + 1 = ((j + 1 : Nat) : Int) from by omega]
                refine M.put fl_X3_38 rfl (hP.1) rfl rfl (Nat.le_of_ble_eq_true rfl) ?_
                change g 0 0 (up w o (Ob 2 [vr (o + 1), vr (o + 5), vr (o + 6), vi ((c1 : Nat) : Int), vi ((c2 : Nat) : Int), vi ((j + 1 : Nat) : Int), vi ly, vr m1, vr m2, vi f1, vi f2])) 303 [some (vr o), some (vi ((op : Nat) : Int)), some (vi ((gTk L j).1)), some (vi ((gTk L j).2.1)), some (vi 0)] []
                have hR383 : isRe o L c1 c2 (j + 1) ly m1 m2 f1 f2 fc fq (up w o (Ob 2 [vr (o + 1), vr (o + 5), vr (o + 6), vi ((c1 : Nat) : Int), vi ((c2 : Nat) : Int), vi ((j + 1 : Nat) : Int), vi ly, vr m1, vr m2, vi f1, vi f2])) := isRe_1 hP
                have hF383 : FrR o w (up w o (Ob 2 [vr (o + 1), vr (o + 5), vr (o + 6), vi ((c1 : Nat) : Int), vi ((c2 : Nat) : Int), vi ((j + 1 : Nat) : Int), vi ly, vr m1, vr m2, vi f1, vi f2])) := FrR.u FrR.rf o (by omega)
                generalize up w o (Ob 2 [vr (o + 1), vr (o + 5), vr (o + 6), vi ((c1 : Nat) : Int), vi ((c2 : Nat) : Int), vi ((j + 1 : Nat) : Int), vi ly, vr m1, vr m2, vi f1, vi f2]) = w383 at hR383 hF383 ⊢
                refine M.run 4 (pc' := 307) (lv' := [some (vr o), some (vi ((op : Nat) : Int)), some (vi ((gTk L j).1)), some (vi ((gTk L j).2.1)), some (vi 0)]) (st' := [vi (((op : Nat) : Int) + 1), vr o]) rfl ?_
                rw [show ((op : Nat) : Int) + 1 = ((op + 1 : Nat) : Int) from (by omega)]
                refine M.callV (he (by omega) c1 c2 (j + 1) m1 m2 f1 f2 fc fq (by omega) (by omega)) cv_X3_124 cd_X3_choice rfl (st := []) rfl (hR383.1) (by omega) (by decide) rfl (Nat.zero_le _) (Nat.zero_le _) hR383 (fun r384 w384 q384 => ?_)
                rcases hR1 : fe (j + 1) with ⟨e1, k1⟩ | ⟨s1, k1⟩
                · skip
                  rw [hR1] at q384
                  obtain ⟨hr1, hg1, ⟨hz1, hy1⟩, hK1, gc1, hS1, hC1, hU1⟩ := q384
                  rw [hr1]
                  have hG1 := FrR.tr hF383 hg1
                  exact M.zret rfl (Or.inr rfl) (Nat.zero_le _) (Nat.zero_le _) (by show PQ o L c1 c2 j ly m1 m2 f1 f2 fc fq w _ _ ((pOne L ly op fs fo fe) j); rw [pOne_i (by omega) (by omega), hR1]; exact ⟨rfl, hG1, ⟨by omega, hy1⟩, hK1, _, hS1, hC1, hU1⟩)
                · skip
                  rw [hR1] at q384
                  obtain ⟨hr1, hg1, hy1, dd1, gc1, hS1⟩ := q384
                  rw [hr1]
                  have hG1 := FrR.tr hF383 hg1
                  exact M.zret rfl (Or.inl rfl) (Nat.zero_le _) (Nat.zero_le _) (by show PQ o L c1 c2 j ly m1 m2 f1 f2 fc fq w _ _ ((pOne L ly op fs fo fe) j); rw [pOne_i (by omega) (by omega), hR1]; exact ⟨rfl, hG1, hy1, _, _, hS1⟩)
              by_cases hs97_3 : (gTk L j).1 = 35
              · refine M.lsw (tgt := 222) (off := 125) rfl (qI (by omega)) (by decide) (by rw [hs97_3]; rfl) (by decide) ?_
                have hk300 := hx51 j (by omega)
                refine M.run 2 (pc' := 224) (lv' := [some (vr o), some (vi ((op : Nat) : Int)), some (vi ((gTk L j).1)), some (vi ((gTk L j).2.1)), some (vi 0)]) (st' := [vr o, vr o]) rfl ?_
                refine M.get fl_X3_38 rfl hP.1 (kf := 5) (v := vi ((j : Nat) : Int)) rfl ?_
                refine M.run 2 (pc' := 229) (lv' := [some (vr o), some (vi ((op : Nat) : Int)), some (vi ((gTk L j).1)), some (vi ((gTk L j).2.1)), some (vi 0)]) (st' := [vi (((j : Nat) : Int) + 1), vr o]) rfl ?_
                rw [show ((j : Nat) : Int) + 1 = ((j + 1 : Nat) : Int) from by omega]
                refine M.put fl_X3_38 rfl (hP.1) rfl rfl (Nat.le_of_ble_eq_true rfl) ?_
                change g 0 0 (up w o (Ob 2 [vr (o + 1), vr (o + 5), vr (o + 6), vi ((c1 : Nat) : Int), vi ((c2 : Nat) : Int), vi ((j + 1 : Nat) : Int), vi ly, vr m1, vr m2, vi f1, vi f2])) 232 [some (vr o), some (vi ((op : Nat) : Int)), some (vi ((gTk L j).1)), some (vi ((gTk L j).2.1)), some (vi 0)] []
                have hR385 : isRe o L c1 c2 (j + 1) ly m1 m2 f1 f2 fc fq (up w o (Ob 2 [vr (o + 1), vr (o + 5), vr (o + 6), vi ((c1 : Nat) : Int), vi ((c2 : Nat) : Int), vi ((j + 1 : Nat) : Int), vi ly, vr m1, vr m2, vi f1, vi f2])) := isRe_1 hP
                have hF385 : FrR o w (up w o (Ob 2 [vr (o + 1), vr (o + 5), vr (o + 6), vi ((c1 : Nat) : Int), vi ((c2 : Nat) : Int), vi ((j + 1 : Nat) : Int), vi ly, vr m1, vr m2, vi f1, vi f2])) := FrR.u FrR.rf o (by omega)
                generalize up w o (Ob 2 [vr (o + 1), vr (o + 5), vr (o + 6), vi ((c1 : Nat) : Int), vi ((c2 : Nat) : Int), vi ((j + 1 : Nat) : Int), vi ly, vr m1, vr m2, vi f1, vi f2]) = w385 at hR385 hF385 ⊢
                refine M.run 4 (pc' := 236) (lv' := [some (vr o), some (vi ((op : Nat) : Int)), some (vi ((gTk L j).1)), some (vi ((gTk L j).2.1)), some (vi 0)]) (st' := [vi (((op : Nat) : Int) + 1), vr o]) rfl ?_
                rw [show ((op : Nat) : Int) + 1 = ((op + 1 : Nat) : Int) from (by omega)]
                refine M.callV (ho (by omega) c1 c2 (j + 1) m1 m2 f1 f2 fc fq (by omega) (by omega)) cv_X3_118 cd_X3_one rfl (st := []) rfl (hR385.1) (by omega) (by decide) rfl (Nat.zero_le _) (Nat.zero_le _) hR385 (fun r386 w386 q386 => ?_)
                rcases hR1 : fo (j + 1) with ⟨e1, k1⟩ | ⟨s1, k1⟩
                · skip
                  rw [hR1] at q386
                  obtain ⟨hr1, hg1, ⟨hz1, hy1⟩, hK1, gc1, hS1, hC1, hU1⟩ := q386
                  rw [hr1]
                  have hG1 := FrR.tr hF385 hg1
                  refine M.if_eq (tgt := 256) rfl (qI (by decide)) (by decide) (fun q => absurd q (by decide)) (fun _ => ?_)
                  refine M.run 3 (pc' := 246) (lv' := [some (vr o), some (vi ((op : Nat) : Int)), some (vi ((gTk L j).1)), some (vi ((gTk L j).2.1)), some (vi 0)]) (st' := [vi 0, vi 60, vr o]) rfl ?_
                  refine M.callV (kX3_emit l G o L (c1 + 2 * szE e1) c2 k1 ly m1 m2 f1 f2 gc1 fq (by omega) 60 0 (by omega) (by omega)) cv_X3_114 cd_X3_emit rfl (st := []) rfl hS1.1 (by omega) (by decide) rfl (Nat.zero_le _) (Nat.zero_le _) hS1 (fun r388 w389 q390 => ?_)
                  obtain ⟨q390r, hR387, q390f⟩ := q390
                  rw [q390r]
                  have hF387 : FrR o w w389 := FrR.tr hG1 q390f
                  refine M.if_eq (tgt := 256) rfl (qI (by decide)) (by decide) (fun q => absurd q (by decide)) (fun _ => ?_)
                  refine M.run 2 (pc' := 257) (lv' := [some (vr o), some (vi ((op : Nat) : Int)), some (vi ((gTk L j).1)), some (vi ((gTk L j).2.1)), some (vi 0)]) (st' := [vi 1]) rfl ?_
                  exact M.zret rfl (Or.inr rfl) (Nat.zero_le _) (Nat.zero_le _) (by show PQ o L c1 c2 j ly m1 m2 f1 f2 fc fq w _ _ ((pOne L ly op fs fo fe) j); rw [pOne_m (by omega) (by omega) hR1]; exact ⟨rfl, hF387, ⟨(by show szE e1 + 1 + j ≤ k1; omega), hy1⟩, okE_un hK1, _, (by have hq9 := hR387; rw [show c1 + 2 * szE e1 + 2 = c1 + 2 * szE (unE 60 e1) from by show _ = c1 + 2 * (szE e1 + 1); omega] at hq9; exact hq9), un_at hK1 hC1, fun i hi => by rw [uN_o (by omega), uN_o (by omega)]; exact hU1 i hi⟩)
                · skip
                  rw [hR1] at q386
                  obtain ⟨hr1, hg1, hy1, dd1, gc1, hS1⟩ := q386
                  rw [hr1]
                  have hG1 := FrR.tr hF385 hg1
                  refine M.if_eq (tgt := 256) rfl (qI (by decide)) (by decide) (fun _ => ?_) (fun q => absurd q (by decide))
                  refine M.run 1 (pc' := 257) (lv' := [some (vr o), some (vi ((op : Nat) : Int)), some (vi ((gTk L j).1)), some (vi ((gTk L j).2.1)), some (vi 0)]) (st' := [vi 0]) rfl ?_
                  exact M.zret rfl (Or.inl rfl) (Nat.zero_le _) (Nat.zero_le _) (by show PQ o L c1 c2 j ly m1 m2 f1 f2 fc fq w _ _ ((pOne L ly op fs fo fe) j); rw [pOne_n (by omega) (by omega) hR1]; exact ⟨rfl, hG1, hy1, _, _, hS1⟩)
              by_cases hs97_4 : (gTk L j).1 = 38
              · refine M.lsw (tgt := 187) (off := 90) rfl (qI (by omega)) (by decide) (by rw [hs97_4]; rfl) (by decide) ?_
                have hk300 := hx51 j (by omega)
                refine M.run 2 (pc' := 189) (lv' := [some (vr o), some (vi ((op : Nat) : Int)), some (vi ((gTk L j).1)), some (vi ((gTk L j).2.1)), some (vi 0)]) (st' := [vr o, vr o]) rfl ?_
                refine M.get fl_X3_38 rfl hP.1 (kf := 5) (v := vi ((j : Nat) : Int)) rfl ?_
                refine M.run 2 (pc' := 194) (lv' := [some (vr o), some (vi ((op : Nat) : Int)), some (vi ((gTk L j).1)), some (vi ((gTk L j).2.1)), some (vi 0)]) (st' := [vi (((j : Nat) : Int) + 1), vr o]) rfl ?_
                rw [show ((j : Nat) : Int) + 1 = ((j + 1 : Nat) : Int) from by omega]
                refine M.put fl_X3_38 rfl (hP.1) rfl rfl (Nat.le_of_ble_eq_true rfl) ?_
                change g 0 0 (up w o (Ob 2 [vr (o + 1), vr (o + 5), vr (o + 6), vi ((c1 : Nat) : Int), vi ((c2 : Nat) : Int), vi ((j + 1 : Nat) : Int), vi ly, vr m1, vr m2, vi f1, vi f2])) 197 [some (vr o), some (vi ((op : Nat) : Int)), some (vi ((gTk L j).1)), some (vi ((gTk L j).2.1)), some (vi 0)] []
                have hR392 : isRe o L c1 c2 (j + 1) ly m1 m2 f1 f2 fc fq (up w o (Ob 2 [vr (o + 1), vr (o + 5), vr (o + 6), vi ((c1 : Nat) : Int), vi ((c2 : Nat) : Int), vi ((j + 1 : Nat) : Int), vi ly, vr m1, vr m2, vi f1, vi f2])) := isRe_1 hP
                have hF392 : FrR o w (up w o (Ob 2 [vr (o + 1), vr (o + 5), vr (o + 6), vi ((c1 : Nat) : Int), vi ((c2 : Nat) : Int), vi ((j + 1 : Nat) : Int), vi ly, vr m1, vr m2, vi f1, vi f2])) := FrR.u FrR.rf o (by omega)
                generalize up w o (Ob 2 [vr (o + 1), vr (o + 5), vr (o + 6), vi ((c1 : Nat) : Int), vi ((c2 : Nat) : Int), vi ((j + 1 : Nat) : Int), vi ly, vr m1, vr m2, vi f1, vi f2]) = w392 at hR392 hF392 ⊢
                refine M.run 4 (pc' := 201) (lv' := [some (vr o), some (vi ((op : Nat) : Int)), some (vi ((gTk L j).1)), some (vi ((gTk L j).2.1)), some (vi 0)]) (st' := [vi (((op : Nat) : Int) + 1), vr o]) rfl ?_
                rw [show ((op : Nat) : Int) + 1 = ((op + 1 : Nat) : Int) from (by omega)]
                refine M.callV (hs (by omega) c1 c2 (j + 1) m1 m2 f1 f2 fc fq (by omega) (by omega)) cv_X3_89 cd_X3_sum rfl (st := []) rfl (hR392.1) (by omega) (by decide) rfl (Nat.zero_le _) (Nat.zero_le _) hR392 (fun r393 w393 q393 => ?_)
                rcases hR1 : fs (j + 1) with ⟨e1, k1⟩ | ⟨s1, k1⟩
                · skip
                  rw [hR1] at q393
                  obtain ⟨hr1, hg1, ⟨hz1, hy1⟩, hK1, gc1, hS1, hC1, hU1⟩ := q393
                  rw [hr1]
                  have hG1 := FrR.tr hF392 hg1
                  refine M.if_eq (tgt := 220) rfl (qI (by decide)) (by decide) (fun q => absurd q (by decide)) (fun _ => ?_)
                  refine M.run 2 (pc' := 210) (lv' := [some (vr o), some (vi ((op : Nat) : Int)), some (vi ((gTk L j).1)), some (vi ((gTk L j).2.1)), some (vi 0)]) (st' := [vi 39, vr o]) rfl ?_
                  refine M.callV (kX3_take l G o L (c1 + 2 * szE e1) c2 k1 ly m1 m2 f1 f2 gc1 fq (by omega) hB 39 (by omega)) cv_X3_92 cd_X3_take rfl (st := []) rfl (hS1.1) (by omega) (by decide) rfl (Nat.zero_le _) (Nat.zero_le _) hS1 (fun r394 w394 q394 => ?_)
                  by_cases hT1 : (gTk L k1).1 = 39
                  · skip
                    rw [if_pos hT1] at q394
                    obtain ⟨hr1_, hS1_, hg1_⟩ := q394
                    rw [hr1_]
                    have hG1_ := FrR.tr hG1 hg1_
                    have hk301 := hx51 k1 (by omega)
                    refine M.if_eq (tgt := 220) rfl (qI (by decide)) (by decide) (fun q => absurd q (by decide)) (fun _ => ?_)
                    refine M.run 2 (pc' := 221) (lv' := [some (vr o), some (vi ((op : Nat) : Int)), some (vi ((gTk L j).1)), some (vi ((gTk L j).2.1)), some (vi 0)]) (st' := [vi 1]) rfl ?_
                    exact M.zret rfl (Or.inr rfl) (Nat.zero_le _) (Nat.zero_le _) (by show PQ o L c1 c2 j ly m1 m2 f1 f2 fc fq w _ _ ((pOne L ly op fs fo fe) j); rw [pOne_b (by omega) (by omega) hR1 hT1]; exact ⟨rfl, hG1_, ⟨by omega, by omega⟩, hK1, _, hS1_, hC1, hU1⟩)
                  · skip
                    rw [if_neg hT1] at q394
                    obtain ⟨hr1_, hS1_, hg1_⟩ := q394
                    rw [hr1_]
                    have hG1_ := FrR.tr hG1 hg1_
                    refine M.if_eq (tgt := 220) rfl (qI (by decide)) (by decide) (fun _ => ?_) (fun q => absurd q (by decide))
                    refine M.run 1 (pc' := 221) (lv' := [some (vr o), some (vi ((op : Nat) : Int)), some (vi ((gTk L j).1)), some (vi ((gTk L j).2.1)), some (vi 0)]) (st' := [vi 0]) rfl ?_
                    exact M.zret rfl (Or.inl rfl) (Nat.zero_le _) (Nat.zero_le _) (by show PQ o L c1 c2 j ly m1 m2 f1 f2 fc fq w _ _ ((pOne L ly op fs fo fe) j); rw [pOne_c (by omega) (by omega) hR1 hT1]; exact ⟨rfl, hG1_, hy1, _, _, hS1_⟩)
                · skip
                  rw [hR1] at q393
                  obtain ⟨hr1, hg1, hy1, dd1, gc1, hS1⟩ := q393
                  rw [hr1]
                  have hG1 := FrR.tr hF392 hg1
                  refine M.if_eq (tgt := 220) rfl (qI (by decide)) (by decide) (fun _ => ?_) (fun q => absurd q (by decide))
                  refine M.run 1 (pc' := 221) (lv' := [some (vr o), some (vi ((op : Nat) : Int)), some (vi ((gTk L j).1)), some (vi ((gTk L j).2.1)), some (vi 0)]) (st' := [vi 0]) rfl ?_
                  exact M.zret rfl (Or.inl rfl) (Nat.zero_le _) (Nat.zero_le _) (by show PQ o L c1 c2 j ly m1 m2 f1 f2 fc fq w _ _ ((pOne L ly op fs fo fe) j); rw [pOne_e (by omega) (by omega) hR1]; exact ⟨rfl, hG1, hy1, _, _, hS1⟩)
              by_cases hs97_5 : (gTk L j).1 = 50
              · refine M.lsw (tgt := 156) (off := 59) rfl (qI (by omega)) (by decide) (by rw [hs97_5]; rfl) (by decide) ?_
                refine M.run 2 (pc' := 160) (lv' := [some (vr o), some (vi ((op : Nat) : Int)), some (vi ((gTk L j).1)), some (vi ((gTk L j).2.1)), some (vi 0)]) (st' := [vi 9999, vi ((gTk L j).2.1)]) rfl ?_
                refine M.icmp_le (tgt := 169) rfl (qI (by omega)) (qI (by decide)) (by decide) (fun h160 => ?_) (fun h160 => ?_)
                · skip
                  have hk300 := hx51 j (by omega)
                  refine M.run 2 (pc' := 171) (lv' := [some (vr o), some (vi ((op : Nat) : Int)), some (vi ((gTk L j).1)), some (vi ((gTk L j).2.1)), some (vi 0)]) (st' := [vr o, vr o]) rfl ?_
                  refine M.get fl_X3_38 rfl hP.1 (kf := 5) (v := vi ((j : Nat) : Int)) rfl ?_
                  refine M.run 2 (pc' := 176) (lv' := [some (vr o), some (vi ((op : Nat) : Int)), some (vi ((gTk L j).1)), some (vi ((gTk L j).2.1)), some (vi 0)]) (st' := [vi (((j : Nat) : Int) + 1), vr o]) rfl ?_
                  rw [show ((j : Nat) : Int) + 1 = ((j + 1 : Nat) : Int) from by omega]
                  refine M.put fl_X3_38 rfl (hP.1) rfl rfl (Nat.le_of_ble_eq_true rfl) ?_
                  change g 0 0 (up w o (Ob 2 [vr (o + 1), vr (o + 5), vr (o + 6), vi ((c1 : Nat) : Int), vi ((c2 : Nat) : Int), vi ((j + 1 : Nat) : Int), vi ly, vr m1, vr m2, vi f1, vi f2])) 179 [some (vr o), some (vi ((op : Nat) : Int)), some (vi ((gTk L j).1)), some (vi ((gTk L j).2.1)), some (vi 0)] []
                  have hR395 : isRe o L c1 c2 (j + 1) ly m1 m2 f1 f2 fc fq (up w o (Ob 2 [vr (o + 1), vr (o + 5), vr (o + 6), vi ((c1 : Nat) : Int), vi ((c2 : Nat) : Int), vi ((j + 1 : Nat) : Int), vi ly, vr m1, vr m2, vi f1, vi f2])) := isRe_1 hP
                  have hF395 : FrR o w (up w o (Ob 2 [vr (o + 1), vr (o + 5), vr (o + 6), vi ((c1 : Nat) : Int), vi ((c2 : Nat) : Int), vi ((j + 1 : Nat) : Int), vi ly, vr m1, vr m2, vi f1, vi f2])) := FrR.u FrR.rf o (by omega)
                  generalize up w o (Ob 2 [vr (o + 1), vr (o + 5), vr (o + 6), vi ((c1 : Nat) : Int), vi ((c2 : Nat) : Int), vi ((j + 1 : Nat) : Int), vi ly, vr m1, vr m2, vi f1, vi f2]) = w395 at hR395 hF395 ⊢
                  refine M.run 3 (pc' := 183) (lv' := [some (vr o), some (vi ((op : Nat) : Int)), some (vi ((gTk L j).1)), some (vi ((gTk L j).2.1)), some (vi 0)]) (st' := [vi ((gTk L j).2.1), vi 50, vr o]) rfl ?_
                  refine M.callV (kX3_emit l G o L c1 c2 (j + 1) ly m1 m2 f1 f2 fc fq (by omega) 50 ((gTk L j).2.1) (by omega) (by omega)) cv_X3_114 cd_X3_emit rfl (st := []) rfl hR395.1 (by omega) (by decide) rfl (Nat.zero_le _) (Nat.zero_le _) hR395 (fun r397 w398 q399 => ?_)
                  obtain ⟨q399r, hR396, q399f⟩ := q399
                  rw [q399r]
                  have hF396 : FrR o w w398 := FrR.tr hF395 q399f
                  exact M.zret rfl (Or.inr rfl) (Nat.zero_le _) (Nat.zero_le _) (by show PQ o L c1 c2 j ly m1 m2 f1 f2 fc fq w _ _ ((pOne L ly op fs fo fe) j); rw [pOne_f (by omega) (by omega)]; exact ⟨rfl, hF396, ⟨(by show 1 + j ≤ j + 1; omega), by omega⟩, okE_lf, _, hR396, lf_at, fun i hi => by rw [uN_o (by omega), uN_o (by omega)]⟩)
                · skip
                  refine M.run 2 (pc' := 165) (lv' := [some (vr o), some (vi ((op : Nat) : Int)), some (vi ((gTk L j).1)), some (vi ((gTk L j).2.1)), some (vi 0)]) (st' := [vi 2, vr o]) rfl ?_
                  refine M.callV (kX3_refuse l G o L c1 c2 j ly m1 m2 f1 f2 fc fq (by omega) hB 2 (by omega)) cv_X3_73 cd_X3_refuse rfl (st := []) rfl hP.1 (by omega) (by decide) rfl (Nat.zero_le _) (Nat.zero_le _) hP (fun r402 w403 q404 => ?_)
                  obtain ⟨q404r, hR401, q404f⟩ := q404
                  rw [q404r]
                  have hF401 : FrR o w w403 := FrR.tr FrR.rf q404f
                  exact M.zret rfl (Or.inl rfl) (Nat.zero_le _) (Nat.zero_le _) (by show PQ o L c1 c2 j ly m1 m2 f1 f2 fc fq w _ _ ((pOne L ly op fs fo fe) j); rw [pOne_g (by omega) (by omega)]; exact ⟨rfl, hF401, hj, _, _, hR401⟩)
              refine M.lsw (tgt := 311) (off := 214) rfl (qI (by omega)) (by decide) (by rw [Op.lookupswitch.offset_cons, if_neg (fun q => hs97_0 q.symm), Op.lookupswitch.offset_cons, if_neg (fun q => hs97_1 q.symm), Op.lookupswitch.offset_cons, if_neg (fun q => hs97_2 q.symm), Op.lookupswitch.offset_cons, if_neg (fun q => hs97_3 q.symm), Op.lookupswitch.offset_cons, if_neg (fun q => hs97_4 q.symm), Op.lookupswitch.offset_cons, if_neg (fun q => hs97_5 q.symm)]; rfl) (by decide) ?_
              refine M.run 2 (pc' := 313) (lv' := [some (vr o), some (vi ((op : Nat) : Int)), some (vi ((gTk L j).1)), some (vi ((gTk L j).2.1)), some (vi 0)]) (st' := [vi 1, vr o]) rfl ?_
              refine M.callV (kX3_refuse l G o L c1 c2 j ly m1 m2 f1 f2 fc fq (by omega) hB 1 (by omega)) cv_X3_73 cd_X3_refuse rfl (st := []) rfl hP.1 (by omega) (by decide) rfl (Nat.zero_le _) (Nat.zero_le _) hP (fun r407 w408 q409 => ?_)
              obtain ⟨q409r, hR406, q409f⟩ := q409
              rw [q409r]
              have hF406 : FrR o w w408 := FrR.tr FrR.rf q409f
              exact M.zret rfl (Or.inl rfl) (Nat.zero_le _) (Nat.zero_le _) (by show PQ o L c1 c2 j ly m1 m2 f1 f2 fc fq w _ _ ((pOne L ly op fs fo fe) j); rw [pOne_o (by omega) (by omega) (by omega)]; exact ⟨rfl, hF406, hj, _, _, hR406⟩)
            · skip
              refine M.run 2 (pc' := 87) (lv' := [some (vr o), some (vi ((op : Nat) : Int)), some (vi ((gTk L j).1)), some (vi ((gTk L j).2.1)), some (vi 0)]) (st' := [vi 23, vi ((gTk L j).1)]) rfl ?_
              refine M.icmp_gt (tgt := 96) rfl (qI (by omega)) (qI (by decide)) (by decide) (fun h87 => ?_) (fun h87 => ?_)
              · skip
                refine M.run 1 (pc' := 97) (lv' := [some (vr o), some (vi ((op : Nat) : Int)), some (vi ((gTk L j).1)), some (vi ((gTk L j).2.1)), some (vi 0)]) (st' := [vi ((gTk L j).1)]) rfl ?_
                by_cases hs97_0 : (gTk L j).1 = 8
                · refine M.lsw (tgt := 258) (off := 161) rfl (qI (by omega)) (by decide) (by rw [hs97_0]; rfl) (by decide) ?_
                  have hk300 := hx51 j (by omega)
                  refine M.run 2 (pc' := 260) (lv' := [some (vr o), some (vi ((op : Nat) : Int)), some (vi ((gTk L j).1)), some (vi ((gTk L j).2.1)), some (vi 0)]) (st' := [vr o, vr o]) rfl ?_
                  refine M.get fl_X3_38 rfl hP.1 (kf := 5) (v := vi ((j : Nat) : Int)) rfl ?_
                  refine M.run 2 (pc' := 265) (lv' := [some (vr o), some (vi ((op : Nat) : Int)), some (vi ((gTk L j).1)), some (vi ((gTk L j).2.1)), some (vi 0)]) (st' := [vi (((j : Nat) : Int) + 1), vr o]) rfl ?_
                  rw [show ((j : Nat) : Int) + 1 = ((j + 1 : Nat) : Int) from by omega]
                  refine M.put fl_X3_38 rfl (hP.1) rfl rfl (Nat.le_of_ble_eq_true rfl) ?_
                  change g 0 0 (up w o (Ob 2 [vr (o + 1), vr (o + 5), vr (o + 6), vi ((c1 : Nat) : Int), vi ((c2 : Nat) : Int), vi ((j + 1 : Nat) : Int), vi ly, vr m1, vr m2, vi f1, vi f2])) 268 [some (vr o), some (vi ((op : Nat) : Int)), some (vi ((gTk L j).1)), some (vi ((gTk L j).2.1)), some (vi 0)] []
                  have hR411 : isRe o L c1 c2 (j + 1) ly m1 m2 f1 f2 fc fq (up w o (Ob 2 [vr (o + 1), vr (o + 5), vr (o + 6), vi ((c1 : Nat) : Int), vi ((c2 : Nat) : Int), vi ((j + 1 : Nat) : Int), vi ly, vr m1, vr m2, vi f1, vi f2])) := isRe_1 hP
                  have hF411 : FrR o w (up w o (Ob 2 [vr (o + 1), vr (o + 5), vr (o + 6), vi ((c1 : Nat) : Int), vi ((c2 : Nat) : Int), vi ((j + 1 : Nat) : Int), vi ly, vr m1, vr m2, vi f1, vi f2])) := FrR.u FrR.rf o (by omega)
                  generalize up w o (Ob 2 [vr (o + 1), vr (o + 5), vr (o + 6), vi ((c1 : Nat) : Int), vi ((c2 : Nat) : Int), vi ((j + 1 : Nat) : Int), vi ly, vr m1, vr m2, vi f1, vi f2]) = w411 at hR411 hF411 ⊢
                  refine M.run 4 (pc' := 272) (lv' := [some (vr o), some (vi ((op : Nat) : Int)), some (vi ((gTk L j).1)), some (vi ((gTk L j).2.1)), some (vi 0)]) (st' := [vi (((op : Nat) : Int) + 1), vr o]) rfl ?_
                  rw [show ((op : Nat) : Int) + 1 = ((op + 1 : Nat) : Int) from (by omega)]
                  refine M.callV (ho (by omega) c1 c2 (j + 1) m1 m2 f1 f2 fc fq (by omega) (by omega)) cv_X3_118 cd_X3_one rfl (st := []) rfl (hR411.1) (by omega) (by decide) rfl (Nat.zero_le _) (Nat.zero_le _) hR411 (fun r412 w412 q412 => ?_)
                  rcases hR1 : fo (j + 1) with ⟨e1, k1⟩ | ⟨s1, k1⟩
                  · skip
                    rw [hR1] at q412
                    obtain ⟨hr1, hg1, ⟨hz1, hy1⟩, hK1, gc1, hS1, hC1, hU1⟩ := q412
                    rw [hr1]
                    have hG1 := FrR.tr hF411 hg1
                    refine M.if_eq (tgt := 291) rfl (qI (by decide)) (by decide) (fun q => absurd q (by decide)) (fun _ => ?_)
                    refine M.run 3 (pc' := 281) (lv' := [some (vr o), some (vi ((op : Nat) : Int)), some (vi ((gTk L j).1)), some (vi ((gTk L j).2.1)), some (vi 0)]) (st' := [vi 0, vi ((gTk L j).1), vr o]) rfl ?_
                    refine M.callV (kX3_emit l G o L (c1 + 2 * szE e1) c2 k1 ly m1 m2 f1 f2 gc1 fq (by omega) ((gTk L j).1) 0 (by omega) (by omega)) cv_X3_114 cd_X3_emit rfl (st := []) rfl hS1.1 (by omega) (by decide) rfl (Nat.zero_le _) (Nat.zero_le _) hS1 (fun r414 w415 q416 => ?_)
                    obtain ⟨q416r, hR413, q416f⟩ := q416
                    rw [q416r]
                    have hF413 : FrR o w w415 := FrR.tr hG1 q416f
                    refine M.if_eq (tgt := 291) rfl (qI (by decide)) (by decide) (fun q => absurd q (by decide)) (fun _ => ?_)
                    refine M.run 2 (pc' := 292) (lv' := [some (vr o), some (vi ((op : Nat) : Int)), some (vi ((gTk L j).1)), some (vi ((gTk L j).2.1)), some (vi 0)]) (st' := [vi 1]) rfl ?_
                    exact M.zret rfl (Or.inr rfl) (Nat.zero_le _) (Nat.zero_le _) (by show PQ o L c1 c2 j ly m1 m2 f1 f2 fc fq w _ _ ((pOne L ly op fs fo fe) j); rw [pOne_u (by omega) (by omega) hR1]; exact ⟨rfl, hF413, ⟨(by show szE e1 + 1 + j ≤ k1; omega), hy1⟩, okE_un hK1, _, (by have hq9 := hR413; rw [show c1 + 2 * szE e1 + 2 = c1 + 2 * szE (unE (gTk L j).1 e1) from by show _ = c1 + 2 * (szE e1 + 1); omega] at hq9; exact hq9), un_at hK1 hC1, fun i hi => by rw [uN_o (by omega), uN_o (by omega)]; exact hU1 i hi⟩)
                  · skip
                    rw [hR1] at q412
                    obtain ⟨hr1, hg1, hy1, dd1, gc1, hS1⟩ := q412
                    rw [hr1]
                    have hG1 := FrR.tr hF411 hg1
                    refine M.if_eq (tgt := 291) rfl (qI (by decide)) (by decide) (fun _ => ?_) (fun q => absurd q (by decide))
                    refine M.run 1 (pc' := 292) (lv' := [some (vr o), some (vi ((op : Nat) : Int)), some (vi ((gTk L j).1)), some (vi ((gTk L j).2.1)), some (vi 0)]) (st' := [vi 0]) rfl ?_
                    exact M.zret rfl (Or.inl rfl) (Nat.zero_le _) (Nat.zero_le _) (by show PQ o L c1 c2 j ly m1 m2 f1 f2 fc fq w _ _ ((pOne L ly op fs fo fe) j); rw [pOne_v (by omega) (by omega) hR1]; exact ⟨rfl, hG1, hy1, _, _, hS1⟩)
                by_cases hs97_1 : (gTk L j).1 = 9
                · refine M.lsw (tgt := 258) (off := 161) rfl (qI (by omega)) (by decide) (by rw [hs97_1]; rfl) (by decide) ?_
                  have hk300 := hx51 j (by omega)
                  refine M.run 2 (pc' := 260) (lv' := [some (vr o), some (vi ((op : Nat) : Int)), some (vi ((gTk L j).1)), some (vi ((gTk L j).2.1)), some (vi 0)]) (st' := [vr o, vr o]) rfl ?_
                  refine M.get fl_X3_38 rfl hP.1 (kf := 5) (v := vi ((j : Nat) : Int)) rfl ?_
                  refine M.run 2 (pc' := 265) (lv' := [some (vr o), some (vi ((op : Nat) : Int)), some (vi ((gTk L j).1)), some (vi ((gTk L j).2.1)), some (vi 0)]) (st' := [vi (((j : Nat) : Int) + 1), vr o]) rfl ?_
                  rw [show ((j : Nat) : Int) + 1 = ((j + 1 : Nat) : Int) from by omega]
                  refine M.put fl_X3_38 rfl (hP.1) rfl rfl (Nat.le_of_ble_eq_true rfl) ?_
                  change g 0 0 (up w o (Ob 2 [vr (o + 1), vr (o + 5), vr (o + 6), vi ((c1 : Nat) : Int), vi ((c2 : Nat) : Int), vi ((j + 1 : Nat) : Int), vi ly, vr m1, vr m2, vi f1, vi f2])) 268 [some (vr o), some (vi ((op : Nat) : Int)), some (vi ((gTk L j).1)), some (vi ((gTk L j).2.1)), some (vi 0)] []
                  have hR418 : isRe o L c1 c2 (j + 1) ly m1 m2 f1 f2 fc fq (up w o (Ob 2 [vr (o + 1), vr (o + 5), vr (o + 6), vi ((c1 : Nat) : Int), vi ((c2 : Nat) : Int), vi ((j + 1 : Nat) : Int), vi ly, vr m1, vr m2, vi f1, vi f2])) := isRe_1 hP
                  have hF418 : FrR o w (up w o (Ob 2 [vr (o + 1), vr (o + 5), vr (o + 6), vi ((c1 : Nat) : Int), vi ((c2 : Nat) : Int), vi ((j + 1 : Nat) : Int), vi ly, vr m1, vr m2, vi f1, vi f2])) := FrR.u FrR.rf o (by omega)
                  generalize up w o (Ob 2 [vr (o + 1), vr (o + 5), vr (o + 6), vi ((c1 : Nat) : Int), vi ((c2 : Nat) : Int), vi ((j + 1 : Nat) : Int), vi ly, vr m1, vr m2, vi f1, vi f2]) = w418 at hR418 hF418 ⊢
                  refine M.run 4 (pc' := 272) (lv' := [some (vr o), some (vi ((op : Nat) : Int)), some (vi ((gTk L j).1)), some (vi ((gTk L j).2.1)), some (vi 0)]) (st' := [vi (((op : Nat) : Int) + 1), vr o]) rfl ?_
                  rw [show ((op : Nat) : Int) + 1 = ((op + 1 : Nat) : Int) from (by omega)]
                  refine M.callV (ho (by omega) c1 c2 (j + 1) m1 m2 f1 f2 fc fq (by omega) (by omega)) cv_X3_118 cd_X3_one rfl (st := []) rfl (hR418.1) (by omega) (by decide) rfl (Nat.zero_le _) (Nat.zero_le _) hR418 (fun r419 w419 q419 => ?_)
                  rcases hR1 : fo (j + 1) with ⟨e1, k1⟩ | ⟨s1, k1⟩
                  · skip
                    rw [hR1] at q419
                    obtain ⟨hr1, hg1, ⟨hz1, hy1⟩, hK1, gc1, hS1, hC1, hU1⟩ := q419
                    rw [hr1]
                    have hG1 := FrR.tr hF418 hg1
                    refine M.if_eq (tgt := 291) rfl (qI (by decide)) (by decide) (fun q => absurd q (by decide)) (fun _ => ?_)
                    refine M.run 3 (pc' := 281) (lv' := [some (vr o), some (vi ((op : Nat) : Int)), some (vi ((gTk L j).1)), some (vi ((gTk L j).2.1)), some (vi 0)]) (st' := [vi 0, vi ((gTk L j).1), vr o]) rfl ?_
                    refine M.callV (kX3_emit l G o L (c1 + 2 * szE e1) c2 k1 ly m1 m2 f1 f2 gc1 fq (by omega) ((gTk L j).1) 0 (by omega) (by omega)) cv_X3_114 cd_X3_emit rfl (st := []) rfl hS1.1 (by omega) (by decide) rfl (Nat.zero_le _) (Nat.zero_le _) hS1 (fun r421 w422 q423 => ?_)
                    obtain ⟨q423r, hR420, q423f⟩ := q423
                    rw [q423r]
                    have hF420 : FrR o w w422 := FrR.tr hG1 q423f
                    refine M.if_eq (tgt := 291) rfl (qI (by decide)) (by decide) (fun q => absurd q (by decide)) (fun _ => ?_)
                    refine M.run 2 (pc' := 292) (lv' := [some (vr o), some (vi ((op : Nat) : Int)), some (vi ((gTk L j).1)), some (vi ((gTk L j).2.1)), some (vi 0)]) (st' := [vi 1]) rfl ?_
                    exact M.zret rfl (Or.inr rfl) (Nat.zero_le _) (Nat.zero_le _) (by show PQ o L c1 c2 j ly m1 m2 f1 f2 fc fq w _ _ ((pOne L ly op fs fo fe) j); rw [pOne_u (by omega) (by omega) hR1]; exact ⟨rfl, hF420, ⟨(by show szE e1 + 1 + j ≤ k1; omega), hy1⟩, okE_un hK1, _, (by have hq9 := hR420; rw [show c1 + 2 * szE e1 + 2 = c1 + 2 * szE (unE (gTk L j).1 e1) from by show _ = c1 + 2 * (szE e1 + 1); omega] at hq9; exact hq9), un_at hK1 hC1, fun i hi => by rw [uN_o (by omega), uN_o (by omega)]; exact hU1 i hi⟩)
                  · skip
                    rw [hR1] at q419
                    obtain ⟨hr1, hg1, hy1, dd1, gc1, hS1⟩ := q419
                    rw [hr1]
                    have hG1 := FrR.tr hF418 hg1
                    refine M.if_eq (tgt := 291) rfl (qI (by decide)) (by decide) (fun _ => ?_) (fun q => absurd q (by decide))
                    refine M.run 1 (pc' := 292) (lv' := [some (vr o), some (vi ((op : Nat) : Int)), some (vi ((gTk L j).1)), some (vi ((gTk L j).2.1)), some (vi 0)]) (st' := [vi 0]) rfl ?_
                    exact M.zret rfl (Or.inl rfl) (Nat.zero_le _) (Nat.zero_le _) (by show PQ o L c1 c2 j ly m1 m2 f1 f2 fc fq w _ _ ((pOne L ly op fs fo fe) j); rw [pOne_v (by omega) (by omega) hR1]; exact ⟨rfl, hG1, hy1, _, _, hS1⟩)
                by_cases hs97_2 : (gTk L j).1 = 10
                · refine M.lsw (tgt := 293) (off := 196) rfl (qI (by omega)) (by decide) (by rw [hs97_2]; rfl) (by decide) ?_
                  have hk300 := hx51 j (by omega)
                  refine M.run 2 (pc' := 295) (lv' := [some (vr o), some (vi ((op : Nat) : Int)), some (vi ((gTk L j).1)), some (vi ((gTk L j).2.1)), some (vi 0)]) (st' := [vr o, vr o]) rfl ?_
                  refine M.get fl_X3_38 rfl hP.1 (kf := 5) (v := vi ((j : Nat) : Int)) rfl ?_
                  refine M.run 2 (pc' := 300) (lv' := [some (vr o), some (vi ((op : Nat) : Int)), some (vi ((gTk L j).1)), some (vi ((gTk L j).2.1)), some (vi 0)]) (st' := [vi (((j : Nat) : Int) + 1), vr o]) rfl ?_
                  rw [show ((j : Nat) : Int) + 1 = ((j + 1 : Nat) : Int) from by omega]
                  refine M.put fl_X3_38 rfl (hP.1) rfl rfl (Nat.le_of_ble_eq_true rfl) ?_
                  change g 0 0 (up w o (Ob 2 [vr (o + 1), vr (o + 5), vr (o + 6), vi ((c1 : Nat) : Int), vi ((c2 : Nat) : Int), vi ((j + 1 : Nat) : Int), vi ly, vr m1, vr m2, vi f1, vi f2])) 303 [some (vr o), some (vi ((op : Nat) : Int)), some (vi ((gTk L j).1)), some (vi ((gTk L j).2.1)), some (vi 0)] []
                  have hR425 : isRe o L c1 c2 (j + 1) ly m1 m2 f1 f2 fc fq (up w o (Ob 2 [vr (o + 1), vr (o + 5), vr (o + 6), vi ((c1 : Nat) : Int), vi ((c2 : Nat) : Int), vi ((j + 1 : Nat) : Int), vi ly, vr m1, vr m2, vi f1, vi f2])) := isRe_1 hP
                  have hF425 : FrR o w (up w o (Ob 2 [vr (o + 1), vr (o + 5), vr (o + 6), vi ((c1 : Nat) : Int), vi ((c2 : Nat) : Int), vi ((j + 1 : Nat) : Int), vi ly, vr m1, vr m2, vi f1, vi f2])) := FrR.u FrR.rf o (by omega)
                  generalize up w o (Ob 2 [vr (o + 1), vr (o + 5), vr (o + 6), vi ((c1 : Nat) : Int), vi ((c2 : Nat) : Int), vi ((j + 1 : Nat) : Int), vi ly, vr m1, vr m2, vi f1, vi f2]) = w425 at hR425 hF425 ⊢
                  refine M.run 4 (pc' := 307) (lv' := [some (vr o), some (vi ((op : Nat) : Int)), some (vi ((gTk L j).1)), some (vi ((gTk L j).2.1)), some (vi 0)]) (st' := [vi (((op : Nat) : Int) + 1), vr o]) rfl ?_
                  rw [show ((op : Nat) : Int) + 1 = ((op + 1 : Nat) : Int) from (by omega)]
                  refine M.callV (he (by omega) c1 c2 (j + 1) m1 m2 f1 f2 fc fq (by omega) (by omega)) cv_X3_124 cd_X3_choice rfl (st := []) rfl (hR425.1) (by omega) (by decide) rfl (Nat.zero_le _) (Nat.zero_le _) hR425 (fun r426 w426 q426 => ?_)
                  rcases hR1 : fe (j + 1) with ⟨e1, k1⟩ | ⟨s1, k1⟩
                  · skip
                    rw [hR1] at q426
                    obtain ⟨hr1, hg1, ⟨hz1, hy1⟩, hK1, gc1, hS1, hC1, hU1⟩ := q426
                    rw [hr1]
                    have hG1 := FrR.tr hF425 hg1
                    exact M.zret rfl (Or.inr rfl) (Nat.zero_le _) (Nat.zero_le _) (by show PQ o L c1 c2 j ly m1 m2 f1 f2 fc fq w _ _ ((pOne L ly op fs fo fe) j); rw [pOne_i (by omega) (by omega), hR1]; exact ⟨rfl, hG1, ⟨by omega, hy1⟩, hK1, _, hS1, hC1, hU1⟩)
                  · skip
                    rw [hR1] at q426
                    obtain ⟨hr1, hg1, hy1, dd1, gc1, hS1⟩ := q426
                    rw [hr1]
                    have hG1 := FrR.tr hF425 hg1
                    exact M.zret rfl (Or.inl rfl) (Nat.zero_le _) (Nat.zero_le _) (by show PQ o L c1 c2 j ly m1 m2 f1 f2 fc fq w _ _ ((pOne L ly op fs fo fe) j); rw [pOne_i (by omega) (by omega), hR1]; exact ⟨rfl, hG1, hy1, _, _, hS1⟩)
                by_cases hs97_3 : (gTk L j).1 = 35
                · refine M.lsw (tgt := 222) (off := 125) rfl (qI (by omega)) (by decide) (by rw [hs97_3]; rfl) (by decide) ?_
                  have hk300 := hx51 j (by omega)
                  refine M.run 2 (pc' := 224) (lv' := [some (vr o), some (vi ((op : Nat) : Int)), some (vi ((gTk L j).1)), some (vi ((gTk L j).2.1)), some (vi 0)]) (st' := [vr o, vr o]) rfl ?_
                  refine M.get fl_X3_38 rfl hP.1 (kf := 5) (v := vi ((j : Nat) : Int)) rfl ?_
                  refine M.run 2 (pc' := 229) (lv' := [some (vr o), some (vi ((op : Nat) : Int)), some (vi ((gTk L j).1)), some (vi ((gTk L j).2.1)), some (vi 0)]) (st' := [vi (((j : Nat) : Int) + 1), vr o]) rfl ?_
                  rw [show ((j : Nat) : Int) + 1 = ((j + 1 : Nat) : Int) from by omega]
                  refine M.put fl_X3_38 rfl (hP.1) rfl rfl (Nat.le_of_ble_eq_true rfl) ?_
                  change g 0 0 (up w o (Ob 2 [vr (o + 1), vr (o + 5), vr (o + 6), vi ((c1 : Nat) : Int), vi ((c2 : Nat) : Int), vi ((j + 1 : Nat) : Int), vi ly, vr m1, vr m2, vi f1, vi f2])) 232 [some (vr o), some (vi ((op : Nat) : Int)), some (vi ((gTk L j).1)), some (vi ((gTk L j).2.1)), some (vi 0)] []
                  have hR427 : isRe o L c1 c2 (j + 1) ly m1 m2 f1 f2 fc fq (up w o (Ob 2 [vr (o + 1), vr (o + 5), vr (o + 6), vi ((c1 : Nat) : Int), vi ((c2 : Nat) : Int), vi ((j + 1 : Nat) : Int), vi ly, vr m1, vr m2, vi f1, vi f2])) := isRe_1 hP
                  have hF427 : FrR o w (up w o (Ob 2 [vr (o + 1), vr (o + 5), vr (o + 6), vi ((c1 : Nat) : Int), vi ((c2 : Nat) : Int), vi ((j + 1 : Nat) : Int), vi ly, vr m1, vr m2, vi f1, vi f2])) := FrR.u FrR.rf o (by omega)
                  generalize up w o (Ob 2 [vr (o + 1), vr (o + 5), vr (o + 6), vi ((c1 : Nat) : Int), vi ((c2 : Nat) : Int), vi ((j + 1 : Nat) : Int), vi ly, vr m1, vr m2, vi f1, vi f2]) = w427 at hR427 hF427 ⊢
                  refine M.run 4 (pc' := 236) (lv' := [some (vr o), some (vi ((op : Nat) : Int)), some (vi ((gTk L j).1)), some (vi ((gTk L j).2.1)), some (vi 0)]) (st' := [vi (((op : Nat) : Int) + 1), vr o]) rfl ?_
                  rw [show ((op : Nat) : Int) + 1 = ((op + 1 : Nat) : Int) from (by omega)]
                  refine M.callV (ho (by omega) c1 c2 (j + 1) m1 m2 f1 f2 fc fq (by omega) (by omega)) cv_X3_118 cd_X3_one rfl (st := []) rfl (hR427.1) (by omega) (by decide) rfl (Nat.zero_le _) (Nat.zero_le _) hR427 (fun r428 w428 q428 => ?_)
                  rcases hR1 : fo (j + 1) with ⟨e1, k1⟩ | ⟨s1, k1⟩
                  · skip
                    rw [hR1] at q428
                    obtain ⟨hr1, hg1, ⟨hz1, hy1⟩, hK1, gc1, hS1, hC1, hU1⟩ := q428
                    rw [hr1]
                    have hG1 := FrR.tr hF427 hg1
                    refine M.if_eq (tgt := 256) rfl (qI (by decide)) (by decide) (fun q => absurd q (by decide)) (fun _ => ?_)
                    refine M.run 3 (pc' := 246) (lv' := [some (vr o), some (vi ((op : Nat) : Int)), some (vi ((gTk L j).1)), some (vi ((gTk L j).2.1)), some (vi 0)]) (st' := [vi 0, vi 60, vr o]) rfl ?_
                    refine M.callV (kX3_emit l G o L (c1 + 2 * szE e1) c2 k1 ly m1 m2 f1 f2 gc1 fq (by omega) 60 0 (by omega) (by omega)) cv_X3_114 cd_X3_emit rfl (st := []) rfl hS1.1 (by omega) (by decide) rfl (Nat.zero_le _) (Nat.zero_le _) hS1 (fun r430 w431 q432 => ?_)
                    obtain ⟨q432r, hR429, q432f⟩ := q432
                    rw [q432r]
                    have hF429 : FrR o w w431 := FrR.tr hG1 q432f
                    refine M.if_eq (tgt := 256) rfl (qI (by decide)) (by decide) (fun q => absurd q (by decide)) (fun _ => ?_)
                    refine M.run 2 (pc' := 257) (lv' := [some (vr o), some (vi ((op : Nat) : Int)), some (vi ((gTk L j).1)), some (vi ((gTk L j).2.1)), some (vi 0)]) (st' := [vi 1]) rfl ?_
                    exact M.zret rfl (Or.inr rfl) (Nat.zero_le _) (Nat.zero_le _) (by show PQ o L c1 c2 j ly m1 m2 f1 f2 fc fq w _ _ ((pOne L ly op fs fo fe) j); rw [pOne_m (by omega) (by omega) hR1]; exact ⟨rfl, hF429, ⟨(by show szE e1 + 1 + j ≤ k1; omega), hy1⟩, okE_un hK1, _, (by have hq9 := hR429; rw [show c1 + 2 * szE e1 + 2 = c1 + 2 * szE (unE 60 e1) from by show _ = c1 + 2 * (szE e1 + 1); omega] at hq9; exact hq9), un_at hK1 hC1, fun i hi => by rw [uN_o (by omega), uN_o (by omega)]; exact hU1 i hi⟩)
                  · skip
                    rw [hR1] at q428
                    obtain ⟨hr1, hg1, hy1, dd1, gc1, hS1⟩ := q428
                    rw [hr1]
                    have hG1 := FrR.tr hF427 hg1
                    refine M.if_eq (tgt := 256) rfl (qI (by decide)) (by decide) (fun _ => ?_) (fun q => absurd q (by decide))
                    refine M.run 1 (pc' := 257) (lv' := [some (vr o), some (vi ((op : Nat) : Int)), some (vi ((gTk L j).1)), some (vi ((gTk L j).2.1)), some (vi 0)]) (st' := [vi 0]) rfl ?_
                    exact M.zret rfl (Or.inl rfl) (Nat.zero_le _) (Nat.zero_le _) (by show PQ o L c1 c2 j ly m1 m2 f1 f2 fc fq w _ _ ((pOne L ly op fs fo fe) j); rw [pOne_n (by omega) (by omega) hR1]; exact ⟨rfl, hG1, hy1, _, _, hS1⟩)
                by_cases hs97_4 : (gTk L j).1 = 38
                · refine M.lsw (tgt := 187) (off := 90) rfl (qI (by omega)) (by decide) (by rw [hs97_4]; rfl) (by decide) ?_
                  have hk300 := hx51 j (by omega)
                  refine M.run 2 (pc' := 189) (lv' := [some (vr o), some (vi ((op : Nat) : Int)), some (vi ((gTk L j).1)), some (vi ((gTk L j).2.1)), some (vi 0)]) (st' := [vr o, vr o]) rfl ?_
                  refine M.get fl_X3_38 rfl hP.1 (kf := 5) (v := vi ((j : Nat) : Int)) rfl ?_
                  refine M.run 2 (pc' := 194) (lv' := [some (vr o), some (vi ((op : Nat) : Int)), some (vi ((gTk L j).1)), some (vi ((gTk L j).2.1)), some (vi 0)]) (st' := [vi (((j : Nat) : Int) + 1), vr o]) rfl ?_
                  rw [show ((j : Nat) : Int) + 1 = ((j + 1 : Nat) : Int) from by omega]
                  refine M.put fl_X3_38 rfl (hP.1) rfl rfl (Nat.le_of_ble_eq_true rfl) ?_
                  change g 0 0 (up w o (Ob 2 [vr (o + 1), vr (o + 5), vr (o + 6), vi ((c1 : Nat) : Int), vi ((c2 : Nat) : Int), vi ((j + 1 : Nat) : Int), vi ly, vr m1, vr m2, vi f1, vi f2])) 197 [some (vr o), some (vi ((op : Nat) : Int)), some (vi ((gTk L j).1)), some (vi ((gTk L j).2.1)), some (vi 0)] []
                  have hR434 : isRe o L c1 c2 (j + 1) ly m1 m2 f1 f2 fc fq (up w o (Ob 2 [vr (o + 1), vr (o + 5), vr (o + 6), vi ((c1 : Nat) : Int), vi ((c2 : Nat) : Int), vi ((j + 1 : Nat) : Int), vi ly, vr m1, vr m2, vi f1, vi f2])) := isRe_1 hP
                  have hF434 : FrR o w (up w o (Ob 2 [vr (o + 1), vr (o + 5), vr (o + 6), vi ((c1 : Nat) : Int), vi ((c2 : Nat) : Int), vi ((j + 1 : Nat) : Int), vi ly, vr m1, vr m2, vi f1, vi f2])) := FrR.u FrR.rf o (by omega)
                  generalize up w o (Ob 2 [vr (o + 1), vr (o + 5), vr (o + 6), vi ((c1 : Nat) : Int), vi ((c2 : Nat) : Int), vi ((j + 1 : Nat) : Int), vi ly, vr m1, vr m2, vi f1, vi f2]) = w434 at hR434 hF434 ⊢
                  refine M.run 4 (pc' := 201) (lv' := [some (vr o), some (vi ((op : Nat) : Int)), some (vi ((gTk L j).1)), some (vi ((gTk L j).2.1)), some (vi 0)]) (st' := [vi (((op : Nat) : Int) + 1), vr o]) rfl ?_
                  rw [show ((op : Nat) : Int) + 1 = ((op + 1 : Nat) : Int) from (by omega)]
                  refine M.callV (hs (by omega) c1 c2 (j + 1) m1 m2 f1 f2 fc fq (by omega) (by omega)) cv_X3_89 cd_X3_sum rfl (st := []) rfl (hR434.1) (by omega) (by decide) rfl (Nat.zero_le _) (Nat.zero_le _) hR434 (fun r435 w435 q435 => ?_)
                  rcases hR1 : fs (j + 1) with ⟨e1, k1⟩ | ⟨s1, k1⟩
                  · skip
                    rw [hR1] at q435
                    obtain ⟨hr1, hg1, ⟨hz1, hy1⟩, hK1, gc1, hS1, hC1, hU1⟩ := q435
                    rw [hr1]
                    have hG1 := FrR.tr hF434 hg1
                    refine M.if_eq (tgt := 220) rfl (qI (by decide)) (by decide) (fun q => absurd q (by decide)) (fun _ => ?_)
                    refine M.run 2 (pc' := 210) (lv' := [some (vr o), some (vi ((op : Nat) : Int)), some (vi ((gTk L j).1)), some (vi ((gTk L j).2.1)), some (vi 0)]) (st' := [vi 39, vr o]) rfl ?_
                    refine M.callV (kX3_take l G o L (c1 + 2 * szE e1) c2 k1 ly m1 m2 f1 f2 gc1 fq (by omega) hB 39 (by omega)) cv_X3_92 cd_X3_take rfl (st := []) rfl (hS1.1) (by omega) (by decide) rfl (Nat.zero_le _) (Nat.zero_le _) hS1 (fun r436 w436 q436 => ?_)
                    by_cases hT1 : (gTk L k1).1 = 39
                    · skip
                      rw [if_pos hT1] at q436
                      obtain ⟨hr1_, hS1_, hg1_⟩ := q436
                      rw [hr1_]
                      have hG1_ := FrR.tr hG1 hg1_
                      have hk301 := hx51 k1 (by omega)
                      refine M.if_eq (tgt := 220) rfl (qI (by decide)) (by decide) (fun q => absurd q (by decide)) (fun _ => ?_)
                      refine M.run 2 (pc' := 221) (lv' := [some (vr o), some (vi ((op : Nat) : Int)), some (vi ((gTk L j).1)), some (vi ((gTk L j).2.1)), some (vi 0)]) (st' := [vi 1]) rfl ?_
                      exact M.zret rfl (Or.inr rfl) (Nat.zero_le _) (Nat.zero_le _) (by show PQ o L c1 c2 j ly m1 m2 f1 f2 fc fq w _ _ ((pOne L ly op fs fo fe) j); rw [pOne_b (by omega) (by omega) hR1 hT1]; exact ⟨rfl, hG1_, ⟨by omega, by omega⟩, hK1, _, hS1_, hC1, hU1⟩)
                    · skip
                      rw [if_neg hT1] at q436
                      obtain ⟨hr1_, hS1_, hg1_⟩ := q436
                      rw [hr1_]
                      have hG1_ := FrR.tr hG1 hg1_
                      refine M.if_eq (tgt := 220) rfl (qI (by decide)) (by decide) (fun _ => ?_) (fun q => absurd q (by decide))
                      refine M.run 1 (pc' := 221) (lv' := [some (vr o), some (vi ((op : Nat) : Int)), some (vi ((gTk L j).1)), some (vi ((gTk L j).2.1)), some (vi 0)]) (st' := [vi 0]) rfl ?_
                      exact M.zret rfl (Or.inl rfl) (Nat.zero_le _) (Nat.zero_le _) (by show PQ o L c1 c2 j ly m1 m2 f1 f2 fc fq w _ _ ((pOne L ly op fs fo fe) j); rw [pOne_c (by omega) (by omega) hR1 hT1]; exact ⟨rfl, hG1_, hy1, _, _, hS1_⟩)
                  · skip
                    rw [hR1] at q435
                    obtain ⟨hr1, hg1, hy1, dd1, gc1, hS1⟩ := q435
                    rw [hr1]
                    have hG1 := FrR.tr hF434 hg1
                    refine M.if_eq (tgt := 220) rfl (qI (by decide)) (by decide) (fun _ => ?_) (fun q => absurd q (by decide))
                    refine M.run 1 (pc' := 221) (lv' := [some (vr o), some (vi ((op : Nat) : Int)), some (vi ((gTk L j).1)), some (vi ((gTk L j).2.1)), some (vi 0)]) (st' := [vi 0]) rfl ?_
                    exact M.zret rfl (Or.inl rfl) (Nat.zero_le _) (Nat.zero_le _) (by show PQ o L c1 c2 j ly m1 m2 f1 f2 fc fq w _ _ ((pOne L ly op fs fo fe) j); rw [pOne_e (by omega) (by omega) hR1]; exact ⟨rfl, hG1, hy1, _, _, hS1⟩)
                by_cases hs97_5 : (gTk L j).1 = 50
                · refine M.lsw (tgt := 156) (off := 59) rfl (qI (by omega)) (by decide) (by rw [hs97_5]; rfl) (by decide) ?_
                  refine M.run 2 (pc' := 160) (lv' := [some (vr o), some (vi ((op : Nat) : Int)), some (vi ((gTk L j).1)), some (vi ((gTk L j).2.1)), some (vi 0)]) (st' := [vi 9999, vi ((gTk L j).2.1)]) rfl ?_
                  refine M.icmp_le (tgt := 169) rfl (qI (by omega)) (qI (by decide)) (by decide) (fun h160 => ?_) (fun h160 => ?_)
                  · skip
                    have hk300 := hx51 j (by omega)
                    refine M.run 2 (pc' := 171) (lv' := [some (vr o), some (vi ((op : Nat) : Int)), some (vi ((gTk L j).1)), some (vi ((gTk L j).2.1)), some (vi 0)]) (st' := [vr o, vr o]) rfl ?_
                    refine M.get fl_X3_38 rfl hP.1 (kf := 5) (v := vi ((j : Nat) : Int)) rfl ?_
                    refine M.run 2 (pc' := 176) (lv' := [some (vr o), some (vi ((op : Nat) : Int)), some (vi ((gTk L j).1)), some (vi ((gTk L j).2.1)), some (vi 0)]) (st' := [vi (((j : Nat) : Int) + 1), vr o]) rfl ?_
                    rw [show ((j : Nat) : Int) + 1 = ((j + 1 : Nat) : Int) from by omega]
                    refine M.put fl_X3_38 rfl (hP.1) rfl rfl (Nat.le_of_ble_eq_true rfl) ?_
                    change g 0 0 (up w o (Ob 2 [vr (o + 1), vr (o + 5), vr (o + 6), vi ((c1 : Nat) : Int), vi ((c2 : Nat) : Int), vi ((j + 1 : Nat) : Int), vi ly, vr m1, vr m2, vi f1, vi f2])) 179 [some (vr o), some (vi ((op : Nat) : Int)), some (vi ((gTk L j).1)), some (vi ((gTk L j).2.1)), some (vi 0)] []
                    have hR437 : isRe o L c1 c2 (j + 1) ly m1 m2 f1 f2 fc fq (up w o (Ob 2 [vr (o + 1), vr (o + 5), vr (o + 6), vi ((c1 : Nat) : Int), vi ((c2 : Nat) : Int), vi ((j + 1 : Nat) : Int), vi ly, vr m1, vr m2, vi f1, vi f2])) := isRe_1 hP
                    have hF437 : FrR o w (up w o (Ob 2 [vr (o + 1), vr (o + 5), vr (o + 6), vi ((c1 : Nat) : Int), vi ((c2 : Nat) : Int), vi ((j + 1 : Nat) : Int), vi ly, vr m1, vr m2, vi f1, vi f2])) := FrR.u FrR.rf o (by omega)
                    generalize up w o (Ob 2 [vr (o + 1), vr (o + 5), vr (o + 6), vi ((c1 : Nat) : Int), vi ((c2 : Nat) : Int), vi ((j + 1 : Nat) : Int), vi ly, vr m1, vr m2, vi f1, vi f2]) = w437 at hR437 hF437 ⊢
                    refine M.run 3 (pc' := 183) (lv' := [some (vr o), some (vi ((op : Nat) : Int)), some (vi ((gTk L j).1)), some (vi ((gTk L j).2.1)), some (vi 0)]) (st' := [vi ((gTk L j).2.1), vi 50, vr o]) rfl ?_
                    refine M.callV (kX3_emit l G o L c1 c2 (j + 1) ly m1 m2 f1 f2 fc fq (by omega) 50 ((gTk L j).2.1) (by omega) (by omega)) cv_X3_114 cd_X3_emit rfl (st := []) rfl hR437.1 (by omega) (by decide) rfl (Nat.zero_le _) (Nat.zero_le _) hR437 (fun r439 w440 q441 => ?_)
                    obtain ⟨q441r, hR438, q441f⟩ := q441
                    rw [q441r]
                    have hF438 : FrR o w w440 := FrR.tr hF437 q441f
                    exact M.zret rfl (Or.inr rfl) (Nat.zero_le _) (Nat.zero_le _) (by show PQ o L c1 c2 j ly m1 m2 f1 f2 fc fq w _ _ ((pOne L ly op fs fo fe) j); rw [pOne_f (by omega) (by omega)]; exact ⟨rfl, hF438, ⟨(by show 1 + j ≤ j + 1; omega), by omega⟩, okE_lf, _, hR438, lf_at, fun i hi => by rw [uN_o (by omega), uN_o (by omega)]⟩)
                  · skip
                    refine M.run 2 (pc' := 165) (lv' := [some (vr o), some (vi ((op : Nat) : Int)), some (vi ((gTk L j).1)), some (vi ((gTk L j).2.1)), some (vi 0)]) (st' := [vi 2, vr o]) rfl ?_
                    refine M.callV (kX3_refuse l G o L c1 c2 j ly m1 m2 f1 f2 fc fq (by omega) hB 2 (by omega)) cv_X3_73 cd_X3_refuse rfl (st := []) rfl hP.1 (by omega) (by decide) rfl (Nat.zero_le _) (Nat.zero_le _) hP (fun r444 w445 q446 => ?_)
                    obtain ⟨q446r, hR443, q446f⟩ := q446
                    rw [q446r]
                    have hF443 : FrR o w w445 := FrR.tr FrR.rf q446f
                    exact M.zret rfl (Or.inl rfl) (Nat.zero_le _) (Nat.zero_le _) (by show PQ o L c1 c2 j ly m1 m2 f1 f2 fc fq w _ _ ((pOne L ly op fs fo fe) j); rw [pOne_g (by omega) (by omega)]; exact ⟨rfl, hF443, hj, _, _, hR443⟩)
                refine M.lsw (tgt := 311) (off := 214) rfl (qI (by omega)) (by decide) (by rw [Op.lookupswitch.offset_cons, if_neg (fun q => hs97_0 q.symm), Op.lookupswitch.offset_cons, if_neg (fun q => hs97_1 q.symm), Op.lookupswitch.offset_cons, if_neg (fun q => hs97_2 q.symm), Op.lookupswitch.offset_cons, if_neg (fun q => hs97_3 q.symm), Op.lookupswitch.offset_cons, if_neg (fun q => hs97_4 q.symm), Op.lookupswitch.offset_cons, if_neg (fun q => hs97_5 q.symm)]; rfl) (by decide) ?_
                refine M.run 2 (pc' := 313) (lv' := [some (vr o), some (vi ((op : Nat) : Int)), some (vi ((gTk L j).1)), some (vi ((gTk L j).2.1)), some (vi 0)]) (st' := [vi 1, vr o]) rfl ?_
                refine M.callV (kX3_refuse l G o L c1 c2 j ly m1 m2 f1 f2 fc fq (by omega) hB 1 (by omega)) cv_X3_73 cd_X3_refuse rfl (st := []) rfl hP.1 (by omega) (by decide) rfl (Nat.zero_le _) (Nat.zero_le _) hP (fun r449 w450 q451 => ?_)
                obtain ⟨q451r, hR448, q451f⟩ := q451
                rw [q451r]
                have hF448 : FrR o w w450 := FrR.tr FrR.rf q451f
                exact M.zret rfl (Or.inl rfl) (Nat.zero_le _) (Nat.zero_le _) (by show PQ o L c1 c2 j ly m1 m2 f1 f2 fc fq w _ _ ((pOne L ly op fs fo fe) j); rw [pOne_o (by omega) (by omega) (by omega)]; exact ⟨rfl, hF448, hj, _, _, hR448⟩)
              · skip
                have hk300 := hx51 j (by omega)
                refine M.run 2 (pc' := 92) (lv' := [some (vr o), some (vi ((op : Nat) : Int)), some (vi ((gTk L j).1)), some (vi ((gTk L j).2.1)), some (vi 0)]) (st' := [vi ((gTk L j).1), vr o]) rfl ?_
                refine M.callV (kX3_name l G o L c1 c2 j ly m1 m2 f1 f2 fc fq (by omega) hB (by omega) hly ((gTk L j).1) (by omega)) cv_X3_121 cd_X3_name rfl (st := []) rfl (hP.1) (by omega) (by decide) rfl (Nat.zero_le _) (Nat.zero_le _) hP (fun r453 w453 q453 => ?_)
                by_cases hT1 : ((gTk L j).1) = (if ly = 0 then 23 else 22)
                · skip
                  rw [if_pos hT1] at q453
                  obtain ⟨hr1_, hS1_, hg1_⟩ := q453
                  rw [hr1_]
                  have hG1_ := FrR.tr FrR.rf hg1_
                  exact M.zret rfl (Or.inl rfl) (Nat.zero_le _) (Nat.zero_le _) (by show PQ o L c1 c2 j ly m1 m2 f1 f2 fc fq w _ _ ((pOne L ly op fs fo fe) j); rw [pOne_x (by omega) (by omega) hT1]; exact ⟨rfl, hG1_, hj, _, _, hS1_⟩)
                · skip
                  rw [if_neg hT1] at q453
                  obtain ⟨hr1_, hS1_, hg1_⟩ := q453
                  rw [hr1_]
                  have hG1_ := FrR.tr FrR.rf hg1_
                  exact M.zret rfl (Or.inr rfl) (Nat.zero_le _) (Nat.zero_le _) (by show PQ o L c1 c2 j ly m1 m2 f1 f2 fc fq w _ _ ((pOne L ly op fs fo fe) j); rw [pOne_y (by omega) (by omega) hT1]; exact ⟨rfl, hG1_, ⟨(by show 1 + j ≤ j + 1; omega), by omega⟩, okE_lf, _, hS1_, lf_at, fun i hi => by rw [uN_o (by omega), uN_o (by omega)]⟩)
          · skip
            refine M.run 4 (pc' := 63) (lv' := [some (vr o), some (vi ((op : Nat) : Int)), some (vi ((gTk L j).1)), some (vi ((gTk L j).2.1)), some (vi 1)]) (st' := [vi 1]) rfl ?_
            refine M.if_eq (tgt := 78) rfl (qI (by decide)) (by decide) (fun q => absurd q (by decide)) (fun _ => ?_)
            refine M.run 2 (pc' := 69) (lv' := [some (vr o), some (vi ((op : Nat) : Int)), some (vi ((gTk L j).1)), some (vi ((gTk L j).2.1)), some (vi 1)]) (st' := [vi 8, vi ((op : Nat) : Int)]) rfl ?_
            refine M.icmp_lt (tgt := 78) rfl (qI (by omega)) (qI (by decide)) (by decide) (fun h69 => ?_) (fun h69 => ?_)
            · skip
              refine M.run 2 (pc' := 81) (lv' := [some (vr o), some (vi ((op : Nat) : Int)), some (vi ((gTk L j).1)), some (vi ((gTk L j).2.1)), some (vi 1)]) (st' := [vi 17, vi ((gTk L j).1)]) rfl ?_
              refine M.icmp_lt (tgt := 96) rfl (qI (by omega)) (qI (by decide)) (by decide) (fun h81 => ?_) (fun h81 => ?_)
              · skip
                refine M.run 1 (pc' := 97) (lv' := [some (vr o), some (vi ((op : Nat) : Int)), some (vi ((gTk L j).1)), some (vi ((gTk L j).2.1)), some (vi 1)]) (st' := [vi ((gTk L j).1)]) rfl ?_
                by_cases hs97_0 : (gTk L j).1 = 8
                · refine M.lsw (tgt := 258) (off := 161) rfl (qI (by omega)) (by decide) (by rw [hs97_0]; rfl) (by decide) ?_
                  have hk300 := hx51 j (by omega)
                  refine M.run 2 (pc' := 260) (lv' := [some (vr o), some (vi ((op : Nat) : Int)), some (vi ((gTk L j).1)), some (vi ((gTk L j).2.1)), some (vi 1)]) (st' := [vr o, vr o]) rfl ?_
                  refine M.get fl_X3_38 rfl hP.1 (kf := 5) (v := vi ((j : Nat) : Int)) rfl ?_
                  refine M.run 2 (pc' := 265) (lv' := [some (vr o), some (vi ((op : Nat) : Int)), some (vi ((gTk L j).1)), some (vi ((gTk L j).2.1)), some (vi 1)]) (st' := [vi (((j : Nat) : Int) + 1), vr o]) rfl ?_
                  rw [show ((j : Nat) : Int) + 1 = ((j + 1 : Nat) : Int) from by omega]
                  refine M.put fl_X3_38 rfl (hP.1) rfl rfl (Nat.le_of_ble_eq_true rfl) ?_
                  change g 0 0 (up w o (Ob 2 [vr (o + 1), vr (o + 5), vr (o + 6), vi ((c1 : Nat) : Int), vi ((c2 : Nat) : Int), vi ((j + 1 : Nat) : Int), vi ly, vr m1, vr m2, vi f1, vi f2])) 268 [some (vr o), some (vi ((op : Nat) : Int)), some (vi ((gTk L j).1)), some (vi ((gTk L j).2.1)), some (vi 1)] []
                  have hR454 : isRe o L c1 c2 (j + 1) ly m1 m2 f1 f2 fc fq (up w o (Ob 2 [vr (o + 1), vr (o + 5), vr (o + 6), vi ((c1 : Nat) : Int), vi ((c2 : Nat) : Int), vi ((j + 1 : Nat) : Int), vi ly, vr m1, vr m2, vi f1, vi f2])) := isRe_1 hP
                  have hF454 : FrR o w (up w o (Ob 2 [vr (o + 1), vr (o + 5), vr (o + 6), vi ((c1 : Nat) : Int), vi ((c2 : Nat) : Int), vi ((j + 1 : Nat) : Int), vi ly, vr m1, vr m2, vi f1, vi f2])) := FrR.u FrR.rf o (by omega)
                  generalize up w o (Ob 2 [vr (o + 1), vr (o + 5), vr (o + 6), vi ((c1 : Nat) : Int), vi ((c2 : Nat) : Int), vi ((j + 1 : Nat) : Int), vi ly, vr m1, vr m2, vi f1, vi f2]) = w454 at hR454 hF454 ⊢
                  refine M.run 4 (pc' := 272) (lv' := [some (vr o), some (vi ((op : Nat) : Int)), some (vi ((gTk L j).1)), some (vi ((gTk L j).2.1)), some (vi 1)]) (st' := [vi (((op : Nat) : Int) + 1), vr o]) rfl ?_
                  rw [show ((op : Nat) : Int) + 1 = ((op + 1 : Nat) : Int) from (by omega)]
                  refine M.callV (ho (by omega) c1 c2 (j + 1) m1 m2 f1 f2 fc fq (by omega) (by omega)) cv_X3_118 cd_X3_one rfl (st := []) rfl (hR454.1) (by omega) (by decide) rfl (Nat.zero_le _) (Nat.zero_le _) hR454 (fun r455 w455 q455 => ?_)
                  rcases hR1 : fo (j + 1) with ⟨e1, k1⟩ | ⟨s1, k1⟩
                  · skip
                    rw [hR1] at q455
                    obtain ⟨hr1, hg1, ⟨hz1, hy1⟩, hK1, gc1, hS1, hC1, hU1⟩ := q455
                    rw [hr1]
                    have hG1 := FrR.tr hF454 hg1
                    refine M.if_eq (tgt := 291) rfl (qI (by decide)) (by decide) (fun q => absurd q (by decide)) (fun _ => ?_)
                    refine M.run 3 (pc' := 281) (lv' := [some (vr o), some (vi ((op : Nat) : Int)), some (vi ((gTk L j).1)), some (vi ((gTk L j).2.1)), some (vi 1)]) (st' := [vi 0, vi ((gTk L j).1), vr o]) rfl ?_
                    refine M.callV (kX3_emit l G o L (c1 + 2 * szE e1) c2 k1 ly m1 m2 f1 f2 gc1 fq (by omega) ((gTk L j).1) 0 (by omega) (by omega)) cv_X3_114 cd_X3_emit rfl (st := []) rfl hS1.1 (by omega) (by decide) rfl (Nat.zero_le _) (Nat.zero_le _) hS1 (fun r457 w458 q459 => ?_)
                    obtain ⟨q459r, hR456, q459f⟩ := q459
                    rw [q459r]
                    have hF456 : FrR o w w458 := FrR.tr hG1 q459f
                    refine M.if_eq (tgt := 291) rfl (qI (by decide)) (by decide) (fun q => absurd q (by decide)) (fun _ => ?_)
                    refine M.run 2 (pc' := 292) (lv' := [some (vr o), some (vi ((op : Nat) : Int)), some (vi ((gTk L j).1)), some (vi ((gTk L j).2.1)), some (vi 1)]) (st' := [vi 1]) rfl ?_
                    exact M.zret rfl (Or.inr rfl) (Nat.zero_le _) (Nat.zero_le _) (by show PQ o L c1 c2 j ly m1 m2 f1 f2 fc fq w _ _ ((pOne L ly op fs fo fe) j); rw [pOne_u (by omega) (by omega) hR1]; exact ⟨rfl, hF456, ⟨(by show szE e1 + 1 + j ≤ k1; omega), hy1⟩, okE_un hK1, _, (by have hq9 := hR456; rw [show c1 + 2 * szE e1 + 2 = c1 + 2 * szE (unE (gTk L j).1 e1) from by show _ = c1 + 2 * (szE e1 + 1); omega] at hq9; exact hq9), un_at hK1 hC1, fun i hi => by rw [uN_o (by omega), uN_o (by omega)]; exact hU1 i hi⟩)
                  · skip
                    rw [hR1] at q455
                    obtain ⟨hr1, hg1, hy1, dd1, gc1, hS1⟩ := q455
                    rw [hr1]
                    have hG1 := FrR.tr hF454 hg1
                    refine M.if_eq (tgt := 291) rfl (qI (by decide)) (by decide) (fun _ => ?_) (fun q => absurd q (by decide))
                    refine M.run 1 (pc' := 292) (lv' := [some (vr o), some (vi ((op : Nat) : Int)), some (vi ((gTk L j).1)), some (vi ((gTk L j).2.1)), some (vi 1)]) (st' := [vi 0]) rfl ?_
                    exact M.zret rfl (Or.inl rfl) (Nat.zero_le _) (Nat.zero_le _) (by show PQ o L c1 c2 j ly m1 m2 f1 f2 fc fq w _ _ ((pOne L ly op fs fo fe) j); rw [pOne_v (by omega) (by omega) hR1]; exact ⟨rfl, hG1, hy1, _, _, hS1⟩)
                by_cases hs97_1 : (gTk L j).1 = 9
                · refine M.lsw (tgt := 258) (off := 161) rfl (qI (by omega)) (by decide) (by rw [hs97_1]; rfl) (by decide) ?_
                  have hk300 := hx51 j (by omega)
                  refine M.run 2 (pc' := 260) (lv' := [some (vr o), some (vi ((op : Nat) : Int)), some (vi ((gTk L j).1)), some (vi ((gTk L j).2.1)), some (vi 1)]) (st' := [vr o, vr o]) rfl ?_
                  refine M.get fl_X3_38 rfl hP.1 (kf := 5) (v := vi ((j : Nat) : Int)) rfl ?_
                  refine M.run 2 (pc' := 265) (lv' := [some (vr o), some (vi ((op : Nat) : Int)), some (vi ((gTk L j).1)), some (vi ((gTk L j).2.1)), some (vi 1)]) (st' := [vi (((j : Nat) : Int) + 1), vr o]) rfl ?_
                  rw [show ((j : Nat) : Int) + 1 = ((j + 1 : Nat) : Int) from by omega]
                  refine M.put fl_X3_38 rfl (hP.1) rfl rfl (Nat.le_of_ble_eq_true rfl) ?_
                  change g 0 0 (up w o (Ob 2 [vr (o + 1), vr (o + 5), vr (o + 6), vi ((c1 : Nat) : Int), vi ((c2 : Nat) : Int), vi ((j + 1 : Nat) : Int), vi ly, vr m1, vr m2, vi f1, vi f2])) 268 [some (vr o), some (vi ((op : Nat) : Int)), some (vi ((gTk L j).1)), some (vi ((gTk L j).2.1)), some (vi 1)] []
                  have hR461 : isRe o L c1 c2 (j + 1) ly m1 m2 f1 f2 fc fq (up w o (Ob 2 [vr (o + 1), vr (o + 5), vr (o + 6), vi ((c1 : Nat) : Int), vi ((c2 : Nat) : Int), vi ((j + 1 : Nat) : Int), vi ly, vr m1, vr m2, vi f1, vi f2])) := isRe_1 hP
                  have hF461 : FrR o w (up w o (Ob 2 [vr (o + 1), vr (o + 5), vr (o + 6), vi ((c1 : Nat) : Int), vi ((c2 : Nat) : Int), vi ((j + 1 : Nat) : Int), vi ly, vr m1, vr m2, vi f1, vi f2])) := FrR.u FrR.rf o (by omega)
                  generalize up w o (Ob 2 [vr (o + 1), vr (o + 5), vr (o + 6), vi ((c1 : Nat) : Int), vi ((c2 : Nat) : Int), vi ((j + 1 : Nat) : Int), vi ly, vr m1, vr m2, vi f1, vi f2]) = w461 at hR461 hF461 ⊢
                  refine M.run 4 (pc' := 272) (lv' := [some (vr o), some (vi ((op : Nat) : Int)), some (vi ((gTk L j).1)), some (vi ((gTk L j).2.1)), some (vi 1)]) (st' := [vi (((op : Nat) : Int) + 1), vr o]) rfl ?_
                  rw [show ((op : Nat) : Int) + 1 = ((op + 1 : Nat) : Int) from (by omega)]
                  refine M.callV (ho (by omega) c1 c2 (j + 1) m1 m2 f1 f2 fc fq (by omega) (by omega)) cv_X3_118 cd_X3_one rfl (st := []) rfl (hR461.1) (by omega) (by decide) rfl (Nat.zero_le _) (Nat.zero_le _) hR461 (fun r462 w462 q462 => ?_)
                  rcases hR1 : fo (j + 1) with ⟨e1, k1⟩ | ⟨s1, k1⟩
                  · skip
                    rw [hR1] at q462
                    obtain ⟨hr1, hg1, ⟨hz1, hy1⟩, hK1, gc1, hS1, hC1, hU1⟩ := q462
                    rw [hr1]
                    have hG1 := FrR.tr hF461 hg1
                    refine M.if_eq (tgt := 291) rfl (qI (by decide)) (by decide) (fun q => absurd q (by decide)) (fun _ => ?_)
                    refine M.run 3 (pc' := 281) (lv' := [some (vr o), some (vi ((op : Nat) : Int)), some (vi ((gTk L j).1)), some (vi ((gTk L j).2.1)), some (vi 1)]) (st' := [vi 0, vi ((gTk L j).1), vr o]) rfl ?_
                    refine M.callV (kX3_emit l G o L (c1 + 2 * szE e1) c2 k1 ly m1 m2 f1 f2 gc1 fq (by omega) ((gTk L j).1) 0 (by omega) (by omega)) cv_X3_114 cd_X3_emit rfl (st := []) rfl hS1.1 (by omega) (by decide) rfl (Nat.zero_le _) (Nat.zero_le _) hS1 (fun r464 w465 q466 => ?_)
                    obtain ⟨q466r, hR463, q466f⟩ := q466
                    rw [q466r]
                    have hF463 : FrR o w w465 := FrR.tr hG1 q466f
                    refine M.if_eq (tgt := 291) rfl (qI (by decide)) (by decide) (fun q => absurd q (by decide)) (fun _ => ?_)
                    refine M.run 2 (pc' := 292) (lv' := [some (vr o), some (vi ((op : Nat) : Int)), some (vi ((gTk L j).1)), some (vi ((gTk L j).2.1)), some (vi 1)]) (st' := [vi 1]) rfl ?_
                    exact M.zret rfl (Or.inr rfl) (Nat.zero_le _) (Nat.zero_le _) (by show PQ o L c1 c2 j ly m1 m2 f1 f2 fc fq w _ _ ((pOne L ly op fs fo fe) j); rw [pOne_u (by omega) (by omega) hR1]; exact ⟨rfl, hF463, ⟨(by show szE e1 + 1 + j ≤ k1; omega), hy1⟩, okE_un hK1, _, (by have hq9 := hR463; rw [show c1 + 2 * szE e1 + 2 = c1 + 2 * szE (unE (gTk L j).1 e1) from by show _ = c1 + 2 * (szE e1 + 1); omega] at hq9; exact hq9), un_at hK1 hC1, fun i hi => by rw [uN_o (by omega), uN_o (by omega)]; exact hU1 i hi⟩)
                  · skip
                    rw [hR1] at q462
                    obtain ⟨hr1, hg1, hy1, dd1, gc1, hS1⟩ := q462
                    rw [hr1]
                    have hG1 := FrR.tr hF461 hg1
                    refine M.if_eq (tgt := 291) rfl (qI (by decide)) (by decide) (fun _ => ?_) (fun q => absurd q (by decide))
                    refine M.run 1 (pc' := 292) (lv' := [some (vr o), some (vi ((op : Nat) : Int)), some (vi ((gTk L j).1)), some (vi ((gTk L j).2.1)), some (vi 1)]) (st' := [vi 0]) rfl ?_
                    exact M.zret rfl (Or.inl rfl) (Nat.zero_le _) (Nat.zero_le _) (by show PQ o L c1 c2 j ly m1 m2 f1 f2 fc fq w _ _ ((pOne L ly op fs fo fe) j); rw [pOne_v (by omega) (by omega) hR1]; exact ⟨rfl, hG1, hy1, _, _, hS1⟩)
                by_cases hs97_2 : (gTk L j).1 = 10
                · refine M.lsw (tgt := 293) (off := 196) rfl (qI (by omega)) (by decide) (by rw [hs97_2]; rfl) (by decide) ?_
                  have hk300 := hx51 j (by omega)
                  refine M.run 2 (pc' := 295) (lv' := [some (vr o), some (vi ((op : Nat) : Int)), some (vi ((gTk L j).1)), some (vi ((gTk L j).2.1)), some (vi 1)]) (st' := [vr o, vr o]) rfl ?_
                  refine M.get fl_X3_38 rfl hP.1 (kf := 5) (v := vi ((j : Nat) : Int)) rfl ?_
                  refine M.run 2 (pc' := 300) (lv' := [some (vr o), some (vi ((op : Nat) : Int)), some (vi ((gTk L j).1)), some (vi ((gTk L j).2.1)), some (vi 1)]) (st' := [vi (((j : Nat) : Int) + 1), vr o]) rfl ?_
                  rw [show ((j : Nat) : Int) + 1 = ((j + 1 : Nat) : Int) from by omega]
                  refine M.put fl_X3_38 rfl (hP.1) rfl rfl (Nat.le_of_ble_eq_true rfl) ?_
                  change g 0 0 (up w o (Ob 2 [vr (o + 1), vr (o + 5), vr (o + 6), vi ((c1 : Nat) : Int), vi ((c2 : Nat) : Int), vi ((j + 1 : Nat) : Int), vi ly, vr m1, vr m2, vi f1, vi f2])) 303 [some (vr o), some (vi ((op : Nat) : Int)), some (vi ((gTk L j).1)), some (vi ((gTk L j).2.1)), some (vi 1)] []
                  have hR468 : isRe o L c1 c2 (j + 1) ly m1 m2 f1 f2 fc fq (up w o (Ob 2 [vr (o + 1), vr (o + 5), vr (o + 6), vi ((c1 : Nat) : Int), vi ((c2 : Nat) : Int), vi ((j + 1 : Nat) : Int), vi ly, vr m1, vr m2, vi f1, vi f2])) := isRe_1 hP
                  have hF468 : FrR o w (up w o (Ob 2 [vr (o + 1), vr (o + 5), vr (o + 6), vi ((c1 : Nat) : Int), vi ((c2 : Nat) : Int), vi ((j + 1 : Nat) : Int), vi ly, vr m1, vr m2, vi f1, vi f2])) := FrR.u FrR.rf o (by omega)
                  generalize up w o (Ob 2 [vr (o + 1), vr (o + 5), vr (o + 6), vi ((c1 : Nat) : Int), vi ((c2 : Nat) : Int), vi ((j + 1 : Nat) : Int), vi ly, vr m1, vr m2, vi f1, vi f2]) = w468 at hR468 hF468 ⊢
                  refine M.run 4 (pc' := 307) (lv' := [some (vr o), some (vi ((op : Nat) : Int)), some (vi ((gTk L j).1)), some (vi ((gTk L j).2.1)), some (vi 1)]) (st' := [vi (((op : Nat) : Int) + 1), vr o]) rfl ?_
                  rw [show ((op : Nat) : Int) + 1 = ((op + 1 : Nat) : Int) from (by omega)]
                  refine M.callV (he (by omega) c1 c2 (j + 1) m1 m2 f1 f2 fc fq (by omega) (by omega)) cv_X3_124 cd_X3_choice rfl (st := []) rfl (hR468.1) (by omega) (by decide) rfl (Nat.zero_le _) (Nat.zero_le _) hR468 (fun r469 w469 q469 => ?_)
                  rcases hR1 : fe (j + 1) with ⟨e1, k1⟩ | ⟨s1, k1⟩
                  · skip
                    rw [hR1] at q469
                    obtain ⟨hr1, hg1, ⟨hz1, hy1⟩, hK1, gc1, hS1, hC1, hU1⟩ := q469
                    rw [hr1]
                    have hG1 := FrR.tr hF468 hg1
                    exact M.zret rfl (Or.inr rfl) (Nat.zero_le _) (Nat.zero_le _) (by show PQ o L c1 c2 j ly m1 m2 f1 f2 fc fq w _ _ ((pOne L ly op fs fo fe) j); rw [pOne_i (by omega) (by omega), hR1]; exact ⟨rfl, hG1, ⟨by omega, hy1⟩, hK1, _, hS1, hC1, hU1⟩)
                  · skip
                    rw [hR1] at q469
                    obtain ⟨hr1, hg1, hy1, dd1, gc1, hS1⟩ := q469
                    rw [hr1]
                    have hG1 := FrR.tr hF468 hg1
                    exact M.zret rfl (Or.inl rfl) (Nat.zero_le _) (Nat.zero_le _) (by show PQ o L c1 c2 j ly m1 m2 f1 f2 fc fq w _ _ ((pOne L ly op fs fo fe) j); rw [pOne_i (by omega) (by omega), hR1]; exact ⟨rfl, hG1, hy1, _, _, hS1⟩)
                by_cases hs97_3 : (gTk L j).1 = 35
                · refine M.lsw (tgt := 222) (off := 125) rfl (qI (by omega)) (by decide) (by rw [hs97_3]; rfl) (by decide) ?_
                  have hk300 := hx51 j (by omega)
                  refine M.run 2 (pc' := 224) (lv' := [some (vr o), some (vi ((op : Nat) : Int)), some (vi ((gTk L j).1)), some (vi ((gTk L j).2.1)), some (vi 1)]) (st' := [vr o, vr o]) rfl ?_
                  refine M.get fl_X3_38 rfl hP.1 (kf := 5) (v := vi ((j : Nat) : Int)) rfl ?_
                  refine M.run 2 (pc' := 229) (lv' := [some (vr o), some (vi ((op : Nat) : Int)), some (vi ((gTk L j).1)), some (vi ((gTk L j).2.1)), some (vi 1)]) (st' := [vi (((j : Nat) : Int) + 1), vr o]) rfl ?_
                  rw [show ((j : Nat) : Int) + 1 = ((j + 1 : Nat) : Int) from by omega]
                  refine M.put fl_X3_38 rfl (hP.1) rfl rfl (Nat.le_of_ble_eq_true rfl) ?_
                  change g 0 0 (up w o (Ob 2 [vr (o + 1), vr (o + 5), vr (o + 6), vi ((c1 : Nat) : Int), vi ((c2 : Nat) : Int), vi ((j + 1 : Nat) : Int), vi ly, vr m1, vr m2, vi f1, vi f2])) 232 [some (vr o), some (vi ((op : Nat) : Int)), some (vi ((gTk L j).1)), some (vi ((gTk L j).2.1)), some (vi 1)] []
                  have hR470 : isRe o L c1 c2 (j + 1) ly m1 m2 f1 f2 fc fq (up w o (Ob 2 [vr (o + 1), vr (o + 5), vr (o + 6), vi ((c1 : Nat) : Int), vi ((c2 : Nat) : Int), vi ((j + 1 : Nat) : Int), vi ly, vr m1, vr m2, vi f1, vi f2])) := isRe_1 hP
                  have hF470 : FrR o w (up w o (Ob 2 [vr (o + 1), vr (o + 5), vr (o + 6), vi ((c1 : Nat) : Int), vi ((c2 : Nat) : Int), vi ((j + 1 : Nat) : Int), vi ly, vr m1, vr m2, vi f1, vi f2])) := FrR.u FrR.rf o (by omega)
                  generalize up w o (Ob 2 [vr (o + 1), vr (o + 5), vr (o + 6), vi ((c1 : Nat) : Int), vi ((c2 : Nat) : Int), vi ((j + 1 : Nat) : Int), vi ly, vr m1, vr m2, vi f1, vi f2]) = w470 at hR470 hF470 ⊢
                  refine M.run 4 (pc' := 236) (lv' := [some (vr o), some (vi ((op : Nat) : Int)), some (vi ((gTk L j).1)), some (vi ((gTk L j).2.1)), some (vi 1)]) (st' := [vi (((op : Nat) : Int) + 1), vr o]) rfl ?_
                  rw [show ((op : Nat) : Int) + 1 = ((op + 1 : Nat) : Int) from (by omega)]
                  refine M.callV (ho (by omega) c1 c2 (j + 1) m1 m2 f1 f2 fc fq (by omega) (by omega)) cv_X3_118 cd_X3_one rfl (st := []) rfl (hR470.1) (by omega) (by decide) rfl (Nat.zero_le _) (Nat.zero_le _) hR470 (fun r471 w471 q471 => ?_)
                  rcases hR1 : fo (j + 1) with ⟨e1, k1⟩ | ⟨s1, k1⟩
                  · skip
                    rw [hR1] at q471
                    obtain ⟨hr1, hg1, ⟨hz1, hy1⟩, hK1, gc1, hS1, hC1, hU1⟩ := q471
                    rw [hr1]
                    have hG1 := FrR.tr hF470 hg1
                    refine M.if_eq (tgt := 256) rfl (qI (by decide)) (by decide) (fun q => absurd q (by decide)) (fun _ => ?_)
                    refine M.run 3 (pc' := 246) (lv' := [some (vr o), some (vi ((op : Nat) : Int)), some (vi ((gTk L j).1)), some (vi ((gTk L j).2.1)), some (vi 1)]) (st' := [vi 0, vi 60, vr o]) rfl ?_
                    refine M.callV (kX3_emit l G o L (c1 + 2 * szE e1) c2 k1 ly m1 m2 f1 f2 gc1 fq (by omega) 60 0 (by omega) (by omega)) cv_X3_114 cd_X3_emit rfl (st := []) rfl hS1.1 (by omega) (by decide) rfl (Nat.zero_le _) (Nat.zero_le _) hS1 (fun r473 w474 q475 => ?_)
                    obtain ⟨q475r, hR472, q475f⟩ := q475
                    rw [q475r]
                    have hF472 : FrR o w w474 := FrR.tr hG1 q475f
                    refine M.if_eq (tgt := 256) rfl (qI (by decide)) (by decide) (fun q => absurd q (by decide)) (fun _ => ?_)
                    refine M.run 2 (pc' := 257) (lv' := [some (vr o), some (vi ((op : Nat) : Int)), some (vi ((gTk L j).1)), some (vi ((gTk L j).2.1)), some (vi 1)]) (st' := [vi 1]) rfl ?_
                    exact M.zret rfl (Or.inr rfl) (Nat.zero_le _) (Nat.zero_le _) (by show PQ o L c1 c2 j ly m1 m2 f1 f2 fc fq w _ _ ((pOne L ly op fs fo fe) j); rw [pOne_m (by omega) (by omega) hR1]; exact ⟨rfl, hF472, ⟨(by show szE e1 + 1 + j ≤ k1; omega), hy1⟩, okE_un hK1, _, (by have hq9 := hR472; rw [show c1 + 2 * szE e1 + 2 = c1 + 2 * szE (unE 60 e1) from by show _ = c1 + 2 * (szE e1 + 1); omega] at hq9; exact hq9), un_at hK1 hC1, fun i hi => by rw [uN_o (by omega), uN_o (by omega)]; exact hU1 i hi⟩)
                  · skip
                    rw [hR1] at q471
                    obtain ⟨hr1, hg1, hy1, dd1, gc1, hS1⟩ := q471
                    rw [hr1]
                    have hG1 := FrR.tr hF470 hg1
                    refine M.if_eq (tgt := 256) rfl (qI (by decide)) (by decide) (fun _ => ?_) (fun q => absurd q (by decide))
                    refine M.run 1 (pc' := 257) (lv' := [some (vr o), some (vi ((op : Nat) : Int)), some (vi ((gTk L j).1)), some (vi ((gTk L j).2.1)), some (vi 1)]) (st' := [vi 0]) rfl ?_
                    exact M.zret rfl (Or.inl rfl) (Nat.zero_le _) (Nat.zero_le _) (by show PQ o L c1 c2 j ly m1 m2 f1 f2 fc fq w _ _ ((pOne L ly op fs fo fe) j); rw [pOne_n (by omega) (by omega) hR1]; exact ⟨rfl, hG1, hy1, _, _, hS1⟩)
                by_cases hs97_4 : (gTk L j).1 = 38
                · refine M.lsw (tgt := 187) (off := 90) rfl (qI (by omega)) (by decide) (by rw [hs97_4]; rfl) (by decide) ?_
                  have hk300 := hx51 j (by omega)
                  refine M.run 2 (pc' := 189) (lv' := [some (vr o), some (vi ((op : Nat) : Int)), some (vi ((gTk L j).1)), some (vi ((gTk L j).2.1)), some (vi 1)]) (st' := [vr o, vr o]) rfl ?_
                  refine M.get fl_X3_38 rfl hP.1 (kf := 5) (v := vi ((j : Nat) : Int)) rfl ?_
                  refine M.run 2 (pc' := 194) (lv' := [some (vr o), some (vi ((op : Nat) : Int)), some (vi ((gTk L j).1)), some (vi ((gTk L j).2.1)), some (vi 1)]) (st' := [vi (((j : Nat) : Int) + 1), vr o]) rfl ?_
                  rw [show ((j : Nat) : Int) + 1 = ((j + 1 : Nat) : Int) from by omega]
                  refine M.put fl_X3_38 rfl (hP.1) rfl rfl (Nat.le_of_ble_eq_true rfl) ?_
                  change g 0 0 (up w o (Ob 2 [vr (o + 1), vr (o + 5), vr (o + 6), vi ((c1 : Nat) : Int), vi ((c2 : Nat) : Int), vi ((j + 1 : Nat) : Int), vi ly, vr m1, vr m2, vi f1, vi f2])) 197 [some (vr o), some (vi ((op : Nat) : Int)), some (vi ((gTk L j).1)), some (vi ((gTk L j).2.1)), some (vi 1)] []
                  have hR477 : isRe o L c1 c2 (j + 1) ly m1 m2 f1 f2 fc fq (up w o (Ob 2 [vr (o + 1), vr (o + 5), vr (o + 6), vi ((c1 : Nat) : Int), vi ((c2 : Nat) : Int), vi ((j + 1 : Nat) : Int), vi ly, vr m1, vr m2, vi f1, vi f2])) := isRe_1 hP
                  have hF477 : FrR o w (up w o (Ob 2 [vr (o + 1), vr (o + 5), vr (o + 6), vi ((c1 : Nat) : Int), vi ((c2 : Nat) : Int), vi ((j + 1 : Nat) : Int), vi ly, vr m1, vr m2, vi f1, vi f2])) := FrR.u FrR.rf o (by omega)
                  generalize up w o (Ob 2 [vr (o + 1), vr (o + 5), vr (o + 6), vi ((c1 : Nat) : Int), vi ((c2 : Nat) : Int), vi ((j + 1 : Nat) : Int), vi ly, vr m1, vr m2, vi f1, vi f2]) = w477 at hR477 hF477 ⊢
                  refine M.run 4 (pc' := 201) (lv' := [some (vr o), some (vi ((op : Nat) : Int)), some (vi ((gTk L j).1)), some (vi ((gTk L j).2.1)), some (vi 1)]) (st' := [vi (((op : Nat) : Int) + 1), vr o]) rfl ?_
                  rw [show ((op : Nat) : Int) + 1 = ((op + 1 : Nat) : Int) from (by omega)]
                  refine M.callV (hs (by omega) c1 c2 (j + 1) m1 m2 f1 f2 fc fq (by omega) (by omega)) cv_X3_89 cd_X3_sum rfl (st := []) rfl (hR477.1) (by omega) (by decide) rfl (Nat.zero_le _) (Nat.zero_le _) hR477 (fun r478 w478 q478 => ?_)
                  rcases hR1 : fs (j + 1) with ⟨e1, k1⟩ | ⟨s1, k1⟩
                  · skip
                    rw [hR1] at q478
                    obtain ⟨hr1, hg1, ⟨hz1, hy1⟩, hK1, gc1, hS1, hC1, hU1⟩ := q478
                    rw [hr1]
                    have hG1 := FrR.tr hF477 hg1
                    refine M.if_eq (tgt := 220) rfl (qI (by decide)) (by decide) (fun q => absurd q (by decide)) (fun _ => ?_)
                    refine M.run 2 (pc' := 210) (lv' := [some (vr o), some (vi ((op : Nat) : Int)), some (vi ((gTk L j).1)), some (vi ((gTk L j).2.1)), some (vi 1)]) (st' := [vi 39, vr o]) rfl ?_
                    refine M.callV (kX3_take l G o L (c1 + 2 * szE e1) c2 k1 ly m1 m2 f1 f2 gc1 fq (by omega) hB 39 (by omega)) cv_X3_92 cd_X3_take rfl (st := []) rfl (hS1.1) (by omega) (by decide) rfl (Nat.zero_le _) (Nat.zero_le _) hS1 (fun r479 w479 q479 => ?_)
                    by_cases hT1 : (gTk L k1).1 = 39
                    · skip
                      rw [if_pos hT1] at q479
                      obtain ⟨hr1_, hS1_, hg1_⟩ := q479
                      rw [hr1_]
                      have hG1_ := FrR.tr hG1 hg1_
                      have hk301 := hx51 k1 (by omega)
                      refine M.if_eq (tgt := 220) rfl (qI (by decide)) (by decide) (fun q => absurd q (by decide)) (fun _ => ?_)
                      refine M.run 2 (pc' := 221) (lv' := [some (vr o), some (vi ((op : Nat) : Int)), some (vi ((gTk L j).1)), some (vi ((gTk L j).2.1)), some (vi 1)]) (st' := [vi 1]) rfl ?_
                      exact M.zret rfl (Or.inr rfl) (Nat.zero_le _) (Nat.zero_le _) (by show PQ o L c1 c2 j ly m1 m2 f1 f2 fc fq w _ _ ((pOne L ly op fs fo fe) j); rw [pOne_b (by omega) (by omega) hR1 hT1]; exact ⟨rfl, hG1_, ⟨by omega, by omega⟩, hK1, _, hS1_, hC1, hU1⟩)
                    · skip
                      rw [if_neg hT1] at q479
                      obtain ⟨hr1_, hS1_, hg1_⟩ := q479
                      rw [hr1_]
                      have hG1_ := FrR.tr hG1 hg1_
                      refine M.if_eq (tgt := 220) rfl (qI (by decide)) (by decide) (fun _ => ?_) (fun q => absurd q (by decide))
                      refine M.run 1 (pc' := 221) (lv' := [some (vr o), some (vi ((op : Nat) : Int)), some (vi ((gTk L j).1)), some (vi ((gTk L j).2.1)), some (vi 1)]) (st' := [vi 0]) rfl ?_
                      exact M.zret rfl (Or.inl rfl) (Nat.zero_le _) (Nat.zero_le _) (by show PQ o L c1 c2 j ly m1 m2 f1 f2 fc fq w _ _ ((pOne L ly op fs fo fe) j); rw [pOne_c (by omega) (by omega) hR1 hT1]; exact ⟨rfl, hG1_, hy1, _, _, hS1_⟩)
                  · skip
                    rw [hR1] at q478
                    obtain ⟨hr1, hg1, hy1, dd1, gc1, hS1⟩ := q478
                    rw [hr1]
                    have hG1 := FrR.tr hF477 hg1
                    refine M.if_eq (tgt := 220) rfl (qI (by decide)) (by decide) (fun _ => ?_) (fun q => absurd q (by decide))
                    refine M.run 1 (pc' := 221) (lv' := [some (vr o), some (vi ((op : Nat) : Int)), some (vi ((gTk L j).1)), some (vi ((gTk L j).2.1)), some (vi 1)]) (st' := [vi 0]) rfl ?_
                    exact M.zret rfl (Or.inl rfl) (Nat.zero_le _) (Nat.zero_le _) (by show PQ o L c1 c2 j ly m1 m2 f1 f2 fc fq w _ _ ((pOne L ly op fs fo fe) j); rw [pOne_e (by omega) (by omega) hR1]; exact ⟨rfl, hG1, hy1, _, _, hS1⟩)
                by_cases hs97_5 : (gTk L j).1 = 50
                · refine M.lsw (tgt := 156) (off := 59) rfl (qI (by omega)) (by decide) (by rw [hs97_5]; rfl) (by decide) ?_
                  refine M.run 2 (pc' := 160) (lv' := [some (vr o), some (vi ((op : Nat) : Int)), some (vi ((gTk L j).1)), some (vi ((gTk L j).2.1)), some (vi 1)]) (st' := [vi 9999, vi ((gTk L j).2.1)]) rfl ?_
                  refine M.icmp_le (tgt := 169) rfl (qI (by omega)) (qI (by decide)) (by decide) (fun h160 => ?_) (fun h160 => ?_)
                  · skip
                    have hk300 := hx51 j (by omega)
                    refine M.run 2 (pc' := 171) (lv' := [some (vr o), some (vi ((op : Nat) : Int)), some (vi ((gTk L j).1)), some (vi ((gTk L j).2.1)), some (vi 1)]) (st' := [vr o, vr o]) rfl ?_
                    refine M.get fl_X3_38 rfl hP.1 (kf := 5) (v := vi ((j : Nat) : Int)) rfl ?_
                    refine M.run 2 (pc' := 176) (lv' := [some (vr o), some (vi ((op : Nat) : Int)), some (vi ((gTk L j).1)), some (vi ((gTk L j).2.1)), some (vi 1)]) (st' := [vi (((j : Nat) : Int) + 1), vr o]) rfl ?_
                    rw [show ((j : Nat) : Int) + 1 = ((j + 1 : Nat) : Int) from by omega]
                    refine M.put fl_X3_38 rfl (hP.1) rfl rfl (Nat.le_of_ble_eq_true rfl) ?_
                    change g 0 0 (up w o (Ob 2 [vr (o + 1), vr (o + 5), vr (o + 6), vi ((c1 : Nat) : Int), vi ((c2 : Nat) : Int), vi ((j + 1 : Nat) : Int), vi ly, vr m1, vr m2, vi f1, vi f2])) 179 [some (vr o), some (vi ((op : Nat) : Int)), some (vi ((gTk L j).1)), some (vi ((gTk L j).2.1)), some (vi 1)] []
                    have hR480 : isRe o L c1 c2 (j + 1) ly m1 m2 f1 f2 fc fq (up w o (Ob 2 [vr (o + 1), vr (o + 5), vr (o + 6), vi ((c1 : Nat) : Int), vi ((c2 : Nat) : Int), vi ((j + 1 : Nat) : Int), vi ly, vr m1, vr m2, vi f1, vi f2])) := isRe_1 hP
                    have hF480 : FrR o w (up w o (Ob 2 [vr (o + 1), vr (o + 5), vr (o + 6), vi ((c1 : Nat) : Int), vi ((c2 : Nat) : Int), vi ((j + 1 : Nat) : Int), vi ly, vr m1, vr m2, vi f1, vi f2])) := FrR.u FrR.rf o (by omega)
                    generalize up w o (Ob 2 [vr (o + 1), vr (o + 5), vr (o + 6), vi ((c1 : Nat) : Int), vi ((c2 : Nat) : Int), vi ((j + 1 : Nat) : Int), vi ly, vr m1, vr m2, vi f1, vi f2]) = w480 at hR480 hF480 ⊢
                    refine M.run 3 (pc' := 183) (lv' := [some (vr o), some (vi ((op : Nat) : Int)), some (vi ((gTk L j).1)), some (vi ((gTk L j).2.1)), some (vi 1)]) (st' := [vi ((gTk L j).2.1), vi 50, vr o]) rfl ?_
                    refine M.callV (kX3_emit l G o L c1 c2 (j + 1) ly m1 m2 f1 f2 fc fq (by omega) 50 ((gTk L j).2.1) (by omega) (by omega)) cv_X3_114 cd_X3_emit rfl (st := []) rfl hR480.1 (by omega) (by decide) rfl (Nat.zero_le _) (Nat.zero_le _) hR480 (fun r482 w483 q484 => ?_)
                    obtain ⟨q484r, hR481, q484f⟩ := q484
                    rw [q484r]
                    have hF481 : FrR o w w483 := FrR.tr hF480 q484f
                    exact M.zret rfl (Or.inr rfl) (Nat.zero_le _) (Nat.zero_le _) (by show PQ o L c1 c2 j ly m1 m2 f1 f2 fc fq w _ _ ((pOne L ly op fs fo fe) j); rw [pOne_f (by omega) (by omega)]; exact ⟨rfl, hF481, ⟨(by show 1 + j ≤ j + 1; omega), by omega⟩, okE_lf, _, hR481, lf_at, fun i hi => by rw [uN_o (by omega), uN_o (by omega)]⟩)
                  · skip
                    refine M.run 2 (pc' := 165) (lv' := [some (vr o), some (vi ((op : Nat) : Int)), some (vi ((gTk L j).1)), some (vi ((gTk L j).2.1)), some (vi 1)]) (st' := [vi 2, vr o]) rfl ?_
                    refine M.callV (kX3_refuse l G o L c1 c2 j ly m1 m2 f1 f2 fc fq (by omega) hB 2 (by omega)) cv_X3_73 cd_X3_refuse rfl (st := []) rfl hP.1 (by omega) (by decide) rfl (Nat.zero_le _) (Nat.zero_le _) hP (fun r487 w488 q489 => ?_)
                    obtain ⟨q489r, hR486, q489f⟩ := q489
                    rw [q489r]
                    have hF486 : FrR o w w488 := FrR.tr FrR.rf q489f
                    exact M.zret rfl (Or.inl rfl) (Nat.zero_le _) (Nat.zero_le _) (by show PQ o L c1 c2 j ly m1 m2 f1 f2 fc fq w _ _ ((pOne L ly op fs fo fe) j); rw [pOne_g (by omega) (by omega)]; exact ⟨rfl, hF486, hj, _, _, hR486⟩)
                refine M.lsw (tgt := 311) (off := 214) rfl (qI (by omega)) (by decide) (by rw [Op.lookupswitch.offset_cons, if_neg (fun q => hs97_0 q.symm), Op.lookupswitch.offset_cons, if_neg (fun q => hs97_1 q.symm), Op.lookupswitch.offset_cons, if_neg (fun q => hs97_2 q.symm), Op.lookupswitch.offset_cons, if_neg (fun q => hs97_3 q.symm), Op.lookupswitch.offset_cons, if_neg (fun q => hs97_4 q.symm), Op.lookupswitch.offset_cons, if_neg (fun q => hs97_5 q.symm)]; rfl) (by decide) ?_
                refine M.run 2 (pc' := 313) (lv' := [some (vr o), some (vi ((op : Nat) : Int)), some (vi ((gTk L j).1)), some (vi ((gTk L j).2.1)), some (vi 1)]) (st' := [vi 1, vr o]) rfl ?_
                refine M.callV (kX3_refuse l G o L c1 c2 j ly m1 m2 f1 f2 fc fq (by omega) hB 1 (by omega)) cv_X3_73 cd_X3_refuse rfl (st := []) rfl hP.1 (by omega) (by decide) rfl (Nat.zero_le _) (Nat.zero_le _) hP (fun r492 w493 q494 => ?_)
                obtain ⟨q494r, hR491, q494f⟩ := q494
                rw [q494r]
                have hF491 : FrR o w w493 := FrR.tr FrR.rf q494f
                exact M.zret rfl (Or.inl rfl) (Nat.zero_le _) (Nat.zero_le _) (by show PQ o L c1 c2 j ly m1 m2 f1 f2 fc fq w _ _ ((pOne L ly op fs fo fe) j); rw [pOne_o (by omega) (by omega) (by omega)]; exact ⟨rfl, hF491, hj, _, _, hR491⟩)
              · skip
                refine M.run 2 (pc' := 87) (lv' := [some (vr o), some (vi ((op : Nat) : Int)), some (vi ((gTk L j).1)), some (vi ((gTk L j).2.1)), some (vi 1)]) (st' := [vi 23, vi ((gTk L j).1)]) rfl ?_
                refine M.icmp_gt (tgt := 96) rfl (qI (by omega)) (qI (by decide)) (by decide) (fun h87 => ?_) (fun h87 => ?_)
                · skip
                  refine M.run 1 (pc' := 97) (lv' := [some (vr o), some (vi ((op : Nat) : Int)), some (vi ((gTk L j).1)), some (vi ((gTk L j).2.1)), some (vi 1)]) (st' := [vi ((gTk L j).1)]) rfl ?_
                  by_cases hs97_0 : (gTk L j).1 = 8
                  · refine M.lsw (tgt := 258) (off := 161) rfl (qI (by omega)) (by decide) (by rw [hs97_0]; rfl) (by decide) ?_
                    have hk300 := hx51 j (by omega)
                    refine M.run 2 (pc' := 260) (lv' := [some (vr o), some (vi ((op : Nat) : Int)), some (vi ((gTk L j).1)), some (vi ((gTk L j).2.1)), some (vi 1)]) (st' := [vr o, vr o]) rfl ?_
                    refine M.get fl_X3_38 rfl hP.1 (kf := 5) (v := vi ((j : Nat) : Int)) rfl ?_
                    refine M.run 2 (pc' := 265) (lv' := [some (vr o), some (vi ((op : Nat) : Int)), some (vi ((gTk L j).1)), some (vi ((gTk L j).2.1)), some (vi 1)]) (st' := [vi (((j : Nat) : Int) + 1), vr o]) rfl ?_
                    rw [show ((j : Nat) : Int) + 1 = ((j + 1 : Nat) : Int) from by omega]
                    refine M.put fl_X3_38 rfl (hP.1) rfl rfl (Nat.le_of_ble_eq_true rfl) ?_
                    change g 0 0 (up w o (Ob 2 [vr (o + 1), vr (o + 5), vr (o + 6), vi ((c1 : Nat) : Int), vi ((c2 : Nat) : Int), vi ((j + 1 : Nat) : Int), vi ly, vr m1, vr m2, vi f1, vi f2])) 268 [some (vr o), some (vi ((op : Nat) : Int)), some (vi ((gTk L j).1)), some (vi ((gTk L j).2.1)), some (vi 1)] []
                    have hR496 : isRe o L c1 c2 (j + 1) ly m1 m2 f1 f2 fc fq (up w o (Ob 2 [vr (o + 1), vr (o + 5), vr (o + 6), vi ((c1 : Nat) : Int), vi ((c2 : Nat) : Int), vi ((j + 1 : Nat) : Int), vi ly, vr m1, vr m2, vi f1, vi f2])) := isRe_1 hP
                    have hF496 : FrR o w (up w o (Ob 2 [vr (o + 1), vr (o + 5), vr (o + 6), vi ((c1 : Nat) : Int), vi ((c2 : Nat) : Int), vi ((j + 1 : Nat) : Int), vi ly, vr m1, vr m2, vi f1, vi f2])) := FrR.u FrR.rf o (by omega)
                    generalize up w o (Ob 2 [vr (o + 1), vr (o + 5), vr (o + 6), vi ((c1 : Nat) : Int), vi ((c2 : Nat) : Int), vi ((j + 1 : Nat) : Int), vi ly, vr m1, vr m2, vi f1, vi f2]) = w496 at hR496 hF496 ⊢
                    refine M.run 4 (pc' := 272) (lv' := [some (vr o), some (vi ((op : Nat) : Int)), some (vi ((gTk L j).1)), some (vi ((gTk L j).2.1)), some (vi 1)]) (st' := [vi (((op : Nat) : Int) + 1), vr o]) rfl ?_
                    rw [show ((op : Nat) : Int) + 1 = ((op + 1 : Nat) : Int) from (by omega)]
                    refine M.callV (ho (by omega) c1 c2 (j + 1) m1 m2 f1 f2 fc fq (by omega) (by omega)) cv_X3_118 cd_X3_one rfl (st := []) rfl (hR496.1) (by omega) (by decide) rfl (Nat.zero_le _) (Nat.zero_le _) hR496 (fun r497 w497 q497 => ?_)
                    rcases hR1 : fo (j + 1) with ⟨e1, k1⟩ | ⟨s1, k1⟩
                    · skip
                      rw [hR1] at q497
                      obtain ⟨hr1, hg1, ⟨hz1, hy1⟩, hK1, gc1, hS1, hC1, hU1⟩ := q497
                      rw [hr1]
                      have hG1 := FrR.tr hF496 hg1
                      refine M.if_eq (tgt := 291) rfl (qI (by decide)) (by decide) (fun q => absurd q (by decide)) (fun _ => ?_)
                      refine M.run 3 (pc' := 281) (lv' := [some (vr o), some (vi ((op : Nat) : Int)), some (vi ((gTk L j).1)), some (vi ((gTk L j).2.1)), some (vi 1)]) (st' := [vi 0, vi ((gTk L j).1), vr o]) rfl ?_
                      refine M.callV (kX3_emit l G o L (c1 + 2 * szE e1) c2 k1 ly m1 m2 f1 f2 gc1 fq (by omega) ((gTk L j).1) 0 (by omega) (by omega)) cv_X3_114 cd_X3_emit rfl (st := []) rfl hS1.1 (by omega) (by decide) rfl (Nat.zero_le _) (Nat.zero_le _) hS1 (fun r499 w500 q501 => ?_)
                      obtain ⟨q501r, hR498, q501f⟩ := q501
                      rw [q501r]
                      have hF498 : FrR o w w500 := FrR.tr hG1 q501f
                      refine M.if_eq (tgt := 291) rfl (qI (by decide)) (by decide) (fun q => absurd q (by decide)) (fun _ => ?_)
                      refine M.run 2 (pc' := 292) (lv' := [some (vr o), some (vi ((op : Nat) : Int)), some (vi ((gTk L j).1)), some (vi ((gTk L j).2.1)), some (vi 1)]) (st' := [vi 1]) rfl ?_
                      exact M.zret rfl (Or.inr rfl) (Nat.zero_le _) (Nat.zero_le _) (by show PQ o L c1 c2 j ly m1 m2 f1 f2 fc fq w _ _ ((pOne L ly op fs fo fe) j); rw [pOne_u (by omega) (by omega) hR1]; exact ⟨rfl, hF498, ⟨(by show szE e1 + 1 + j ≤ k1; omega), hy1⟩, okE_un hK1, _, (by have hq9 := hR498; rw [show c1 + 2 * szE e1 + 2 = c1 + 2 * szE (unE (gTk L j).1 e1) from by show _ = c1 + 2 * (szE e1 + 1); omega] at hq9; exact hq9), un_at hK1 hC1, fun i hi => by rw [uN_o (by omega), uN_o (by omega)]; exact hU1 i hi⟩)
                    · skip
                      rw [hR1] at q497
                      obtain ⟨hr1, hg1, hy1, dd1, gc1, hS1⟩ := q497
                      rw [hr1]
                      have hG1 := FrR.tr hF496 hg1
                      refine M.if_eq (tgt := 291) rfl (qI (by decide)) (by decide) (fun _ => ?_) (fun q => absurd q (by decide))
                      refine M.run 1 (pc' := 292) (lv' := [some (vr o), some (vi ((op : Nat) : Int)), some (vi ((gTk L j).1)), some (vi ((gTk L j).2.1)), some (vi 1)]) (st' := [vi 0]) rfl ?_
                      exact M.zret rfl (Or.inl rfl) (Nat.zero_le _) (Nat.zero_le _) (by show PQ o L c1 c2 j ly m1 m2 f1 f2 fc fq w _ _ ((pOne L ly op fs fo fe) j); rw [pOne_v (by omega) (by omega) hR1]; exact ⟨rfl, hG1, hy1, _, _, hS1⟩)
                  by_cases hs97_1 : (gTk L j).1 = 9
                  · refine M.lsw (tgt := 258) (off := 161) rfl (qI (by omega)) (by decide) (by rw [hs97_1]; rfl) (by decide) ?_
                    have hk300 := hx51 j (by omega)
                    refine M.run 2 (pc' := 260) (lv' := [some (vr o), some (vi ((op : Nat) : Int)), some (vi ((gTk L j).1)), some (vi ((gTk L j).2.1)), some (vi 1)]) (st' := [vr o, vr o]) rfl ?_
                    refine M.get fl_X3_38 rfl hP.1 (kf := 5) (v := vi ((j : Nat) : Int)) rfl ?_
                    refine M.run 2 (pc' := 265) (lv' := [some (vr o), some (vi ((op : Nat) : Int)), some (vi ((gTk L j).1)), some (vi ((gTk L j).2.1)), some (vi 1)]) (st' := [vi (((j : Nat) : Int) + 1), vr o]) rfl ?_
                    rw [show ((j : Nat) : Int) + 1 = ((j + 1 : Nat) : Int) from by omega]
                    refine M.put fl_X3_38 rfl (hP.1) rfl rfl (Nat.le_of_ble_eq_true rfl) ?_
                    change g 0 0 (up w o (Ob 2 [vr (o + 1), vr (o + 5), vr (o + 6), vi ((c1 : Nat) : Int), vi ((c2 : Nat) : Int), vi ((j + 1 : Nat) : Int), vi ly, vr m1, vr m2, vi f1, vi f2])) 268 [some (vr o), some (vi ((op : Nat) : Int)), some (vi ((gTk L j).1)), some (vi ((gTk L j).2.1)), some (vi 1)] []
                    have hR503 : isRe o L c1 c2 (j + 1) ly m1 m2 f1 f2 fc fq (up w o (Ob 2 [vr (o + 1), vr (o + 5), vr (o + 6), vi ((c1 : Nat) : Int), vi ((c2 : Nat) : Int), vi ((j + 1 : Nat) : Int), vi ly, vr m1, vr m2, vi f1, vi f2])) := isRe_1 hP
                    have hF503 : FrR o w (up w o (Ob 2 [vr (o + 1), vr (o + 5), vr (o + 6), vi ((c1 : Nat) : Int), vi ((c2 : Nat) : Int), vi ((j + 1 : Nat) : Int), vi ly, vr m1, vr m2, vi f1, vi f2])) := FrR.u FrR.rf o (by omega)
                    generalize up w o (Ob 2 [vr (o + 1), vr (o + 5), vr (o + 6), vi ((c1 : Nat) : Int), vi ((c2 : Nat) : Int), vi ((j + 1 : Nat) : Int), vi ly, vr m1, vr m2, vi f1, vi f2]) = w503 at hR503 hF503 ⊢
                    refine M.run 4 (pc' := 272) (lv' := [some (vr o), some (vi ((op : Nat) : Int)), some (vi ((gTk L j).1)), some (vi ((gTk L j).2.1)), some (vi 1)]) (st' := [vi (((op : Nat) : Int) + 1), vr o]) rfl ?_
                    rw [show ((op : Nat) : Int) + 1 = ((op + 1 : Nat) : Int) from (by omega)]
                    refine M.callV (ho (by omega) c1 c2 (j + 1) m1 m2 f1 f2 fc fq (by omega) (by omega)) cv_X3_118 cd_X3_one rfl (st := []) rfl (hR503.1) (by omega) (by decide) rfl (Nat.zero_le _) (Nat.zero_le _) hR503 (fun r504 w504 q504 => ?_)
                    rcases hR1 : fo (j + 1) with ⟨e1, k1⟩ | ⟨s1, k1⟩
                    · skip
                      rw [hR1] at q504
                      obtain ⟨hr1, hg1, ⟨hz1, hy1⟩, hK1, gc1, hS1, hC1, hU1⟩ := q504
                      rw [hr1]
                      have hG1 := FrR.tr hF503 hg1
                      refine M.if_eq (tgt := 291) rfl (qI (by decide)) (by decide) (fun q => absurd q (by decide)) (fun _ => ?_)
                      refine M.run 3 (pc' := 281) (lv' := [some (vr o), some (vi ((op : Nat) : Int)), some (vi ((gTk L j).1)), some (vi ((gTk L j).2.1)), some (vi 1)]) (st' := [vi 0, vi ((gTk L j).1), vr o]) rfl ?_
                      refine M.callV (kX3_emit l G o L (c1 + 2 * szE e1) c2 k1 ly m1 m2 f1 f2 gc1 fq (by omega) ((gTk L j).1) 0 (by omega) (by omega)) cv_X3_114 cd_X3_emit rfl (st := []) rfl hS1.1 (by omega) (by decide) rfl (Nat.zero_le _) (Nat.zero_le _) hS1 (fun r506 w507 q508 => ?_)
                      obtain ⟨q508r, hR505, q508f⟩ := q508
                      rw [q508r]
                      have hF505 : FrR o w w507 := FrR.tr hG1 q508f
                      refine M.if_eq (tgt := 291) rfl (qI (by decide)) (by decide) (fun q => absurd q (by decide)) (fun _ => ?_)
                      refine M.run 2 (pc' := 292) (lv' := [some (vr o), some (vi ((op : Nat) : Int)), some (vi ((gTk L j).1)), some (vi ((gTk L j).2.1)), some (vi 1)]) (st' := [vi 1]) rfl ?_
                      exact M.zret rfl (Or.inr rfl) (Nat.zero_le _) (Nat.zero_le _) (by show PQ o L c1 c2 j ly m1 m2 f1 f2 fc fq w _ _ ((pOne L ly op fs fo fe) j); rw [pOne_u (by omega) (by omega) hR1]; exact ⟨rfl, hF505, ⟨(by show szE e1 + 1 + j ≤ k1; omega), hy1⟩, okE_un hK1, _, (by have hq9 := hR505; rw [show c1 + 2 * szE e1 + 2 = c1 + 2 * szE (unE (gTk L j).1 e1) from by show _ = c1 + 2 * (szE e1 + 1); omega] at hq9; exact hq9), un_at hK1 hC1, fun i hi => by rw [uN_o (by omega), uN_o (by omega)]; exact hU1 i hi⟩)
                    · skip
                      rw [hR1] at q504
                      obtain ⟨hr1, hg1, hy1, dd1, gc1, hS1⟩ := q504
                      rw [hr1]
                      have hG1 := FrR.tr hF503 hg1
                      refine M.if_eq (tgt := 291) rfl (qI (by decide)) (by decide) (fun _ => ?_) (fun q => absurd q (by decide))
                      refine M.run 1 (pc' := 292) (lv' := [some (vr o), some (vi ((op : Nat) : Int)), some (vi ((gTk L j).1)), some (vi ((gTk L j).2.1)), some (vi 1)]) (st' := [vi 0]) rfl ?_
                      exact M.zret rfl (Or.inl rfl) (Nat.zero_le _) (Nat.zero_le _) (by show PQ o L c1 c2 j ly m1 m2 f1 f2 fc fq w _ _ ((pOne L ly op fs fo fe) j); rw [pOne_v (by omega) (by omega) hR1]; exact ⟨rfl, hG1, hy1, _, _, hS1⟩)
                  by_cases hs97_2 : (gTk L j).1 = 10
                  · refine M.lsw (tgt := 293) (off := 196) rfl (qI (by omega)) (by decide) (by rw [hs97_2]; rfl) (by decide) ?_
                    have hk300 := hx51 j (by omega)
                    refine M.run 2 (pc' := 295) (lv' := [some (vr o), some (vi ((op : Nat) : Int)), some (vi ((gTk L j).1)), some (vi ((gTk L j).2.1)), some (vi 1)]) (st' := [vr o, vr o]) rfl ?_
                    refine M.get fl_X3_38 rfl hP.1 (kf := 5) (v := vi ((j : Nat) : Int)) rfl ?_
                    refine M.run 2 (pc' := 300) (lv' := [some (vr o), some (vi ((op : Nat) : Int)), some (vi ((gTk L j).1)), some (vi ((gTk L j).2.1)), some (vi 1)]) (st' := [vi (((j : Nat) : Int) + 1), vr o]) rfl ?_
                    rw [show ((j : Nat) : Int) + 1 = ((j + 1 : Nat) : Int) from by omega]
                    refine M.put fl_X3_38 rfl (hP.1) rfl rfl (Nat.le_of_ble_eq_true rfl) ?_
                    change g 0 0 (up w o (Ob 2 [vr (o + 1), vr (o + 5), vr (o + 6), vi ((c1 : Nat) : Int), vi ((c2 : Nat) : Int), vi ((j + 1 : Nat) : Int), vi ly, vr m1, vr m2, vi f1, vi f2])) 303 [some (vr o), some (vi ((op : Nat) : Int)), some (vi ((gTk L j).1)), some (vi ((gTk L j).2.1)), some (vi 1)] []
                    have hR510 : isRe o L c1 c2 (j + 1) ly m1 m2 f1 f2 fc fq (up w o (Ob 2 [vr (o + 1), vr (o + 5), vr (o + 6), vi ((c1 : Nat) : Int), vi ((c2 : Nat) : Int), vi ((j + 1 : Nat) : Int), vi ly, vr m1, vr m2, vi f1, vi f2])) := isRe_1 hP
                    have hF510 : FrR o w (up w o (Ob 2 [vr (o + 1), vr (o + 5), vr (o + 6), vi ((c1 : Nat) : Int), vi ((c2 : Nat) : Int), vi ((j + 1 : Nat) : Int), vi ly, vr m1, vr m2, vi f1, vi f2])) := FrR.u FrR.rf o (by omega)
                    generalize up w o (Ob 2 [vr (o + 1), vr (o + 5), vr (o + 6), vi ((c1 : Nat) : Int), vi ((c2 : Nat) : Int), vi ((j + 1 : Nat) : Int), vi ly, vr m1, vr m2, vi f1, vi f2]) = w510 at hR510 hF510 ⊢
                    refine M.run 4 (pc' := 307) (lv' := [some (vr o), some (vi ((op : Nat) : Int)), some (vi ((gTk L j).1)), some (vi ((gTk L j).2.1)), some (vi 1)]) (st' := [vi (((op : Nat) : Int) + 1), vr o]) rfl ?_
                    rw [show ((op : Nat) : Int) + 1 = ((op + 1 : Nat) : Int) from (by omega)]
                    refine M.callV (he (by omega) c1 c2 (j + 1) m1 m2 f1 f2 fc fq (by omega) (by omega)) cv_X3_124 cd_X3_choice rfl (st := []) rfl (hR510.1) (by omega) (by decide) rfl (Nat.zero_le _) (Nat.zero_le _) hR510 (fun r511 w511 q511 => ?_)
                    rcases hR1 : fe (j + 1) with ⟨e1, k1⟩ | ⟨s1, k1⟩
                    · skip
                      rw [hR1] at q511
                      obtain ⟨hr1, hg1, ⟨hz1, hy1⟩, hK1, gc1, hS1, hC1, hU1⟩ := q511
                      rw [hr1]
                      have hG1 := FrR.tr hF510 hg1
                      exact M.zret rfl (Or.inr rfl) (Nat.zero_le _) (Nat.zero_le _) (by show PQ o L c1 c2 j ly m1 m2 f1 f2 fc fq w _ _ ((pOne L ly op fs fo fe) j); rw [pOne_i (by omega) (by omega), hR1]; exact ⟨rfl, hG1, ⟨by omega, hy1⟩, hK1, _, hS1, hC1, hU1⟩)
                    · skip
                      rw [hR1] at q511
                      obtain ⟨hr1, hg1, hy1, dd1, gc1, hS1⟩ := q511
                      rw [hr1]
                      have hG1 := FrR.tr hF510 hg1
                      exact M.zret rfl (Or.inl rfl) (Nat.zero_le _) (Nat.zero_le _) (by show PQ o L c1 c2 j ly m1 m2 f1 f2 fc fq w _ _ ((pOne L ly op fs fo fe) j); rw [pOne_i (by omega) (by omega), hR1]; exact ⟨rfl, hG1, hy1, _, _, hS1⟩)
                  by_cases hs97_3 : (gTk L j).1 = 35
                  · refine M.lsw (tgt := 222) (off := 125) rfl (qI (by omega)) (by decide) (by rw [hs97_3]; rfl) (by decide) ?_
                    have hk300 := hx51 j (by omega)
                    refine M.run 2 (pc' := 224) (lv' := [some (vr o), some (vi ((op : Nat) : Int)), some (vi ((gTk L j).1)), some (vi ((gTk L j).2.1)), some (vi 1)]) (st' := [vr o, vr o]) rfl ?_
                    refine M.get fl_X3_38 rfl hP.1 (kf := 5) (v := vi ((j : Nat) : Int)) rfl ?_
                    refine M.run 2 (pc' := 229) (lv' := [some (vr o), some (vi ((op : Nat) : Int)), some (vi ((gTk L j).1)), some (vi ((gTk L j).2.1)), some (vi 1)]) (st' := [vi (((j : Nat) : Int) + 1), vr o]) rfl ?_
                    rw [show ((j : Nat) : Int) + 1 = ((j + 1 : Nat) : Int) from by omega]
                    refine M.put fl_X3_38 rfl (hP.1) rfl rfl (Nat.le_of_ble_eq_true rfl) ?_
                    change g 0 0 (up w o (Ob 2 [vr (o + 1), vr (o + 5), vr (o + 6), vi ((c1 : Nat) : Int), vi ((c2 : Nat) : Int), vi ((j + 1 : Nat) : Int), vi ly, vr m1, vr m2, vi f1, vi f2])) 232 [some (vr o), some (vi ((op : Nat) : Int)), some (vi ((gTk L j).1)), some (vi ((gTk L j).2.1)), some (vi 1)] []
                    have hR512 : isRe o L c1 c2 (j + 1) ly m1 m2 f1 f2 fc fq (up w o (Ob 2 [vr (o + 1), vr (o + 5), vr (o + 6), vi ((c1 : Nat) : Int), vi ((c2 : Nat) : Int), vi ((j + 1 : Nat) : Int), vi ly, vr m1, vr m2, vi f1, vi f2])) := isRe_1 hP
                    have hF512 : FrR o w (up w o (Ob 2 [vr (o + 1), vr (o + 5), vr (o + 6), vi ((c1 : Nat) : Int), vi ((c2 : Nat) : Int), vi ((j + 1 : Nat) : Int), vi ly, vr m1, vr m2, vi f1, vi f2])) := FrR.u FrR.rf o (by omega)
                    generalize up w o (Ob 2 [vr (o + 1), vr (o + 5), vr (o + 6), vi ((c1 : Nat) : Int), vi ((c2 : Nat) : Int), vi ((j + 1 : Nat) : Int), vi ly, vr m1, vr m2, vi f1, vi f2]) = w512 at hR512 hF512 ⊢
                    refine M.run 4 (pc' := 236) (lv' := [some (vr o), some (vi ((op : Nat) : Int)), some (vi ((gTk L j).1)), some (vi ((gTk L j).2.1)), some (vi 1)]) (st' := [vi (((op : Nat) : Int) + 1), vr o]) rfl ?_
                    rw [show ((op : Nat) : Int) + 1 = ((op + 1 : Nat) : Int) from (by omega)]
                    refine M.callV (ho (by omega) c1 c2 (j + 1) m1 m2 f1 f2 fc fq (by omega) (by omega)) cv_X3_118 cd_X3_one rfl (st := []) rfl (hR512.1) (by omega) (by decide) rfl (Nat.zero_le _) (Nat.zero_le _) hR512 (fun r513 w513 q513 => ?_)
                    rcases hR1 : fo (j + 1) with ⟨e1, k1⟩ | ⟨s1, k1⟩
                    · skip
                      rw [hR1] at q513
                      obtain ⟨hr1, hg1, ⟨hz1, hy1⟩, hK1, gc1, hS1, hC1, hU1⟩ := q513
                      rw [hr1]
                      have hG1 := FrR.tr hF512 hg1
                      refine M.if_eq (tgt := 256) rfl (qI (by decide)) (by decide) (fun q => absurd q (by decide)) (fun _ => ?_)
                      refine M.run 3 (pc' := 246) (lv' := [some (vr o), some (vi ((op : Nat) : Int)), some (vi ((gTk L j).1)), some (vi ((gTk L j).2.1)), some (vi 1)]) (st' := [vi 0, vi 60, vr o]) rfl ?_
                      refine M.callV (kX3_emit l G o L (c1 + 2 * szE e1) c2 k1 ly m1 m2 f1 f2 gc1 fq (by omega) 60 0 (by omega) (by omega)) cv_X3_114 cd_X3_emit rfl (st := []) rfl hS1.1 (by omega) (by decide) rfl (Nat.zero_le _) (Nat.zero_le _) hS1 (fun r515 w516 q517 => ?_)
                      obtain ⟨q517r, hR514, q517f⟩ := q517
                      rw [q517r]
                      have hF514 : FrR o w w516 := FrR.tr hG1 q517f
                      refine M.if_eq (tgt := 256) rfl (qI (by decide)) (by decide) (fun q => absurd q (by decide)) (fun _ => ?_)
                      refine M.run 2 (pc' := 257) (lv' := [some (vr o), some (vi ((op : Nat) : Int)), some (vi ((gTk L j).1)), some (vi ((gTk L j).2.1)), some (vi 1)]) (st' := [vi 1]) rfl ?_
                      exact M.zret rfl (Or.inr rfl) (Nat.zero_le _) (Nat.zero_le _) (by show PQ o L c1 c2 j ly m1 m2 f1 f2 fc fq w _ _ ((pOne L ly op fs fo fe) j); rw [pOne_m (by omega) (by omega) hR1]; exact ⟨rfl, hF514, ⟨(by show szE e1 + 1 + j ≤ k1; omega), hy1⟩, okE_un hK1, _, (by have hq9 := hR514; rw [show c1 + 2 * szE e1 + 2 = c1 + 2 * szE (unE 60 e1) from by show _ = c1 + 2 * (szE e1 + 1); omega] at hq9; exact hq9), un_at hK1 hC1, fun i hi => by rw [uN_o (by omega), uN_o (by omega)]; exact hU1 i hi⟩)
                    · skip
                      rw [hR1] at q513
                      obtain ⟨hr1, hg1, hy1, dd1, gc1, hS1⟩ := q513
                      rw [hr1]
                      have hG1 := FrR.tr hF512 hg1
                      refine M.if_eq (tgt := 256) rfl (qI (by decide)) (by decide) (fun _ => ?_) (fun q => absurd q (by decide))
                      refine M.run 1 (pc' := 257) (lv' := [some (vr o), some (vi ((op : Nat) : Int)), some (vi ((gTk L j).1)), some (vi ((gTk L j).2.1)), some (vi 1)]) (st' := [vi 0]) rfl ?_
                      exact M.zret rfl (Or.inl rfl) (Nat.zero_le _) (Nat.zero_le _) (by show PQ o L c1 c2 j ly m1 m2 f1 f2 fc fq w _ _ ((pOne L ly op fs fo fe) j); rw [pOne_n (by omega) (by omega) hR1]; exact ⟨rfl, hG1, hy1, _, _, hS1⟩)
                  by_cases hs97_4 : (gTk L j).1 = 38
                  · refine M.lsw (tgt := 187) (off := 90) rfl (qI (by omega)) (by decide) (by rw [hs97_4]; rfl) (by decide) ?_
                    have hk300 := hx51 j (by omega)
                    refine M.run 2 (pc' := 189) (lv' := [some (vr o), some (vi ((op : Nat) : Int)), some (vi ((gTk L j).1)), some (vi ((gTk L j).2.1)), some (vi 1)]) (st' := [vr o, vr o]) rfl ?_
                    refine M.get fl_X3_38 rfl hP.1 (kf := 5) (v := vi ((j : Nat) : Int)) rfl ?_
                    refine M.run 2 (pc' := 194) (lv' := [some (vr o), some (vi ((op : Nat) : Int)), some (vi ((gTk L j).1)), some (vi ((gTk L j).2.1)), some (vi 1)]) (st' := [vi (((j : Nat) : Int) + 1), vr o]) rfl ?_
                    rw [show ((j : Nat) : Int) + 1 = ((j + 1 : Nat) : Int) from by omega]
                    refine M.put fl_X3_38 rfl (hP.1) rfl rfl (Nat.le_of_ble_eq_true rfl) ?_
                    change g 0 0 (up w o (Ob 2 [vr (o + 1), vr (o + 5), vr (o + 6), vi ((c1 : Nat) : Int), vi ((c2 : Nat) : Int), vi ((j + 1 : Nat) : Int), vi ly, vr m1, vr m2, vi f1, vi f2])) 197 [some (vr o), some (vi ((op : Nat) : Int)), some (vi ((gTk L j).1)), some (vi ((gTk L j).2.1)), some (vi 1)] []
                    have hR519 : isRe o L c1 c2 (j + 1) ly m1 m2 f1 f2 fc fq (up w o (Ob 2 [vr (o + 1), vr (o + 5), vr (o + 6), vi ((c1 : Nat) : Int), vi ((c2 : Nat) : Int), vi ((j + 1 : Nat) : Int), vi ly, vr m1, vr m2, vi f1, vi f2])) := isRe_1 hP
                    have hF519 : FrR o w (up w o (Ob 2 [vr (o + 1), vr (o + 5), vr (o + 6), vi ((c1 : Nat) : Int), vi ((c2 : Nat) : Int), vi ((j + 1 : Nat) : Int), vi ly, vr m1, vr m2, vi f1, vi f2])) := FrR.u FrR.rf o (by omega)
                    generalize up w o (Ob 2 [vr (o + 1), vr (o + 5), vr (o + 6), vi ((c1 : Nat) : Int), vi ((c2 : Nat) : Int), vi ((j + 1 : Nat) : Int), vi ly, vr m1, vr m2, vi f1, vi f2]) = w519 at hR519 hF519 ⊢
                    refine M.run 4 (pc' := 201) (lv' := [some (vr o), some (vi ((op : Nat) : Int)), some (vi ((gTk L j).1)), some (vi ((gTk L j).2.1)), some (vi 1)]) (st' := [vi (((op : Nat) : Int) + 1), vr o]) rfl ?_
                    rw [show ((op : Nat) : Int) + 1 = ((op + 1 : Nat) : Int) from (by omega)]
                    refine M.callV (hs (by omega) c1 c2 (j + 1) m1 m2 f1 f2 fc fq (by omega) (by omega)) cv_X3_89 cd_X3_sum rfl (st := []) rfl (hR519.1) (by omega) (by decide) rfl (Nat.zero_le _) (Nat.zero_le _) hR519 (fun r520 w520 q520 => ?_)
                    rcases hR1 : fs (j + 1) with ⟨e1, k1⟩ | ⟨s1, k1⟩
                    · skip
                      rw [hR1] at q520
                      obtain ⟨hr1, hg1, ⟨hz1, hy1⟩, hK1, gc1, hS1, hC1, hU1⟩ := q520
                      rw [hr1]
                      have hG1 := FrR.tr hF519 hg1
                      refine M.if_eq (tgt := 220) rfl (qI (by decide)) (by decide) (fun q => absurd q (by decide)) (fun _ => ?_)
                      refine M.run 2 (pc' := 210) (lv' := [some (vr o), some (vi ((op : Nat) : Int)), some (vi ((gTk L j).1)), some (vi ((gTk L j).2.1)), some (vi 1)]) (st' := [vi 39, vr o]) rfl ?_
                      refine M.callV (kX3_take l G o L (c1 + 2 * szE e1) c2 k1 ly m1 m2 f1 f2 gc1 fq (by omega) hB 39 (by omega)) cv_X3_92 cd_X3_take rfl (st := []) rfl (hS1.1) (by omega) (by decide) rfl (Nat.zero_le _) (Nat.zero_le _) hS1 (fun r521 w521 q521 => ?_)
                      by_cases hT1 : (gTk L k1).1 = 39
                      · skip
                        rw [if_pos hT1] at q521
                        obtain ⟨hr1_, hS1_, hg1_⟩ := q521
                        rw [hr1_]
                        have hG1_ := FrR.tr hG1 hg1_
                        have hk301 := hx51 k1 (by omega)
                        refine M.if_eq (tgt := 220) rfl (qI (by decide)) (by decide) (fun q => absurd q (by decide)) (fun _ => ?_)
                        refine M.run 2 (pc' := 221) (lv' := [some (vr o), some (vi ((op : Nat) : Int)), some (vi ((gTk L j).1)), some (vi ((gTk L j).2.1)), some (vi 1)]) (st' := [vi 1]) rfl ?_
                        exact M.zret rfl (Or.inr rfl) (Nat.zero_le _) (Nat.zero_le _) (by show PQ o L c1 c2 j ly m1 m2 f1 f2 fc fq w _ _ ((pOne L ly op fs fo fe) j); rw [pOne_b (by omega) (by omega) hR1 hT1]; exact ⟨rfl, hG1_, ⟨by omega, by omega⟩, hK1, _, hS1_, hC1, hU1⟩)
                      · skip
                        rw [if_neg hT1] at q521
                        obtain ⟨hr1_, hS1_, hg1_⟩ := q521
                        rw [hr1_]
                        have hG1_ := FrR.tr hG1 hg1_
                        refine M.if_eq (tgt := 220) rfl (qI (by decide)) (by decide) (fun _ => ?_) (fun q => absurd q (by decide))
                        refine M.run 1 (pc' := 221) (lv' := [some (vr o), some (vi ((op : Nat) : Int)), some (vi ((gTk L j).1)), some (vi ((gTk L j).2.1)), some (vi 1)]) (st' := [vi 0]) rfl ?_
                        exact M.zret rfl (Or.inl rfl) (Nat.zero_le _) (Nat.zero_le _) (by show PQ o L c1 c2 j ly m1 m2 f1 f2 fc fq w _ _ ((pOne L ly op fs fo fe) j); rw [pOne_c (by omega) (by omega) hR1 hT1]; exact ⟨rfl, hG1_, hy1, _, _, hS1_⟩)
                    · skip
                      rw [hR1] at q520
                      obtain ⟨hr1, hg1, hy1, dd1, gc1, hS1⟩ := q520
                      rw [hr1]
                      have hG1 := FrR.tr hF519 hg1
                      refine M.if_eq (tgt := 220) rfl (qI (by decide)) (by decide) (fun _ => ?_) (fun q => absurd q (by decide))
                      refine M.run 1 (pc' := 221) (lv' := [some (vr o), some (vi ((op : Nat) : Int)), some (vi ((gTk L j).1)), some (vi ((gTk L j).2.1)), some (vi 1)]) (st' := [vi 0]) rfl ?_
                      exact M.zret rfl (Or.inl rfl) (Nat.zero_le _) (Nat.zero_le _) (by show PQ o L c1 c2 j ly m1 m2 f1 f2 fc fq w _ _ ((pOne L ly op fs fo fe) j); rw [pOne_e (by omega) (by omega) hR1]; exact ⟨rfl, hG1, hy1, _, _, hS1⟩)
                  by_cases hs97_5 : (gTk L j).1 = 50
                  · refine M.lsw (tgt := 156) (off := 59) rfl (qI (by omega)) (by decide) (by rw [hs97_5]; rfl) (by decide) ?_
                    refine M.run 2 (pc' := 160) (lv' := [some (vr o), some (vi ((op : Nat) : Int)), some (vi ((gTk L j).1)), some (vi ((gTk L j).2.1)), some (vi 1)]) (st' := [vi 9999, vi ((gTk L j).2.1)]) rfl ?_
                    refine M.icmp_le (tgt := 169) rfl (qI (by omega)) (qI (by decide)) (by decide) (fun h160 => ?_) (fun h160 => ?_)
                    · skip
                      have hk300 := hx51 j (by omega)
                      refine M.run 2 (pc' := 171) (lv' := [some (vr o), some (vi ((op : Nat) : Int)), some (vi ((gTk L j).1)), some (vi ((gTk L j).2.1)), some (vi 1)]) (st' := [vr o, vr o]) rfl ?_
                      refine M.get fl_X3_38 rfl hP.1 (kf := 5) (v := vi ((j : Nat) : Int)) rfl ?_
                      refine M.run 2 (pc' := 176) (lv' := [some (vr o), some (vi ((op : Nat) : Int)), some (vi ((gTk L j).1)), some (vi ((gTk L j).2.1)), some (vi 1)]) (st' := [vi (((j : Nat) : Int) + 1), vr o]) rfl ?_
                      rw [show ((j : Nat) : Int) + 1 = ((j + 1 : Nat) : Int) from by omega]
                      refine M.put fl_X3_38 rfl (hP.1) rfl rfl (Nat.le_of_ble_eq_true rfl) ?_
                      change g 0 0 (up w o (Ob 2 [vr (o + 1), vr (o + 5), vr (o + 6), vi ((c1 : Nat) : Int), vi ((c2 : Nat) : Int), vi ((j + 1 : Nat) : Int), vi ly, vr m1, vr m2, vi f1, vi f2])) 179 [some (vr o), some (vi ((op : Nat) : Int)), some (vi ((gTk L j).1)), some (vi ((gTk L j).2.1)), some (vi 1)] []
                      have hR522 : isRe o L c1 c2 (j + 1) ly m1 m2 f1 f2 fc fq (up w o (Ob 2 [vr (o + 1), vr (o + 5), vr (o + 6), vi ((c1 : Nat) : Int), vi ((c2 : Nat) : Int), vi ((j + 1 : Nat) : Int), vi ly, vr m1, vr m2, vi f1, vi f2])) := isRe_1 hP
                      have hF522 : FrR o w (up w o (Ob 2 [vr (o + 1), vr (o + 5), vr (o + 6), vi ((c1 : Nat) : Int), vi ((c2 : Nat) : Int), vi ((j + 1 : Nat) : Int), vi ly, vr m1, vr m2, vi f1, vi f2])) := FrR.u FrR.rf o (by omega)
                      generalize up w o (Ob 2 [vr (o + 1), vr (o + 5), vr (o + 6), vi ((c1 : Nat) : Int), vi ((c2 : Nat) : Int), vi ((j + 1 : Nat) : Int), vi ly, vr m1, vr m2, vi f1, vi f2]) = w522 at hR522 hF522 ⊢
                      refine M.run 3 (pc' := 183) (lv' := [some (vr o), some (vi ((op : Nat) : Int)), some (vi ((gTk L j).1)), some (vi ((gTk L j).2.1)), some (vi 1)]) (st' := [vi ((gTk L j).2.1), vi 50, vr o]) rfl ?_
                      refine M.callV (kX3_emit l G o L c1 c2 (j + 1) ly m1 m2 f1 f2 fc fq (by omega) 50 ((gTk L j).2.1) (by omega) (by omega)) cv_X3_114 cd_X3_emit rfl (st := []) rfl hR522.1 (by omega) (by decide) rfl (Nat.zero_le _) (Nat.zero_le _) hR522 (fun r524 w525 q526 => ?_)
                      obtain ⟨q526r, hR523, q526f⟩ := q526
                      rw [q526r]
                      have hF523 : FrR o w w525 := FrR.tr hF522 q526f
                      exact M.zret rfl (Or.inr rfl) (Nat.zero_le _) (Nat.zero_le _) (by show PQ o L c1 c2 j ly m1 m2 f1 f2 fc fq w _ _ ((pOne L ly op fs fo fe) j); rw [pOne_f (by omega) (by omega)]; exact ⟨rfl, hF523, ⟨(by show 1 + j ≤ j + 1; omega), by omega⟩, okE_lf, _, hR523, lf_at, fun i hi => by rw [uN_o (by omega), uN_o (by omega)]⟩)
                    · skip
                      refine M.run 2 (pc' := 165) (lv' := [some (vr o), some (vi ((op : Nat) : Int)), some (vi ((gTk L j).1)), some (vi ((gTk L j).2.1)), some (vi 1)]) (st' := [vi 2, vr o]) rfl ?_
                      refine M.callV (kX3_refuse l G o L c1 c2 j ly m1 m2 f1 f2 fc fq (by omega) hB 2 (by omega)) cv_X3_73 cd_X3_refuse rfl (st := []) rfl hP.1 (by omega) (by decide) rfl (Nat.zero_le _) (Nat.zero_le _) hP (fun r529 w530 q531 => ?_)
                      obtain ⟨q531r, hR528, q531f⟩ := q531
                      rw [q531r]
                      have hF528 : FrR o w w530 := FrR.tr FrR.rf q531f
                      exact M.zret rfl (Or.inl rfl) (Nat.zero_le _) (Nat.zero_le _) (by show PQ o L c1 c2 j ly m1 m2 f1 f2 fc fq w _ _ ((pOne L ly op fs fo fe) j); rw [pOne_g (by omega) (by omega)]; exact ⟨rfl, hF528, hj, _, _, hR528⟩)
                  refine M.lsw (tgt := 311) (off := 214) rfl (qI (by omega)) (by decide) (by rw [Op.lookupswitch.offset_cons, if_neg (fun q => hs97_0 q.symm), Op.lookupswitch.offset_cons, if_neg (fun q => hs97_1 q.symm), Op.lookupswitch.offset_cons, if_neg (fun q => hs97_2 q.symm), Op.lookupswitch.offset_cons, if_neg (fun q => hs97_3 q.symm), Op.lookupswitch.offset_cons, if_neg (fun q => hs97_4 q.symm), Op.lookupswitch.offset_cons, if_neg (fun q => hs97_5 q.symm)]; rfl) (by decide) ?_
                  refine M.run 2 (pc' := 313) (lv' := [some (vr o), some (vi ((op : Nat) : Int)), some (vi ((gTk L j).1)), some (vi ((gTk L j).2.1)), some (vi 1)]) (st' := [vi 1, vr o]) rfl ?_
                  refine M.callV (kX3_refuse l G o L c1 c2 j ly m1 m2 f1 f2 fc fq (by omega) hB 1 (by omega)) cv_X3_73 cd_X3_refuse rfl (st := []) rfl hP.1 (by omega) (by decide) rfl (Nat.zero_le _) (Nat.zero_le _) hP (fun r534 w535 q536 => ?_)
                  obtain ⟨q536r, hR533, q536f⟩ := q536
                  rw [q536r]
                  have hF533 : FrR o w w535 := FrR.tr FrR.rf q536f
                  exact M.zret rfl (Or.inl rfl) (Nat.zero_le _) (Nat.zero_le _) (by show PQ o L c1 c2 j ly m1 m2 f1 f2 fc fq w _ _ ((pOne L ly op fs fo fe) j); rw [pOne_o (by omega) (by omega) (by omega)]; exact ⟨rfl, hF533, hj, _, _, hR533⟩)
                · skip
                  have hk300 := hx51 j (by omega)
                  refine M.run 2 (pc' := 92) (lv' := [some (vr o), some (vi ((op : Nat) : Int)), some (vi ((gTk L j).1)), some (vi ((gTk L j).2.1)), some (vi 1)]) (st' := [vi ((gTk L j).1), vr o]) rfl ?_
                  refine M.callV (kX3_name l G o L c1 c2 j ly m1 m2 f1 f2 fc fq (by omega) hB (by omega) hly ((gTk L j).1) (by omega)) cv_X3_121 cd_X3_name rfl (st := []) rfl (hP.1) (by omega) (by decide) rfl (Nat.zero_le _) (Nat.zero_le _) hP (fun r538 w538 q538 => ?_)
                  by_cases hT1 : ((gTk L j).1) = (if ly = 0 then 23 else 22)
                  · skip
                    rw [if_pos hT1] at q538
                    obtain ⟨hr1_, hS1_, hg1_⟩ := q538
                    rw [hr1_]
                    have hG1_ := FrR.tr FrR.rf hg1_
                    exact M.zret rfl (Or.inl rfl) (Nat.zero_le _) (Nat.zero_le _) (by show PQ o L c1 c2 j ly m1 m2 f1 f2 fc fq w _ _ ((pOne L ly op fs fo fe) j); rw [pOne_x (by omega) (by omega) hT1]; exact ⟨rfl, hG1_, hj, _, _, hS1_⟩)
                  · skip
                    rw [if_neg hT1] at q538
                    obtain ⟨hr1_, hS1_, hg1_⟩ := q538
                    rw [hr1_]
                    have hG1_ := FrR.tr FrR.rf hg1_
                    exact M.zret rfl (Or.inr rfl) (Nat.zero_le _) (Nat.zero_le _) (by show PQ o L c1 c2 j ly m1 m2 f1 f2 fc fq w _ _ ((pOne L ly op fs fo fe) j); rw [pOne_y (by omega) (by omega) hT1]; exact ⟨rfl, hG1_, ⟨(by show 1 + j ≤ j + 1; omega), by omega⟩, okE_lf, _, hS1_, lf_at, fun i hi => by rw [uN_o (by omega), uN_o (by omega)]⟩)
            · skip
              refine M.run 2 (pc' := 74) (lv' := [some (vr o), some (vi ((op : Nat) : Int)), some (vi ((gTk L j).1)), some (vi ((gTk L j).2.1)), some (vi 1)]) (st' := [vi 3, vr o]) rfl ?_
              refine M.callV (kX3_refuse l G o L c1 c2 j ly m1 m2 f1 f2 fc fq (by omega) hB 3 (by omega)) cv_X3_73 cd_X3_refuse rfl (st := []) rfl hP.1 (by omega) (by decide) rfl (Nat.zero_le _) (Nat.zero_le _) hP (fun r540 w541 q542 => ?_)
              obtain ⟨q542r, hR539, q542f⟩ := q542
              rw [q542r]
              have hF539 : FrR o w w541 := FrR.tr FrR.rf q542f
              exact M.zret rfl (Or.inl rfl) (Nat.zero_le _) (Nat.zero_le _) (by show PQ o L c1 c2 j ly m1 m2 f1 f2 fc fq w _ _ ((pOne L ly op fs fo fe) j); rw [pOne_d ⟨by omega, by omega⟩]; exact ⟨rfl, hF539, hj, _, _, hR539⟩)
