abbrev Nr : Type := (Int × Nat) ⊕ (Int × Nat)
abbrev Dr : Type := ((Int × Int) × Nat) ⊕ (Int × Nat)
def pNum (L : List (Int × Int × Int)) (lo hi : Int) (j : Nat) : Nr := if (gTk L j).1 = 50 then (if lo ≤ (gTk L j).2.1 ∧ (gTk L j).2.1 ≤ hi then .inl ((gTk L j).2.1, j + 1) else .inr (2, j)) else .inr (1, j)
def dB (r : Nr) (f : Int → Nat → Dr) : Dr := match r with
  | .inl (a, k) => f a k
  | .inr e => .inr e
def dF (L : List (Int × Int × Int)) (a b : Int) (k : Nat) : Dr := if (gTk L k).1 = 40 then .inl ((a, b), k + 1) else .inr (1, k)
theorem dB_l {a : Int} {k : Nat} {f : Int → Nat → Dr} : dB (.inl (a, k)) f = f a k := rfl
theorem dB_r {e : Int × Nat} {f : Int → Nat → Dr} : dB (.inr e) f = .inr e := rfl
theorem pNum_a {L : List (Int × Int × Int)} {lo hi : Int} {j : Nat} (h : (gTk L j).1 = 50) (h2 : lo ≤ (gTk L j).2.1 ∧ (gTk L j).2.1 ≤ hi) : pNum L lo hi j = .inl ((gTk L j).2.1, j + 1) := by unfold pNum; rw [if_pos h, if_pos h2]
theorem pNum_b {L : List (Int × Int × Int)} {lo hi : Int} {j : Nat} (h : (gTk L j).1 = 50) (h2 : ¬ (lo ≤ (gTk L j).2.1 ∧ (gTk L j).2.1 ≤ hi)) : pNum L lo hi j = .inr (2, j) := by unfold pNum; rw [if_pos h, if_neg h2]
theorem pNum_c {L : List (Int × Int × Int)} {lo hi : Int} {j : Nat} (h : ¬ (gTk L j).1 = 50) : pNum L lo hi j = .inr (1, j) := by unfold pNum; rw [if_neg h]
/-- what stands behind block, open, cancel or day -/
def pDee (L : List (Int × Int × Int)) (x : Int) (j : Nat) : Dr :=
  if x = 2 then dB (pNum L 0 30 j) (fun a k => if (gTk L k).1 = 6 then dB (pNum L (max 1 a) 30 (k + 1)) (fun b k2 => dF L a b k2) else .inr (1, k))
  else if x = 3 then dB (pNum L 0 2 j) (fun a k => dF L a 0 k)
  else if x = 4 then dB (pNum L 0 2 j) (fun a k => if (gTk L k).1 = 7 then dB (pNum L 0 1 (k + 1)) (fun b k2 => dF L a b k2) else .inr (1, k))
  else dB (pNum L 1 30 j) (fun a k => dF L a 0 k)
def QD (o : Nat) (L : List (Int × Int × Int)) (c1 c2 : Nat) (ly : Int) (m1 m2 : Nat) (f1 f2 : Int) (fc fq : Nat → Int) (x : Int) (w : Wo) (r : Option AV) (w' : Wo) : Dr → Prop
  | .inl (v, k) => r = some (vi 1) ∧ FrR o w w' ∧ k ≤ 301 ∧ isRe o L c1 (c2 + 1) k ly m1 m2 f1 f2 fc (uN (uN (uN fq (3 * c2) x) (3 * c2 + 1) v.1) (3 * c2 + 2) v.2) w'
  | .inr (s, k) => r = some (vi 0) ∧ FrR o w w' ∧ k ≤ 301 ∧ isRe o L c1 c2 k ly m1 m2 s (gTk L k).2.2 fc fq w'

set_option maxHeartbeats 4000000 in
set_option maxRecDepth 100000 in
theorem kX3_deedClause (l : Launch) (G : GT) (o : Nat) (L : List (Int × Int × Int)) (c1 c2 j : Nat) (ly : Int) (m1 m2 : Nat) (f1 f2 : Int) (fc fq : Nat → Int) (hj : j ≤ 301) (hB : tkB L) (hx51 : ∀ j : Nat, (gTk L j).1 ≠ 51 → j ≤ 300) (hc2 : c2 < 24) (x : Int) (hx : 2 ≤ x ∧ x ≤ 5) : Ctr l G yX3_deedClause cX3_deedClause 4 ((Option.some Jvm.ClassFile.FieldType.boolean)) 5 0 0 [vr o, vi x] (fun w => isRe o L c1 c2 j ly m1 m2 f1 f2 fc fq w) (fun w r w' => QD o L c1 c2 ly m1 m2 f1 f2 fc fq x w r w' (pDee L x j)) := by
  refine Ctr.of (t := tX3_deedClause) (lv0 := [some (vr o), some (vi x), none, none]) (by decide +kernel) tX3_deedClause_ok rfl rfl (fun w g hP M => ?_)
  refine M.run 5 (pc' := 5) (lv' := [some (vr o), some (vi x), some (vi 0), some (vi 0)]) (st' := [vi x]) rfl ?_
  by_cases hs5_0 : x = 2
  · refine M.tswIn (tgt := 32) (off := 27) rfl (qI (by omega)) (by omega) (by omega) (by rw [hs5_0]; rfl) (by decide) ?_
    refine M.run 3 (pc' := 36) (lv' := [some (vr o), some (vi x), some (vi 0), some (vi 0)]) (st' := [vi 30, vi 0, vr o]) rfl ?_
    obtain ⟨_, ⟨hva1, hvb1⟩, _⟩ := hB j
    refine M.callV (kX3_number l G o L c1 c2 j ly m1 m2 f1 f2 fc fq (by omega) hB 0 30 (by omega) (by omega)) cv_X3_99 cd_X3_number rfl (st := []) rfl (hP.1) (by omega) (by decide) rfl (Nat.zero_le _) (Nat.zero_le _) hP (fun r1 w1 q1 => ?_)
    by_cases hN1 : (gTk L j).1 = 50
    · skip
      rw [if_pos hN1] at q1
      have hk_1 := hx51 j (by omega)
      by_cases hM1 : 0 ≤ (gTk L j).2.1 ∧ (gTk L j).2.1 ≤ 30
      · skip
        rw [if_pos hM1] at q1
        obtain ⟨hr1n, hS1n, hg1n⟩ := q1
        rw [hr1n]
        have hG1n := FrR.tr FrR.rf hg1n
        refine M.run 3 (pc' := 42) (lv' := [some (vr o), some (vi x), some (vi ((gTk L j).2.1)), some (vi 0)]) (st' := [vi (-1), vi ((gTk L j).2.1)]) rfl ?_
        refine M.icmp_eq (tgt := 54) rfl (qI (by omega)) (qI (by decide)) (by decide) (fun h42 => ?_) (fun h42 => ?_)
        · skip
          omega
        · skip
          refine M.run 2 (pc' := 48) (lv' := [some (vr o), some (vi x), some (vi ((gTk L j).2.1)), some (vi 0)]) (st' := [vi 6, vr o]) rfl ?_
          refine M.callV (kX3_take l G o L c1 c2 (j + 1) ly m1 m2 f1 f2 fc fq (by omega) hB 6 (by omega)) cv_X3_92 cd_X3_take rfl (st := []) rfl (hS1n.1) (by omega) (by decide) rfl (Nat.zero_le _) (Nat.zero_le _) hS1n (fun r2 w2 q2 => ?_)
          by_cases hT1 : (gTk L (j + 1)).1 = 6
          · skip
            rw [if_pos hT1] at q2
            obtain ⟨hr1_, hS1_, hg1_⟩ := q2
            rw [hr1_]
            have hG1_ := FrR.tr hG1n hg1_
            have hk_t1 := hx51 (j + 1) (by omega)
            refine M.if_ne (tgt := 56) rfl (qI (by decide)) (by decide) (fun _ => ?_) (fun q => absurd q (by decide))
            refine M.run 3 (pc' := 59) (lv' := [some (vr o), some (vi x), some (vi ((gTk L j).2.1)), some (vi 0)]) (st' := [vi ((gTk L j).2.1), vi 1, vr o]) rfl ?_
            refine M.mmax cs_X3_103 rfl (qI (by decide)) (qI (by omega)) (by decide) (Nat.zero_le _) (Nat.zero_le _) rfl ?_
            refine M.run 1 (pc' := 64) (lv' := [some (vr o), some (vi x), some (vi ((gTk L j).2.1)), some (vi 0)]) (st' := [vi 30, vi (max 1 ((gTk L j).2.1)), vr o]) rfl ?_
            obtain ⟨_, ⟨hva2, hvb2⟩, _⟩ := hB (j + 1 + 1)
            refine M.callV (kX3_number l G o L c1 c2 (j + 1 + 1) ly m1 m2 f1 f2 fc fq (by omega) hB (max 1 ((gTk L j).2.1)) 30 (by omega) (by omega)) cv_X3_99 cd_X3_number rfl (st := []) rfl (hS1_.1) (by omega) (by decide) rfl (Nat.zero_le _) (Nat.zero_le _) hS1_ (fun r3 w3 q3 => ?_)
            by_cases hN2 : (gTk L (j + 1 + 1)).1 = 50
            · skip
              rw [if_pos hN2] at q3
              have hk_2 := hx51 (j + 1 + 1) (by omega)
              by_cases hM2 : (max 1 ((gTk L j).2.1)) ≤ (gTk L (j + 1 + 1)).2.1 ∧ (gTk L (j + 1 + 1)).2.1 ≤ 30
              · skip
                rw [if_pos hM2] at q3
                obtain ⟨hr2n, hS2n, hg2n⟩ := q3
                rw [hr2n]
                have hG2n := FrR.tr hG1_ hg2n
                refine M.run 4 (pc' := 124) (lv' := [some (vr o), some (vi x), some (vi ((gTk L j).2.1)), some (vi ((gTk L (j + 1 + 1)).2.1))]) (st' := [vi (-1), vi ((gTk L j).2.1)]) rfl ?_
                refine M.icmp_eq (tgt := 141) rfl (qI (by omega)) (qI (by decide)) (by decide) (fun h124 => ?_) (fun h124 => ?_)
                · skip
                  omega
                · skip
                  refine M.run 2 (pc' := 129) (lv' := [some (vr o), some (vi x), some (vi ((gTk L j).2.1)), some (vi ((gTk L (j + 1 + 1)).2.1))]) (st' := [vi (-1), vi ((gTk L (j + 1 + 1)).2.1)]) rfl ?_
                  refine M.icmp_eq (tgt := 141) rfl (qI (by omega)) (qI (by decide)) (by decide) (fun h129 => ?_) (fun h129 => ?_)
                  · skip
                    omega
                  · skip
                    refine M.run 2 (pc' := 135) (lv' := [some (vr o), some (vi x), some (vi ((gTk L j).2.1)), some (vi ((gTk L (j + 1 + 1)).2.1))]) (st' := [vi 40, vr o]) rfl ?_
                    refine M.callV (kX3_take l G o L c1 c2 (j + 1 + 1 + 1) ly m1 m2 f1 f2 fc fq (by omega) hB 40 (by omega)) cv_X3_92 cd_X3_take rfl (st := []) rfl (hS2n.1) (by omega) (by decide) rfl (Nat.zero_le _) (Nat.zero_le _) hS2n (fun r4 w4 q4 => ?_)
                    by_cases hT2 : (gTk L (j + 1 + 1 + 1)).1 = 40
                    · skip
                      rw [if_pos hT2] at q4
                      obtain ⟨hr2_, hS2_, hg2_⟩ := q4
                      rw [hr2_]
                      have hG2_ := FrR.tr hG2n hg2_
                      have hk_t2 := hx51 (j + 1 + 1 + 1) (by omega)
                      refine M.if_ne (tgt := 143) rfl (qI (by decide)) (by decide) (fun _ => ?_) (fun q => absurd q (by decide))
                      refine M.run 4 (pc' := 147) (lv' := [some (vr o), some (vi x), some (vi ((gTk L j).2.1)), some (vi ((gTk L (j + 1 + 1)).2.1))]) (st' := [vi ((gTk L (j + 1 + 1)).2.1), vi ((gTk L j).2.1), vi x, vr o]) rfl ?_
                      refine M.callV (kX3_addClause l G o L c1 c2 (j + 1 + 1 + 1 + 1) ly m1 m2 f1 f2 fc fq (by omega) x ((gTk L j).2.1) ((gTk L (j + 1 + 1)).2.1) (by omega) (by omega) (by omega)) cv_X3_95 cd_X3_addClause rfl (st := []) rfl hS2_.1 (by omega) (by decide) rfl (Nat.zero_le _) (Nat.zero_le _) hS2_ (fun r6 w7 q8 => ?_)
                      obtain ⟨q8r, hR5, q8f⟩ := q8
                      rw [q8r]
                      have hF5 : FrR o w w7 := FrR.tr hG2_ q8f
                      refine M.run 1 (pc' := 151) (lv' := [some (vr o), some (vi x), some (vi ((gTk L j).2.1)), some (vi ((gTk L (j + 1 + 1)).2.1))]) (st' := [vi 1]) rfl ?_
                      exact M.zret rfl (Or.inr rfl) (Nat.zero_le _) (Nat.zero_le _) (by rw [show pDee L x j = .inl (((gTk L j).2.1, (gTk L (j + 1 + 1)).2.1), j + 1 + 1 + 1 + 1) from by simp only [pDee, dF, dB_l, dB_r, hs5_0, pNum_a hN1 hM1, pNum_a hN2 hM2, hT1, hT2, Int.reduceEq, ↓reduceIte]]; exact ⟨rfl, hF5, by omega, hR5⟩)
                    · skip
                      rw [if_neg hT2] at q4
                      obtain ⟨hr2_, hS2_, hg2_⟩ := q4
                      rw [hr2_]
                      have hG2_ := FrR.tr hG2n hg2_
                      refine M.if_ne (tgt := 143) rfl (qI (by decide)) (by decide) (fun q => absurd q (by decide)) (fun _ => ?_)
                      refine M.run 1 (pc' := 142) (lv' := [some (vr o), some (vi x), some (vi ((gTk L j).2.1)), some (vi ((gTk L (j + 1 + 1)).2.1))]) (st' := [vi 0]) rfl ?_
                      exact M.zret rfl (Or.inl rfl) (Nat.zero_le _) (Nat.zero_le _) (by rw [show pDee L x j = .inr (1, j + 1 + 1 + 1) from by simp only [pDee, dF, dB_l, dB_r, hs5_0, pNum_a hN1 hM1, pNum_a hN2 hM2, hT1, hT2, Int.reduceEq, ↓reduceIte]]; exact ⟨rfl, hG2_, by omega, hS2_⟩)
              · skip
                rw [if_neg hM2] at q3
                obtain ⟨hr2n, hS2n, hg2n⟩ := q3
                rw [hr2n]
                have hG2n := FrR.tr hG1_ hg2n
                refine M.run 4 (pc' := 124) (lv' := [some (vr o), some (vi x), some (vi ((gTk L j).2.1)), some (vi (-1))]) (st' := [vi (-1), vi ((gTk L j).2.1)]) rfl ?_
                refine M.icmp_eq (tgt := 141) rfl (qI (by omega)) (qI (by decide)) (by decide) (fun h124 => ?_) (fun h124 => ?_)
                · skip
                  omega
                · skip
                  refine M.run 2 (pc' := 129) (lv' := [some (vr o), some (vi x), some (vi ((gTk L j).2.1)), some (vi (-1))]) (st' := [vi (-1), vi (-1)]) rfl ?_
                  refine M.icmp_eq (tgt := 141) rfl (qI (by decide)) (qI (by decide)) (by decide) (fun _ => ?_) (fun q => absurd q (by decide))
                  refine M.run 1 (pc' := 142) (lv' := [some (vr o), some (vi x), some (vi ((gTk L j).2.1)), some (vi (-1))]) (st' := [vi 0]) rfl ?_
                  exact M.zret rfl (Or.inl rfl) (Nat.zero_le _) (Nat.zero_le _) (by rw [show pDee L x j = .inr (2, j + 1 + 1) from by simp only [pDee, dF, dB_l, dB_r, hs5_0, pNum_a hN1 hM1, pNum_b hN2 hM2, hT1, Int.reduceEq, ↓reduceIte]]; exact ⟨rfl, hG2n, by omega, hS2n⟩)
            · skip
              rw [if_neg hN2] at q3
              obtain ⟨hr2n, hS2n, hg2n⟩ := q3
              rw [hr2n]
              have hG2n := FrR.tr hG1_ hg2n
              refine M.run 4 (pc' := 124) (lv' := [some (vr o), some (vi x), some (vi ((gTk L j).2.1)), some (vi (-1))]) (st' := [vi (-1), vi ((gTk L j).2.1)]) rfl ?_
              refine M.icmp_eq (tgt := 141) rfl (qI (by omega)) (qI (by decide)) (by decide) (fun h124 => ?_) (fun h124 => ?_)
              · skip
                omega
              · skip
                refine M.run 2 (pc' := 129) (lv' := [some (vr o), some (vi x), some (vi ((gTk L j).2.1)), some (vi (-1))]) (st' := [vi (-1), vi (-1)]) rfl ?_
                refine M.icmp_eq (tgt := 141) rfl (qI (by decide)) (qI (by decide)) (by decide) (fun _ => ?_) (fun q => absurd q (by decide))
                refine M.run 1 (pc' := 142) (lv' := [some (vr o), some (vi x), some (vi ((gTk L j).2.1)), some (vi (-1))]) (st' := [vi 0]) rfl ?_
                exact M.zret rfl (Or.inl rfl) (Nat.zero_le _) (Nat.zero_le _) (by rw [show pDee L x j = .inr (1, j + 1 + 1) from by simp only [pDee, dF, dB_l, dB_r, hs5_0, pNum_a hN1 hM1, pNum_c hN2, hT1, Int.reduceEq, ↓reduceIte]]; exact ⟨rfl, hG2n, by omega, hS2n⟩)
          · skip
            rw [if_neg hT1] at q2
            obtain ⟨hr1_, hS1_, hg1_⟩ := q2
            rw [hr1_]
            have hG1_ := FrR.tr hG1n hg1_
            refine M.if_ne (tgt := 56) rfl (qI (by decide)) (by decide) (fun q => absurd q (by decide)) (fun _ => ?_)
            refine M.run 1 (pc' := 55) (lv' := [some (vr o), some (vi x), some (vi ((gTk L j).2.1)), some (vi 0)]) (st' := [vi 0]) rfl ?_
            exact M.zret rfl (Or.inl rfl) (Nat.zero_le _) (Nat.zero_le _) (by rw [show pDee L x j = .inr (1, j + 1) from by simp only [pDee, dF, dB_l, dB_r, hs5_0, pNum_a hN1 hM1, hT1, Int.reduceEq, ↓reduceIte]]; exact ⟨rfl, hG1_, by omega, hS1_⟩)
      · skip
        rw [if_neg hM1] at q1
        obtain ⟨hr1n, hS1n, hg1n⟩ := q1
        rw [hr1n]
        have hG1n := FrR.tr FrR.rf hg1n
        refine M.run 3 (pc' := 42) (lv' := [some (vr o), some (vi x), some (vi (-1)), some (vi 0)]) (st' := [vi (-1), vi (-1)]) rfl ?_
        refine M.icmp_eq (tgt := 54) rfl (qI (by decide)) (qI (by decide)) (by decide) (fun _ => ?_) (fun q => absurd q (by decide))
        refine M.run 1 (pc' := 55) (lv' := [some (vr o), some (vi x), some (vi (-1)), some (vi 0)]) (st' := [vi 0]) rfl ?_
        exact M.zret rfl (Or.inl rfl) (Nat.zero_le _) (Nat.zero_le _) (by rw [show pDee L x j = .inr (2, j) from by simp only [pDee, dF, dB_l, dB_r, hs5_0, pNum_b hN1 hM1, Int.reduceEq, ↓reduceIte]]; exact ⟨rfl, hG1n, by omega, hS1n⟩)
    · skip
      rw [if_neg hN1] at q1
      obtain ⟨hr1n, hS1n, hg1n⟩ := q1
      rw [hr1n]
      have hG1n := FrR.tr FrR.rf hg1n
      refine M.run 3 (pc' := 42) (lv' := [some (vr o), some (vi x), some (vi (-1)), some (vi 0)]) (st' := [vi (-1), vi (-1)]) rfl ?_
      refine M.icmp_eq (tgt := 54) rfl (qI (by decide)) (qI (by decide)) (by decide) (fun _ => ?_) (fun q => absurd q (by decide))
      refine M.run 1 (pc' := 55) (lv' := [some (vr o), some (vi x), some (vi (-1)), some (vi 0)]) (st' := [vi 0]) rfl ?_
      exact M.zret rfl (Or.inl rfl) (Nat.zero_le _) (Nat.zero_le _) (by rw [show pDee L x j = .inr (1, j) from by simp only [pDee, dF, dB_l, dB_r, hs5_0, pNum_c hN1, Int.reduceEq, ↓reduceIte]]; exact ⟨rfl, hG1n, by omega, hS1n⟩)
  by_cases hs5_1 : x = 3
  · refine M.tswIn (tgt := 71) (off := 66) rfl (qI (by omega)) (by omega) (by omega) (by rw [hs5_1]; rfl) (by decide) ?_
    refine M.run 3 (pc' := 74) (lv' := [some (vr o), some (vi x), some (vi 0), some (vi 0)]) (st' := [vi 2, vi 0, vr o]) rfl ?_
    obtain ⟨_, ⟨hva1, hvb1⟩, _⟩ := hB j
    refine M.callV (kX3_number l G o L c1 c2 j ly m1 m2 f1 f2 fc fq (by omega) hB 0 2 (by omega) (by omega)) cv_X3_99 cd_X3_number rfl (st := []) rfl (hP.1) (by omega) (by decide) rfl (Nat.zero_le _) (Nat.zero_le _) hP (fun r10 w10 q10 => ?_)
    by_cases hN1 : (gTk L j).1 = 50
    · skip
      rw [if_pos hN1] at q10
      have hk_1 := hx51 j (by omega)
      by_cases hM1 : 0 ≤ (gTk L j).2.1 ∧ (gTk L j).2.1 ≤ 2
      · skip
        rw [if_pos hM1] at q10
        obtain ⟨hr1n, hS1n, hg1n⟩ := q10
        rw [hr1n]
        have hG1n := FrR.tr FrR.rf hg1n
        refine M.run 4 (pc' := 124) (lv' := [some (vr o), some (vi x), some (vi ((gTk L j).2.1)), some (vi 0)]) (st' := [vi (-1), vi ((gTk L j).2.1)]) rfl ?_
        refine M.icmp_eq (tgt := 141) rfl (qI (by omega)) (qI (by decide)) (by decide) (fun h124 => ?_) (fun h124 => ?_)
        · skip
          omega
        · skip
          refine M.run 2 (pc' := 129) (lv' := [some (vr o), some (vi x), some (vi ((gTk L j).2.1)), some (vi 0)]) (st' := [vi (-1), vi 0]) rfl ?_
          refine M.icmp_eq (tgt := 141) rfl (qI (by decide)) (qI (by decide)) (by decide) (fun q => absurd q (by decide)) (fun _ => ?_)
          refine M.run 2 (pc' := 135) (lv' := [some (vr o), some (vi x), some (vi ((gTk L j).2.1)), some (vi 0)]) (st' := [vi 40, vr o]) rfl ?_
          refine M.callV (kX3_take l G o L c1 c2 (j + 1) ly m1 m2 f1 f2 fc fq (by omega) hB 40 (by omega)) cv_X3_92 cd_X3_take rfl (st := []) rfl (hS1n.1) (by omega) (by decide) rfl (Nat.zero_le _) (Nat.zero_le _) hS1n (fun r11 w11 q11 => ?_)
          by_cases hT1 : (gTk L (j + 1)).1 = 40
          · skip
            rw [if_pos hT1] at q11
            obtain ⟨hr1_, hS1_, hg1_⟩ := q11
            rw [hr1_]
            have hG1_ := FrR.tr hG1n hg1_
            have hk_t2 := hx51 (j + 1) (by omega)
            refine M.if_ne (tgt := 143) rfl (qI (by decide)) (by decide) (fun _ => ?_) (fun q => absurd q (by decide))
            refine M.run 4 (pc' := 147) (lv' := [some (vr o), some (vi x), some (vi ((gTk L j).2.1)), some (vi 0)]) (st' := [vi 0, vi ((gTk L j).2.1), vi x, vr o]) rfl ?_
            refine M.callV (kX3_addClause l G o L c1 c2 (j + 1 + 1) ly m1 m2 f1 f2 fc fq (by omega) x ((gTk L j).2.1) 0 (by omega) (by omega) (by omega)) cv_X3_95 cd_X3_addClause rfl (st := []) rfl hS1_.1 (by omega) (by decide) rfl (Nat.zero_le _) (Nat.zero_le _) hS1_ (fun r13 w14 q15 => ?_)
            obtain ⟨q15r, hR12, q15f⟩ := q15
            rw [q15r]
            have hF12 : FrR o w w14 := FrR.tr hG1_ q15f
            refine M.run 1 (pc' := 151) (lv' := [some (vr o), some (vi x), some (vi ((gTk L j).2.1)), some (vi 0)]) (st' := [vi 1]) rfl ?_
            exact M.zret rfl (Or.inr rfl) (Nat.zero_le _) (Nat.zero_le _) (by rw [show pDee L x j = .inl (((gTk L j).2.1, 0), j + 1 + 1) from by simp only [pDee, dF, dB_l, dB_r, hs5_0, hs5_1, pNum_a hN1 hM1, hT1, Int.reduceEq, ↓reduceIte]]; exact ⟨rfl, hF12, by omega, hR12⟩)
          · skip
            rw [if_neg hT1] at q11
            obtain ⟨hr1_, hS1_, hg1_⟩ := q11
            rw [hr1_]
            have hG1_ := FrR.tr hG1n hg1_
            refine M.if_ne (tgt := 143) rfl (qI (by decide)) (by decide) (fun q => absurd q (by decide)) (fun _ => ?_)
            refine M.run 1 (pc' := 142) (lv' := [some (vr o), some (vi x), some (vi ((gTk L j).2.1)), some (vi 0)]) (st' := [vi 0]) rfl ?_
            exact M.zret rfl (Or.inl rfl) (Nat.zero_le _) (Nat.zero_le _) (by rw [show pDee L x j = .inr (1, j + 1) from by simp only [pDee, dF, dB_l, dB_r, hs5_0, hs5_1, pNum_a hN1 hM1, hT1, Int.reduceEq, ↓reduceIte]]; exact ⟨rfl, hG1_, by omega, hS1_⟩)
      · skip
        rw [if_neg hM1] at q10
        obtain ⟨hr1n, hS1n, hg1n⟩ := q10
        rw [hr1n]
        have hG1n := FrR.tr FrR.rf hg1n
        refine M.run 4 (pc' := 124) (lv' := [some (vr o), some (vi x), some (vi (-1)), some (vi 0)]) (st' := [vi (-1), vi (-1)]) rfl ?_
        refine M.icmp_eq (tgt := 141) rfl (qI (by decide)) (qI (by decide)) (by decide) (fun _ => ?_) (fun q => absurd q (by decide))
        refine M.run 1 (pc' := 142) (lv' := [some (vr o), some (vi x), some (vi (-1)), some (vi 0)]) (st' := [vi 0]) rfl ?_
        exact M.zret rfl (Or.inl rfl) (Nat.zero_le _) (Nat.zero_le _) (by rw [show pDee L x j = .inr (2, j) from by simp only [pDee, dF, dB_l, dB_r, hs5_0, hs5_1, pNum_b hN1 hM1, Int.reduceEq, ↓reduceIte]]; exact ⟨rfl, hG1n, by omega, hS1n⟩)
    · skip
      rw [if_neg hN1] at q10
      obtain ⟨hr1n, hS1n, hg1n⟩ := q10
      rw [hr1n]
      have hG1n := FrR.tr FrR.rf hg1n
      refine M.run 4 (pc' := 124) (lv' := [some (vr o), some (vi x), some (vi (-1)), some (vi 0)]) (st' := [vi (-1), vi (-1)]) rfl ?_
      refine M.icmp_eq (tgt := 141) rfl (qI (by decide)) (qI (by decide)) (by decide) (fun _ => ?_) (fun q => absurd q (by decide))
      refine M.run 1 (pc' := 142) (lv' := [some (vr o), some (vi x), some (vi (-1)), some (vi 0)]) (st' := [vi 0]) rfl ?_
      exact M.zret rfl (Or.inl rfl) (Nat.zero_le _) (Nat.zero_le _) (by rw [show pDee L x j = .inr (1, j) from by simp only [pDee, dF, dB_l, dB_r, hs5_0, hs5_1, pNum_c hN1, Int.reduceEq, ↓reduceIte]]; exact ⟨rfl, hG1n, by omega, hS1n⟩)
  by_cases hs5_2 : x = 4
  · refine M.tswIn (tgt := 81) (off := 76) rfl (qI (by omega)) (by omega) (by omega) (by rw [hs5_2]; rfl) (by decide) ?_
    refine M.run 3 (pc' := 84) (lv' := [some (vr o), some (vi x), some (vi 0), some (vi 0)]) (st' := [vi 2, vi 0, vr o]) rfl ?_
    obtain ⟨_, ⟨hva1, hvb1⟩, _⟩ := hB j
    refine M.callV (kX3_number l G o L c1 c2 j ly m1 m2 f1 f2 fc fq (by omega) hB 0 2 (by omega) (by omega)) cv_X3_99 cd_X3_number rfl (st := []) rfl (hP.1) (by omega) (by decide) rfl (Nat.zero_le _) (Nat.zero_le _) hP (fun r17 w17 q17 => ?_)
    by_cases hN1 : (gTk L j).1 = 50
    · skip
      rw [if_pos hN1] at q17
      have hk_1 := hx51 j (by omega)
      by_cases hM1 : 0 ≤ (gTk L j).2.1 ∧ (gTk L j).2.1 ≤ 2
      · skip
        rw [if_pos hM1] at q17
        obtain ⟨hr1n, hS1n, hg1n⟩ := q17
        rw [hr1n]
        have hG1n := FrR.tr FrR.rf hg1n
        refine M.run 3 (pc' := 90) (lv' := [some (vr o), some (vi x), some (vi ((gTk L j).2.1)), some (vi 0)]) (st' := [vi (-1), vi ((gTk L j).2.1)]) rfl ?_
        refine M.icmp_eq (tgt := 102) rfl (qI (by omega)) (qI (by decide)) (by decide) (fun h90 => ?_) (fun h90 => ?_)
        · skip
          omega
        · skip
          refine M.run 2 (pc' := 96) (lv' := [some (vr o), some (vi x), some (vi ((gTk L j).2.1)), some (vi 0)]) (st' := [vi 7, vr o]) rfl ?_
          refine M.callV (kX3_take l G o L c1 c2 (j + 1) ly m1 m2 f1 f2 fc fq (by omega) hB 7 (by omega)) cv_X3_92 cd_X3_take rfl (st := []) rfl (hS1n.1) (by omega) (by decide) rfl (Nat.zero_le _) (Nat.zero_le _) hS1n (fun r18 w18 q18 => ?_)
          by_cases hT1 : (gTk L (j + 1)).1 = 7
          · skip
            rw [if_pos hT1] at q18
            obtain ⟨hr1_, hS1_, hg1_⟩ := q18
            rw [hr1_]
            have hG1_ := FrR.tr hG1n hg1_
            have hk_t1 := hx51 (j + 1) (by omega)
            refine M.if_ne (tgt := 104) rfl (qI (by decide)) (by decide) (fun _ => ?_) (fun q => absurd q (by decide))
            refine M.run 3 (pc' := 107) (lv' := [some (vr o), some (vi x), some (vi ((gTk L j).2.1)), some (vi 0)]) (st' := [vi 1, vi 0, vr o]) rfl ?_
            obtain ⟨_, ⟨hva2, hvb2⟩, _⟩ := hB (j + 1 + 1)
            refine M.callV (kX3_number l G o L c1 c2 (j + 1 + 1) ly m1 m2 f1 f2 fc fq (by omega) hB 0 1 (by omega) (by omega)) cv_X3_99 cd_X3_number rfl (st := []) rfl (hS1_.1) (by omega) (by decide) rfl (Nat.zero_le _) (Nat.zero_le _) hS1_ (fun r19 w19 q19 => ?_)
            by_cases hN2 : (gTk L (j + 1 + 1)).1 = 50
            · skip
              rw [if_pos hN2] at q19
              have hk_2 := hx51 (j + 1 + 1) (by omega)
              by_cases hM2 : 0 ≤ (gTk L (j + 1 + 1)).2.1 ∧ (gTk L (j + 1 + 1)).2.1 ≤ 1
              · skip
                rw [if_pos hM2] at q19
                obtain ⟨hr2n, hS2n, hg2n⟩ := q19
                rw [hr2n]
                have hG2n := FrR.tr hG1_ hg2n
                refine M.run 4 (pc' := 124) (lv' := [some (vr o), some (vi x), some (vi ((gTk L j).2.1)), some (vi ((gTk L (j + 1 + 1)).2.1))]) (st' := [vi (-1), vi ((gTk L j).2.1)]) rfl ?_
                refine M.icmp_eq (tgt := 141) rfl (qI (by omega)) (qI (by decide)) (by decide) (fun h124 => ?_) (fun h124 => ?_)
                · skip
                  omega
                · skip
                  refine M.run 2 (pc' := 129) (lv' := [some (vr o), some (vi x), some (vi ((gTk L j).2.1)), some (vi ((gTk L (j + 1 + 1)).2.1))]) (st' := [vi (-1), vi ((gTk L (j + 1 + 1)).2.1)]) rfl ?_
                  refine M.icmp_eq (tgt := 141) rfl (qI (by omega)) (qI (by decide)) (by decide) (fun h129 => ?_) (fun h129 => ?_)
                  · skip
                    omega
                  · skip
                    refine M.run 2 (pc' := 135) (lv' := [some (vr o), some (vi x), some (vi ((gTk L j).2.1)), some (vi ((gTk L (j + 1 + 1)).2.1))]) (st' := [vi 40, vr o]) rfl ?_
                    refine M.callV (kX3_take l G o L c1 c2 (j + 1 + 1 + 1) ly m1 m2 f1 f2 fc fq (by omega) hB 40 (by omega)) cv_X3_92 cd_X3_take rfl (st := []) rfl (hS2n.1) (by omega) (by decide) rfl (Nat.zero_le _) (Nat.zero_le _) hS2n (fun r20 w20 q20 => ?_)
                    by_cases hT2 : (gTk L (j + 1 + 1 + 1)).1 = 40
                    · skip
                      rw [if_pos hT2] at q20
                      obtain ⟨hr2_, hS2_, hg2_⟩ := q20
                      rw [hr2_]
                      have hG2_ := FrR.tr hG2n hg2_
                      have hk_t2 := hx51 (j + 1 + 1 + 1) (by omega)
                      refine M.if_ne (tgt := 143) rfl (qI (by decide)) (by decide) (fun _ => ?_) (fun q => absurd q (by decide))
                      refine M.run 4 (pc' := 147) (lv' := [some (vr o), some (vi x), some (vi ((gTk L j).2.1)), some (vi ((gTk L (j + 1 + 1)).2.1))]) (st' := [vi ((gTk L (j + 1 + 1)).2.1), vi ((gTk L j).2.1), vi x, vr o]) rfl ?_
                      refine M.callV (kX3_addClause l G o L c1 c2 (j + 1 + 1 + 1 + 1) ly m1 m2 f1 f2 fc fq (by omega) x ((gTk L j).2.1) ((gTk L (j + 1 + 1)).2.1) (by omega) (by omega) (by omega)) cv_X3_95 cd_X3_addClause rfl (st := []) rfl hS2_.1 (by omega) (by decide) rfl (Nat.zero_le _) (Nat.zero_le _) hS2_ (fun r22 w23 q24 => ?_)
                      obtain ⟨q24r, hR21, q24f⟩ := q24
                      rw [q24r]
                      have hF21 : FrR o w w23 := FrR.tr hG2_ q24f
                      refine M.run 1 (pc' := 151) (lv' := [some (vr o), some (vi x), some (vi ((gTk L j).2.1)), some (vi ((gTk L (j + 1 + 1)).2.1))]) (st' := [vi 1]) rfl ?_
                      exact M.zret rfl (Or.inr rfl) (Nat.zero_le _) (Nat.zero_le _) (by rw [show pDee L x j = .inl (((gTk L j).2.1, (gTk L (j + 1 + 1)).2.1), j + 1 + 1 + 1 + 1) from by simp only [pDee, dF, dB_l, dB_r, hs5_0, hs5_1, hs5_2, pNum_a hN1 hM1, pNum_a hN2 hM2, hT1, hT2, Int.reduceEq, ↓reduceIte]]; exact ⟨rfl, hF21, by omega, hR21⟩)
                    · skip
                      rw [if_neg hT2] at q20
                      obtain ⟨hr2_, hS2_, hg2_⟩ := q20
                      rw [hr2_]
                      have hG2_ := FrR.tr hG2n hg2_
                      refine M.if_ne (tgt := 143) rfl (qI (by decide)) (by decide) (fun q => absurd q (by decide)) (fun _ => ?_)
                      refine M.run 1 (pc' := 142) (lv' := [some (vr o), some (vi x), some (vi ((gTk L j).2.1)), some (vi ((gTk L (j + 1 + 1)).2.1))]) (st' := [vi 0]) rfl ?_
                      exact M.zret rfl (Or.inl rfl) (Nat.zero_le _) (Nat.zero_le _) (by rw [show pDee L x j = .inr (1, j + 1 + 1 + 1) from by simp only [pDee, dF, dB_l, dB_r, hs5_0, hs5_1, hs5_2, pNum_a hN1 hM1, pNum_a hN2 hM2, hT1, hT2, Int.reduceEq, ↓reduceIte]]; exact ⟨rfl, hG2_, by omega, hS2_⟩)
              · skip
                rw [if_neg hM2] at q19
                obtain ⟨hr2n, hS2n, hg2n⟩ := q19
                rw [hr2n]
                have hG2n := FrR.tr hG1_ hg2n
                refine M.run 4 (pc' := 124) (lv' := [some (vr o), some (vi x), some (vi ((gTk L j).2.1)), some (vi (-1))]) (st' := [vi (-1), vi ((gTk L j).2.1)]) rfl ?_
                refine M.icmp_eq (tgt := 141) rfl (qI (by omega)) (qI (by decide)) (by decide) (fun h124 => ?_) (fun h124 => ?_)
                · skip
                  omega
                · skip
                  refine M.run 2 (pc' := 129) (lv' := [some (vr o), some (vi x), some (vi ((gTk L j).2.1)), some (vi (-1))]) (st' := [vi (-1), vi (-1)]) rfl ?_
                  refine M.icmp_eq (tgt := 141) rfl (qI (by decide)) (qI (by decide)) (by decide) (fun _ => ?_) (fun q => absurd q (by decide))
                  refine M.run 1 (pc' := 142) (lv' := [some (vr o), some (vi x), some (vi ((gTk L j).2.1)), some (vi (-1))]) (st' := [vi 0]) rfl ?_
                  exact M.zret rfl (Or.inl rfl) (Nat.zero_le _) (Nat.zero_le _) (by rw [show pDee L x j = .inr (2, j + 1 + 1) from by simp only [pDee, dF, dB_l, dB_r, hs5_0, hs5_1, hs5_2, pNum_a hN1 hM1, pNum_b hN2 hM2, hT1, Int.reduceEq, ↓reduceIte]]; exact ⟨rfl, hG2n, by omega, hS2n⟩)
            · skip
              rw [if_neg hN2] at q19
              obtain ⟨hr2n, hS2n, hg2n⟩ := q19
              rw [hr2n]
              have hG2n := FrR.tr hG1_ hg2n
              refine M.run 4 (pc' := 124) (lv' := [some (vr o), some (vi x), some (vi ((gTk L j).2.1)), some (vi (-1))]) (st' := [vi (-1), vi ((gTk L j).2.1)]) rfl ?_
              refine M.icmp_eq (tgt := 141) rfl (qI (by omega)) (qI (by decide)) (by decide) (fun h124 => ?_) (fun h124 => ?_)
              · skip
                omega
              · skip
                refine M.run 2 (pc' := 129) (lv' := [some (vr o), some (vi x), some (vi ((gTk L j).2.1)), some (vi (-1))]) (st' := [vi (-1), vi (-1)]) rfl ?_
                refine M.icmp_eq (tgt := 141) rfl (qI (by decide)) (qI (by decide)) (by decide) (fun _ => ?_) (fun q => absurd q (by decide))
                refine M.run 1 (pc' := 142) (lv' := [some (vr o), some (vi x), some (vi ((gTk L j).2.1)), some (vi (-1))]) (st' := [vi 0]) rfl ?_
                exact M.zret rfl (Or.inl rfl) (Nat.zero_le _) (Nat.zero_le _) (by rw [show pDee L x j = .inr (1, j + 1 + 1) from by simp only [pDee, dF, dB_l, dB_r, hs5_0, hs5_1, hs5_2, pNum_a hN1 hM1, pNum_c hN2, hT1, Int.reduceEq, ↓reduceIte]]; exact ⟨rfl, hG2n, by omega, hS2n⟩)
          · skip
            rw [if_neg hT1] at q18
            obtain ⟨hr1_, hS1_, hg1_⟩ := q18
            rw [hr1_]
            have hG1_ := FrR.tr hG1n hg1_
            refine M.if_ne (tgt := 104) rfl (qI (by decide)) (by decide) (fun q => absurd q (by decide)) (fun _ => ?_)
            refine M.run 1 (pc' := 103) (lv' := [some (vr o), some (vi x), some (vi ((gTk L j).2.1)), some (vi 0)]) (st' := [vi 0]) rfl ?_
            exact M.zret rfl (Or.inl rfl) (Nat.zero_le _) (Nat.zero_le _) (by rw [show pDee L x j = .inr (1, j + 1) from by simp only [pDee, dF, dB_l, dB_r, hs5_0, hs5_1, hs5_2, pNum_a hN1 hM1, hT1, Int.reduceEq, ↓reduceIte]]; exact ⟨rfl, hG1_, by omega, hS1_⟩)
      · skip
        rw [if_neg hM1] at q17
        obtain ⟨hr1n, hS1n, hg1n⟩ := q17
        rw [hr1n]
        have hG1n := FrR.tr FrR.rf hg1n
        refine M.run 3 (pc' := 90) (lv' := [some (vr o), some (vi x), some (vi (-1)), some (vi 0)]) (st' := [vi (-1), vi (-1)]) rfl ?_
        refine M.icmp_eq (tgt := 102) rfl (qI (by decide)) (qI (by decide)) (by decide) (fun _ => ?_) (fun q => absurd q (by decide))
        refine M.run 1 (pc' := 103) (lv' := [some (vr o), some (vi x), some (vi (-1)), some (vi 0)]) (st' := [vi 0]) rfl ?_
        exact M.zret rfl (Or.inl rfl) (Nat.zero_le _) (Nat.zero_le _) (by rw [show pDee L x j = .inr (2, j) from by simp only [pDee, dF, dB_l, dB_r, hs5_0, hs5_1, hs5_2, pNum_b hN1 hM1, Int.reduceEq, ↓reduceIte]]; exact ⟨rfl, hG1n, by omega, hS1n⟩)
    · skip
      rw [if_neg hN1] at q17
      obtain ⟨hr1n, hS1n, hg1n⟩ := q17
      rw [hr1n]
      have hG1n := FrR.tr FrR.rf hg1n
      refine M.run 3 (pc' := 90) (lv' := [some (vr o), some (vi x), some (vi (-1)), some (vi 0)]) (st' := [vi (-1), vi (-1)]) rfl ?_
      refine M.icmp_eq (tgt := 102) rfl (qI (by decide)) (qI (by decide)) (by decide) (fun _ => ?_) (fun q => absurd q (by decide))
      refine M.run 1 (pc' := 103) (lv' := [some (vr o), some (vi x), some (vi (-1)), some (vi 0)]) (st' := [vi 0]) rfl ?_
      exact M.zret rfl (Or.inl rfl) (Nat.zero_le _) (Nat.zero_le _) (by rw [show pDee L x j = .inr (1, j) from by simp only [pDee, dF, dB_l, dB_r, hs5_0, hs5_1, hs5_2, pNum_c hN1, Int.reduceEq, ↓reduceIte]]; exact ⟨rfl, hG1n, by omega, hS1n⟩)
  refine M.tswOut (tgt := 114) rfl (qI (by omega)) (by omega) (by decide) ?_
  refine M.run 3 (pc' := 118) (lv' := [some (vr o), some (vi x), some (vi 0), some (vi 0)]) (st' := [vi 30, vi 1, vr o]) rfl ?_
  obtain ⟨_, ⟨hva1, hvb1⟩, _⟩ := hB j
  refine M.callV (kX3_number l G o L c1 c2 j ly m1 m2 f1 f2 fc fq (by omega) hB 1 30 (by omega) (by omega)) cv_X3_99 cd_X3_number rfl (st := []) rfl (hP.1) (by omega) (by decide) rfl (Nat.zero_le _) (Nat.zero_le _) hP (fun r26 w26 q26 => ?_)
  by_cases hN1 : (gTk L j).1 = 50
  · skip
    rw [if_pos hN1] at q26
    have hk_1 := hx51 j (by omega)
    by_cases hM1 : 1 ≤ (gTk L j).2.1 ∧ (gTk L j).2.1 ≤ 30
    · skip
      rw [if_pos hM1] at q26
      obtain ⟨hr1n, hS1n, hg1n⟩ := q26
      rw [hr1n]
      have hG1n := FrR.tr FrR.rf hg1n
      refine M.run 3 (pc' := 124) (lv' := [some (vr o), some (vi x), some (vi ((gTk L j).2.1)), some (vi 0)]) (st' := [vi (-1), vi ((gTk L j).2.1)]) rfl ?_
      refine M.icmp_eq (tgt := 141) rfl (qI (by omega)) (qI (by decide)) (by decide) (fun h124 => ?_) (fun h124 => ?_)
      · skip
        omega
      · skip
        refine M.run 2 (pc' := 129) (lv' := [some (vr o), some (vi x), some (vi ((gTk L j).2.1)), some (vi 0)]) (st' := [vi (-1), vi 0]) rfl ?_
        refine M.icmp_eq (tgt := 141) rfl (qI (by decide)) (qI (by decide)) (by decide) (fun q => absurd q (by decide)) (fun _ => ?_)
        refine M.run 2 (pc' := 135) (lv' := [some (vr o), some (vi x), some (vi ((gTk L j).2.1)), some (vi 0)]) (st' := [vi 40, vr o]) rfl ?_
        refine M.callV (kX3_take l G o L c1 c2 (j + 1) ly m1 m2 f1 f2 fc fq (by omega) hB 40 (by omega)) cv_X3_92 cd_X3_take rfl (st := []) rfl (hS1n.1) (by omega) (by decide) rfl (Nat.zero_le _) (Nat.zero_le _) hS1n (fun r27 w27 q27 => ?_)
        by_cases hT1 : (gTk L (j + 1)).1 = 40
        · skip
          rw [if_pos hT1] at q27
          obtain ⟨hr1_, hS1_, hg1_⟩ := q27
          rw [hr1_]
          have hG1_ := FrR.tr hG1n hg1_
          have hk_t2 := hx51 (j + 1) (by omega)
          refine M.if_ne (tgt := 143) rfl (qI (by decide)) (by decide) (fun _ => ?_) (fun q => absurd q (by decide))
          refine M.run 4 (pc' := 147) (lv' := [some (vr o), some (vi x), some (vi ((gTk L j).2.1)), some (vi 0)]) (st' := [vi 0, vi ((gTk L j).2.1), vi x, vr o]) rfl ?_
          refine M.callV (kX3_addClause l G o L c1 c2 (j + 1 + 1) ly m1 m2 f1 f2 fc fq (by omega) x ((gTk L j).2.1) 0 (by omega) (by omega) (by omega)) cv_X3_95 cd_X3_addClause rfl (st := []) rfl hS1_.1 (by omega) (by decide) rfl (Nat.zero_le _) (Nat.zero_le _) hS1_ (fun r29 w30 q31 => ?_)
          obtain ⟨q31r, hR28, q31f⟩ := q31
          rw [q31r]
          have hF28 : FrR o w w30 := FrR.tr hG1_ q31f
          refine M.run 1 (pc' := 151) (lv' := [some (vr o), some (vi x), some (vi ((gTk L j).2.1)), some (vi 0)]) (st' := [vi 1]) rfl ?_
          exact M.zret rfl (Or.inr rfl) (Nat.zero_le _) (Nat.zero_le _) (by rw [show pDee L x j = .inl (((gTk L j).2.1, 0), j + 1 + 1) from by simp only [pDee, dF, dB_l, dB_r, hs5_0, hs5_1, hs5_2, pNum_a hN1 hM1, hT1, Int.reduceEq, ↓reduceIte]]; exact ⟨rfl, hF28, by omega, hR28⟩)
        · skip
          rw [if_neg hT1] at q27
          obtain ⟨hr1_, hS1_, hg1_⟩ := q27
          rw [hr1_]
          have hG1_ := FrR.tr hG1n hg1_
          refine M.if_ne (tgt := 143) rfl (qI (by decide)) (by decide) (fun q => absurd q (by decide)) (fun _ => ?_)
          refine M.run 1 (pc' := 142) (lv' := [some (vr o), some (vi x), some (vi ((gTk L j).2.1)), some (vi 0)]) (st' := [vi 0]) rfl ?_
          exact M.zret rfl (Or.inl rfl) (Nat.zero_le _) (Nat.zero_le _) (by rw [show pDee L x j = .inr (1, j + 1) from by simp only [pDee, dF, dB_l, dB_r, hs5_0, hs5_1, hs5_2, pNum_a hN1 hM1, hT1, Int.reduceEq, ↓reduceIte]]; exact ⟨rfl, hG1_, by omega, hS1_⟩)
    · skip
      rw [if_neg hM1] at q26
      obtain ⟨hr1n, hS1n, hg1n⟩ := q26
      rw [hr1n]
      have hG1n := FrR.tr FrR.rf hg1n
      refine M.run 3 (pc' := 124) (lv' := [some (vr o), some (vi x), some (vi (-1)), some (vi 0)]) (st' := [vi (-1), vi (-1)]) rfl ?_
      refine M.icmp_eq (tgt := 141) rfl (qI (by decide)) (qI (by decide)) (by decide) (fun _ => ?_) (fun q => absurd q (by decide))
      refine M.run 1 (pc' := 142) (lv' := [some (vr o), some (vi x), some (vi (-1)), some (vi 0)]) (st' := [vi 0]) rfl ?_
      exact M.zret rfl (Or.inl rfl) (Nat.zero_le _) (Nat.zero_le _) (by rw [show pDee L x j = .inr (2, j) from by simp only [pDee, dF, dB_l, dB_r, hs5_0, hs5_1, hs5_2, pNum_b hN1 hM1, Int.reduceEq, ↓reduceIte]]; exact ⟨rfl, hG1n, by omega, hS1n⟩)
  · skip
    rw [if_neg hN1] at q26
    obtain ⟨hr1n, hS1n, hg1n⟩ := q26
    rw [hr1n]
    have hG1n := FrR.tr FrR.rf hg1n
    refine M.run 3 (pc' := 124) (lv' := [some (vr o), some (vi x), some (vi (-1)), some (vi 0)]) (st' := [vi (-1), vi (-1)]) rfl ?_
    refine M.icmp_eq (tgt := 141) rfl (qI (by decide)) (qI (by decide)) (by decide) (fun _ => ?_) (fun q => absurd q (by decide))
    refine M.run 1 (pc' := 142) (lv' := [some (vr o), some (vi x), some (vi (-1)), some (vi 0)]) (st' := [vi 0]) rfl ?_
    exact M.zret rfl (Or.inl rfl) (Nat.zero_le _) (Nat.zero_le _) (by rw [show pDee L x j = .inr (1, j) from by simp only [pDee, dF, dB_l, dB_r, hs5_0, hs5_1, hs5_2, pNum_c hN1, Int.reduceEq, ↓reduceIte]]; exact ⟨rfl, hG1n, by omega, hS1n⟩)
