/-! the longest run, by what has run so far -/
def rn (v : Nat) : Nat → Nat
  | 0 => 0
  | k + 1 => if v.testBit k = true then rn v k + 1 else 0
def mR (v : Nat) : Nat → Nat
  | 0 => 0
  | k + 1 => max (mR v k) (rn v (k + 1))
theorem rn_le (v : Nat) : ∀ k : Nat, rn v k ≤ k
  | 0 => Nat.le_refl _
  | k + 1 => by
    have h := rn_le v k
    show (if v.testBit k = true then rn v k + 1 else 0) ≤ k + 1
    split
    · omega
    · exact Nat.zero_le _
theorem rn_end (v : Nat) : ∀ (k p : Nat), 30 - p ≤ k → p ≤ 30 → rn v p + (bEd v p - p) = rn v (bEd v p)
  | 0, p, h, h2 => by rw [bEd_e (by omega), Nat.sub_self]; rfl
  | k + 1, p, h, h2 => by
    rcases Nat.lt_or_ge p 30 with z | z
    · by_cases hb : v.testBit p = true
      · have e : bEd v p = bEd v (p + 1) := by rw [bEd_s z, if_pos hb]
        have ih := rn_end v k (p + 1) (by omega) (by omega)
        have hr : rn v (p + 1) = rn v p + 1 := if_pos hb
        have hg := bEd_ge 30 v (p + 1) (by omega)
        rw [e, ← ih, hr]
        omega
      · have e : bEd v p = p := by rw [bEd_s z, if_neg hb]
        rw [e, Nat.sub_self]
        rfl
    · rw [bEd_e z, Nat.sub_self]
      rfl
theorem rn_start (v : Nat) : ∀ k : Nat, k ≤ 30 → bEd v (k - rn v k) = bEd v k
  | 0, _ => rfl
  | k + 1, h => by
    by_cases hb : v.testBit k = true
    · have hr : rn v (k + 1) = rn v k + 1 := if_pos hb
      rw [hr, Nat.add_sub_add_right, rn_start v k (by omega), bEd_s (b := v) (p := k) (by omega), if_pos hb]
    · have hr : rn v (k + 1) = 0 := if_neg hb
      rw [hr, Nat.sub_zero]
theorem mLg_ge (v : Nat) : ∀ (k p : Nat), p < k → bEd v p - p ≤ mLg v k
  | 0, p, h => absurd h (Nat.not_lt_zero p)
  | k + 1, p, h => by
    show _ ≤ max (mLg v k) (bEd v k - k)
    rcases Nat.lt_or_ge p k with z | z
    · exact Nat.le_trans (mLg_ge v k p z) (Nat.le_max_left _ _)
    · rw [show p = k by omega]
      exact Nat.le_max_right _ _
theorem mR_ge (v : Nat) : ∀ (k p : Nat), p ≤ k → rn v p ≤ mR v k
  | 0, p, h => by rw [show p = 0 by omega]; exact Nat.le_refl _
  | k + 1, p, h => by
    show _ ≤ max (mR v k) (rn v (k + 1))
    rcases Nat.lt_or_ge p (k + 1) with z | z
    · exact Nat.le_trans (mR_ge v k p (by omega)) (Nat.le_max_left _ _)
    · rw [show p = k + 1 by omega]
      exact Nat.le_max_right _ _
theorem mLg_up (v m : Nat) : ∀ k : Nat, (∀ p : Nat, p < k → bEd v p - p ≤ m) → mLg v k ≤ m
  | 0, _ => Nat.zero_le _
  | k + 1, h => Nat.max_le.mpr ⟨mLg_up v m k (fun p hp => h p (by omega)), h k (by omega)⟩
theorem mR_up (v m : Nat) : ∀ k : Nat, (∀ p : Nat, p ≤ k → rn v p ≤ m) → mR v k ≤ m
  | 0, _ => Nat.zero_le _
  | k + 1, h => Nat.max_le.mpr ⟨mR_up v m k (fun p hp => h p (by omega)), h (k + 1) (by omega)⟩
theorem mR_lg (v : Nat) : mR v 30 = mLg v 30 := by
  refine Nat.le_antisymm (mR_up v _ 30 (fun p hp => ?_)) (mLg_up v _ 30 (fun p hp => ?_))
  · rcases Nat.eq_zero_or_pos (rn v p) with z | z
    · omega
    · have h1 := rn_start v p hp
      have h2 := bEd_ge 30 v p (by omega)
      have h3 := rn_le v p
      have h4 := mLg_ge v 30 (p - rn v p) (by omega)
      rw [h1] at h4
      omega
  · have h1 := rn_end v 30 p (by omega) (by omega)
    have h2 := mR_ge v 30 (bEd v p) (bEd_le 30 v p (by omega) (by omega))
    omega
theorem fold_u {p0 p1 p2 p3 : Nat} (h0 : p0 ≤ 8) (h1 : p1 ≤ 8) (h2 : p2 ≤ 8) (h3 : p3 ≤ 8) :
    ((p0 + 256 * p1 + 65536 * p2 + 16777216 * p3) + (p0 + 256 * p1 + 65536 * p2 + 16777216 * p3) / 256) + ((p0 + 256 * p1 + 65536 * p2 + 16777216 * p3) + (p0 + 256 * p1 + 65536 * p2 + 16777216 * p3) / 256) / 65536 &&& 63 = p0 + p1 + p2 + p3 := by
  have e1 : (p0 + 256 * p1 + 65536 * p2 + 16777216 * p3) / 256 = p1 + 256 * p2 + 65536 * p3 := by omega
  rw [e1]
  have e2 : ((p0 + 256 * p1 + 65536 * p2 + 16777216 * p3) + (p1 + 256 * p2 + 65536 * p3)) / 65536 = (p2 + p3) + 256 * p3 := by omega
  rw [e2, show (63 : Nat) = 2 ^ 6 - 1 from rfl, Nat.and_two_pow_sub_one_eq_mod]
  omega

set_option maxHeartbeats 4000000 in
set_option maxRecDepth 100000 in
theorem kJ6_bc (l : Launch) (G : GT) (b0 b1 b2 b3 : Nat) (h0 : b0 < 256) (h1 : b1 < 256) (h2 : b2 < 256) (h3 : b3 < 64) : Ctr l G yJ6_bitCount_0f7a4 cJ6_bitCount_0f7a4 1 ((Option.some Jvm.ClassFile.FieldType.int)) 1 0 0 [vi (((b0 + 256 * b1 + 65536 * b2 + 16777216 * b3) : Nat) : Int)] (fun w => True) (fun w r w' => r = some (vi ((bPc (b0 + 256 * b1 + 65536 * b2 + 16777216 * b3) : Nat) : Int)) ∧ w' = w) := by
  refine Ctr.of (t := tJ6_bitCount_0f7a4) (lv0 := [some (vi (((b0 + 256 * b1 + 65536 * b2 + 16777216 * b3) : Nat) : Int))]) (by decide +kernel) tJ6_bitCount_0f7a4_ok rfl rfl (fun w g hP M => ?_)
  obtain ⟨q1, q2, q3, q4⟩ := bc_all h0 h1 h2 h3
  have p0 := bPcF_le 8 b0
  have p1 := bPcF_le 8 b1
  have p2 := bPcF_le 8 b2
  have p3 := bPcF_le 8 b3
  have hb4 := bPc_4 h0 h1 h2 h3
  obtain ⟨_, c0, d0, _⟩ := t_all ⟨b0, h0⟩
  obtain ⟨_, c1, d1, _⟩ := t_all ⟨b1, h1⟩
  obtain ⟨_, c2, d2, _⟩ := t_all ⟨b2, h2⟩
  obtain ⟨_, c3, d3, _⟩ := t_all ⟨b3, by omega⟩
  simp only [] at c0 c1 c2 c3 d0 d1 d2 d3
  have e1 : (b0 + 256 * b1 + 65536 * b2 + 16777216 * b3) / 2 = (b0 + 256 * b1 + 65536 * b2 + 16777216 * b3) >>> 1 := (Nat.shiftRight_eq_div_pow (b0 + 256 * b1 + 65536 * b2 + 16777216 * b3) 1).symm
  have e2 : (t1 b0 + 256 * t1 b1 + 65536 * t1 b2 + 16777216 * t1 b3) / 4 = (t1 b0 + 256 * t1 b1 + 65536 * t1 b2 + 16777216 * t1 b3) >>> 2 := (Nat.shiftRight_eq_div_pow (t1 b0 + 256 * t1 b1 + 65536 * t1 b2 + 16777216 * t1 b3) 2).symm
  have e3 : (t2 (t1 b0) + 256 * t2 (t1 b1) + 65536 * t2 (t1 b2) + 16777216 * t2 (t1 b3)) / 16 = (t2 (t1 b0) + 256 * t2 (t1 b1) + 65536 * t2 (t1 b2) + 16777216 * t2 (t1 b3)) >>> 4 := (Nat.shiftRight_eq_div_pow (t2 (t1 b0) + 256 * t2 (t1 b1) + 65536 * t2 (t1 b2) + 16777216 * t2 (t1 b3)) 4).symm
  rw [e1] at q1 q2
  rw [e2] at q3
  rw [e3] at q4
  refine M.run 3 (pc' := 3) (lv' := [some (vi (((b0 + 256 * b1 + 65536 * b2 + 16777216 * b3) : Nat) : Int))]) (st' := [vi 1, vi (((b0 + 256 * b1 + 65536 * b2 + 16777216 * b3) : Nat) : Int), vi (((b0 + 256 * b1 + 65536 * b2 + 16777216 * b3) : Nat) : Int)]) rfl ?_
  refine M.iushr (b1 := (b0 + 256 * b1 + 65536 * b2 + 16777216 * b3)) (b2 := 1) rfl (by omega) (by omega) ?_
  have hs1 := Nat.shiftRight_le (b0 + 256 * b1 + 65536 * b2 + 16777216 * b3) 1
  refine M.ldcw (x := 1431655765) kc_J6_265 rfl rfl ?_
  refine M.iand (b1 := (b0 + 256 * b1 + 65536 * b2 + 16777216 * b3) >>> 1) (b2 := 1431655765) rfl (by omega) (by omega) ?_
  have hl2 := Nat.and_le_left (n := (b0 + 256 * b1 + 65536 * b2 + 16777216 * b3) >>> 1) (m := 1431655765)
  have hr3 := Nat.and_le_right (n := (b0 + 256 * b1 + 65536 * b2 + 16777216 * b3) >>> 1) (m := 1431655765)
  refine M.run 1 (pc' := 9) (lv' := [some (vi (((b0 + 256 * b1 + 65536 * b2 + 16777216 * b3) : Nat) : Int))]) (st' := [vi ((((b0 + 256 * b1 + 65536 * b2 + 16777216 * b3) : Nat) : Int) - ((((b0 + 256 * b1 + 65536 * b2 + 16777216 * b3) >>> 1) &&& 1431655765 : Nat) : Int))]) rfl ?_
  rw [show (((b0 + 256 * b1 + 65536 * b2 + 16777216 * b3) : Nat) : Int) - ((((b0 + 256 * b1 + 65536 * b2 + 16777216 * b3) >>> 1) &&& 1431655765 : Nat) : Int) = (((t1 b0 + 256 * t1 b1 + 65536 * t1 b2 + 16777216 * t1 b3) : Nat) : Int) from (by omega)]
  refine M.run 2 (pc' := 11) (lv' := [some (vi (((t1 b0 + 256 * t1 b1 + 65536 * t1 b2 + 16777216 * t1 b3) : Nat) : Int))]) (st' := [vi (((t1 b0 + 256 * t1 b1 + 65536 * t1 b2 + 16777216 * t1 b3) : Nat) : Int)]) rfl ?_
  refine M.ldcw (x := 858993459) kc_J6_266 rfl rfl ?_
  refine M.iand (b1 := (t1 b0 + 256 * t1 b1 + 65536 * t1 b2 + 16777216 * t1 b3)) (b2 := 858993459) rfl (by omega) (by omega) ?_
  have hl4 := Nat.and_le_left (n := (t1 b0 + 256 * t1 b1 + 65536 * t1 b2 + 16777216 * t1 b3)) (m := 858993459)
  have hr5 := Nat.and_le_right (n := (t1 b0 + 256 * t1 b1 + 65536 * t1 b2 + 16777216 * t1 b3)) (m := 858993459)
  refine M.run 2 (pc' := 17) (lv' := [some (vi (((t1 b0 + 256 * t1 b1 + 65536 * t1 b2 + 16777216 * t1 b3) : Nat) : Int))]) (st' := [vi 2, vi (((t1 b0 + 256 * t1 b1 + 65536 * t1 b2 + 16777216 * t1 b3) : Nat) : Int), vi (((t1 b0 + 256 * t1 b1 + 65536 * t1 b2 + 16777216 * t1 b3) &&& 858993459 : Nat) : Int)]) rfl ?_
  refine M.iushr (b1 := (t1 b0 + 256 * t1 b1 + 65536 * t1 b2 + 16777216 * t1 b3)) (b2 := 2) rfl (by omega) (by omega) ?_
  have hs6 := Nat.shiftRight_le (t1 b0 + 256 * t1 b1 + 65536 * t1 b2 + 16777216 * t1 b3) 2
  refine M.ldcw (x := 858993459) kc_J6_266 rfl rfl ?_
  refine M.iand (b1 := (t1 b0 + 256 * t1 b1 + 65536 * t1 b2 + 16777216 * t1 b3) >>> 2) (b2 := 858993459) rfl (by omega) (by omega) ?_
  have hl7 := Nat.and_le_left (n := (t1 b0 + 256 * t1 b1 + 65536 * t1 b2 + 16777216 * t1 b3) >>> 2) (m := 858993459)
  have hr8 := Nat.and_le_right (n := (t1 b0 + 256 * t1 b1 + 65536 * t1 b2 + 16777216 * t1 b3) >>> 2) (m := 858993459)
  refine M.run 1 (pc' := 23) (lv' := [some (vi (((t1 b0 + 256 * t1 b1 + 65536 * t1 b2 + 16777216 * t1 b3) : Nat) : Int))]) (st' := [vi ((((t1 b0 + 256 * t1 b1 + 65536 * t1 b2 + 16777216 * t1 b3) &&& 858993459 : Nat) : Int) + ((((t1 b0 + 256 * t1 b1 + 65536 * t1 b2 + 16777216 * t1 b3) >>> 2) &&& 858993459 : Nat) : Int))]) rfl ?_
  rw [show (((t1 b0 + 256 * t1 b1 + 65536 * t1 b2 + 16777216 * t1 b3) &&& 858993459 : Nat) : Int) + ((((t1 b0 + 256 * t1 b1 + 65536 * t1 b2 + 16777216 * t1 b3) >>> 2) &&& 858993459 : Nat) : Int) = (((t2 (t1 b0) + 256 * t2 (t1 b1) + 65536 * t2 (t1 b2) + 16777216 * t2 (t1 b3)) : Nat) : Int) from (by omega)]
  refine M.run 4 (pc' := 27) (lv' := [some (vi (((t2 (t1 b0) + 256 * t2 (t1 b1) + 65536 * t2 (t1 b2) + 16777216 * t2 (t1 b3)) : Nat) : Int))]) (st' := [vi 4, vi (((t2 (t1 b0) + 256 * t2 (t1 b1) + 65536 * t2 (t1 b2) + 16777216 * t2 (t1 b3)) : Nat) : Int), vi (((t2 (t1 b0) + 256 * t2 (t1 b1) + 65536 * t2 (t1 b2) + 16777216 * t2 (t1 b3)) : Nat) : Int)]) rfl ?_
  refine M.iushr (b1 := (t2 (t1 b0) + 256 * t2 (t1 b1) + 65536 * t2 (t1 b2) + 16777216 * t2 (t1 b3))) (b2 := 4) rfl (by omega) (by omega) ?_
  have hs9 := Nat.shiftRight_le (t2 (t1 b0) + 256 * t2 (t1 b1) + 65536 * t2 (t1 b2) + 16777216 * t2 (t1 b3)) 4
  refine M.run 1 (pc' := 29) (lv' := [some (vi (((t2 (t1 b0) + 256 * t2 (t1 b1) + 65536 * t2 (t1 b2) + 16777216 * t2 (t1 b3)) : Nat) : Int))]) (st' := [vi ((((t2 (t1 b0) + 256 * t2 (t1 b1) + 65536 * t2 (t1 b2) + 16777216 * t2 (t1 b3)) : Nat) : Int) + (((t2 (t1 b0) + 256 * t2 (t1 b1) + 65536 * t2 (t1 b2) + 16777216 * t2 (t1 b3)) >>> 4 : Nat) : Int))]) rfl ?_
  refine M.ldcw (x := 252645135) kc_J6_267 rfl rfl ?_
  refine M.iand (b1 := (t2 (t1 b0) + 256 * t2 (t1 b1) + 65536 * t2 (t1 b2) + 16777216 * t2 (t1 b3)) + ((t2 (t1 b0) + 256 * t2 (t1 b1) + 65536 * t2 (t1 b2) + 16777216 * t2 (t1 b3)) >>> 4)) (b2 := 252645135) rfl (by omega) (by omega) ?_
  have hl10 := Nat.and_le_left (n := (t2 (t1 b0) + 256 * t2 (t1 b1) + 65536 * t2 (t1 b2) + 16777216 * t2 (t1 b3)) + ((t2 (t1 b0) + 256 * t2 (t1 b1) + 65536 * t2 (t1 b2) + 16777216 * t2 (t1 b3)) >>> 4)) (m := 252645135)
  have hr11 := Nat.and_le_right (n := (t2 (t1 b0) + 256 * t2 (t1 b1) + 65536 * t2 (t1 b2) + 16777216 * t2 (t1 b3)) + ((t2 (t1 b0) + 256 * t2 (t1 b1) + 65536 * t2 (t1 b2) + 16777216 * t2 (t1 b3)) >>> 4)) (m := 252645135)
  rw [show ((((t2 (t1 b0) + 256 * t2 (t1 b1) + 65536 * t2 (t1 b2) + 16777216 * t2 (t1 b3)) + ((t2 (t1 b0) + 256 * t2 (t1 b1) + 65536 * t2 (t1 b2) + 16777216 * t2 (t1 b3)) >>> 4)) &&& 252645135 : Nat) : Int) = (((bPcF 8 b0 + 256 * bPcF 8 b1 + 65536 * bPcF 8 b2 + 16777216 * bPcF 8 b3) : Nat) : Int) from (congrArg Int.ofNat q4)]
  refine M.run 4 (pc' := 38) (lv' := [some (vi (((bPcF 8 b0 + 256 * bPcF 8 b1 + 65536 * bPcF 8 b2 + 16777216 * bPcF 8 b3) : Nat) : Int))]) (st' := [vi 8, vi (((bPcF 8 b0 + 256 * bPcF 8 b1 + 65536 * bPcF 8 b2 + 16777216 * bPcF 8 b3) : Nat) : Int), vi (((bPcF 8 b0 + 256 * bPcF 8 b1 + 65536 * bPcF 8 b2 + 16777216 * bPcF 8 b3) : Nat) : Int)]) rfl ?_
  refine M.iushr (b1 := (bPcF 8 b0 + 256 * bPcF 8 b1 + 65536 * bPcF 8 b2 + 16777216 * bPcF 8 b3)) (b2 := 8) rfl (by omega) (by omega) ?_
  have hs12 := Nat.shiftRight_le (bPcF 8 b0 + 256 * bPcF 8 b1 + 65536 * bPcF 8 b2 + 16777216 * bPcF 8 b3) 8
  refine M.run 1 (pc' := 40) (lv' := [some (vi (((bPcF 8 b0 + 256 * bPcF 8 b1 + 65536 * bPcF 8 b2 + 16777216 * bPcF 8 b3) : Nat) : Int))]) (st' := [vi ((((bPcF 8 b0 + 256 * bPcF 8 b1 + 65536 * bPcF 8 b2 + 16777216 * bPcF 8 b3) : Nat) : Int) + (((bPcF 8 b0 + 256 * bPcF 8 b1 + 65536 * bPcF 8 b2 + 16777216 * bPcF 8 b3) >>> 8 : Nat) : Int))]) rfl ?_
  rw [show (((bPcF 8 b0 + 256 * bPcF 8 b1 + 65536 * bPcF 8 b2 + 16777216 * bPcF 8 b3) : Nat) : Int) + (((bPcF 8 b0 + 256 * bPcF 8 b1 + 65536 * bPcF 8 b2 + 16777216 * bPcF 8 b3) >>> 8 : Nat) : Int) = ((((bPcF 8 b0 + 256 * bPcF 8 b1 + 65536 * bPcF 8 b2 + 16777216 * bPcF 8 b3) + (bPcF 8 b0 + 256 * bPcF 8 b1 + 65536 * bPcF 8 b2 + 16777216 * bPcF 8 b3) / 256) : Nat) : Int) by omega]
  refine M.run 4 (pc' := 45) (lv' := [some (vi ((((bPcF 8 b0 + 256 * bPcF 8 b1 + 65536 * bPcF 8 b2 + 16777216 * bPcF 8 b3) + (bPcF 8 b0 + 256 * bPcF 8 b1 + 65536 * bPcF 8 b2 + 16777216 * bPcF 8 b3) / 256) : Nat) : Int))]) (st' := [vi 16, vi ((((bPcF 8 b0 + 256 * bPcF 8 b1 + 65536 * bPcF 8 b2 + 16777216 * bPcF 8 b3) + (bPcF 8 b0 + 256 * bPcF 8 b1 + 65536 * bPcF 8 b2 + 16777216 * bPcF 8 b3) / 256) : Nat) : Int), vi ((((bPcF 8 b0 + 256 * bPcF 8 b1 + 65536 * bPcF 8 b2 + 16777216 * bPcF 8 b3) + (bPcF 8 b0 + 256 * bPcF 8 b1 + 65536 * bPcF 8 b2 + 16777216 * bPcF 8 b3) / 256) : Nat) : Int)]) rfl ?_
  refine M.iushr (b1 := ((bPcF 8 b0 + 256 * bPcF 8 b1 + 65536 * bPcF 8 b2 + 16777216 * bPcF 8 b3) + (bPcF 8 b0 + 256 * bPcF 8 b1 + 65536 * bPcF 8 b2 + 16777216 * bPcF 8 b3) / 256)) (b2 := 16) rfl (by omega) (by omega) ?_
  have hs13 := Nat.shiftRight_le ((bPcF 8 b0 + 256 * bPcF 8 b1 + 65536 * bPcF 8 b2 + 16777216 * bPcF 8 b3) + (bPcF 8 b0 + 256 * bPcF 8 b1 + 65536 * bPcF 8 b2 + 16777216 * bPcF 8 b3) / 256) 16
  refine M.run 1 (pc' := 47) (lv' := [some (vi ((((bPcF 8 b0 + 256 * bPcF 8 b1 + 65536 * bPcF 8 b2 + 16777216 * bPcF 8 b3) + (bPcF 8 b0 + 256 * bPcF 8 b1 + 65536 * bPcF 8 b2 + 16777216 * bPcF 8 b3) / 256) : Nat) : Int))]) (st' := [vi (((((bPcF 8 b0 + 256 * bPcF 8 b1 + 65536 * bPcF 8 b2 + 16777216 * bPcF 8 b3) + (bPcF 8 b0 + 256 * bPcF 8 b1 + 65536 * bPcF 8 b2 + 16777216 * bPcF 8 b3) / 256) : Nat) : Int) + ((((bPcF 8 b0 + 256 * bPcF 8 b1 + 65536 * bPcF 8 b2 + 16777216 * bPcF 8 b3) + (bPcF 8 b0 + 256 * bPcF 8 b1 + 65536 * bPcF 8 b2 + 16777216 * bPcF 8 b3) / 256) >>> 16 : Nat) : Int))]) rfl ?_
  rw [show ((((bPcF 8 b0 + 256 * bPcF 8 b1 + 65536 * bPcF 8 b2 + 16777216 * bPcF 8 b3) + (bPcF 8 b0 + 256 * bPcF 8 b1 + 65536 * bPcF 8 b2 + 16777216 * bPcF 8 b3) / 256) : Nat) : Int) + ((((bPcF 8 b0 + 256 * bPcF 8 b1 + 65536 * bPcF 8 b2 + 16777216 * bPcF 8 b3) + (bPcF 8 b0 + 256 * bPcF 8 b1 + 65536 * bPcF 8 b2 + 16777216 * bPcF 8 b3) / 256) >>> 16 : Nat) : Int) = (((((bPcF 8 b0 + 256 * bPcF 8 b1 + 65536 * bPcF 8 b2 + 16777216 * bPcF 8 b3) + (bPcF 8 b0 + 256 * bPcF 8 b1 + 65536 * bPcF 8 b2 + 16777216 * bPcF 8 b3) / 256) + ((bPcF 8 b0 + 256 * bPcF 8 b1 + 65536 * bPcF 8 b2 + 16777216 * bPcF 8 b3) + (bPcF 8 b0 + 256 * bPcF 8 b1 + 65536 * bPcF 8 b2 + 16777216 * bPcF 8 b3) / 256) / 65536) : Nat) : Int) by omega]
  refine M.run 3 (pc' := 51) (lv' := [some (vi (((((bPcF 8 b0 + 256 * bPcF 8 b1 + 65536 * bPcF 8 b2 + 16777216 * bPcF 8 b3) + (bPcF 8 b0 + 256 * bPcF 8 b1 + 65536 * bPcF 8 b2 + 16777216 * bPcF 8 b3) / 256) + ((bPcF 8 b0 + 256 * bPcF 8 b1 + 65536 * bPcF 8 b2 + 16777216 * bPcF 8 b3) + (bPcF 8 b0 + 256 * bPcF 8 b1 + 65536 * bPcF 8 b2 + 16777216 * bPcF 8 b3) / 256) / 65536) : Nat) : Int))]) (st' := [vi 63, vi (((((bPcF 8 b0 + 256 * bPcF 8 b1 + 65536 * bPcF 8 b2 + 16777216 * bPcF 8 b3) + (bPcF 8 b0 + 256 * bPcF 8 b1 + 65536 * bPcF 8 b2 + 16777216 * bPcF 8 b3) / 256) + ((bPcF 8 b0 + 256 * bPcF 8 b1 + 65536 * bPcF 8 b2 + 16777216 * bPcF 8 b3) + (bPcF 8 b0 + 256 * bPcF 8 b1 + 65536 * bPcF 8 b2 + 16777216 * bPcF 8 b3) / 256) / 65536) : Nat) : Int)]) rfl ?_
  refine M.iand (b1 := (((bPcF 8 b0 + 256 * bPcF 8 b1 + 65536 * bPcF 8 b2 + 16777216 * bPcF 8 b3) + (bPcF 8 b0 + 256 * bPcF 8 b1 + 65536 * bPcF 8 b2 + 16777216 * bPcF 8 b3) / 256) + ((bPcF 8 b0 + 256 * bPcF 8 b1 + 65536 * bPcF 8 b2 + 16777216 * bPcF 8 b3) + (bPcF 8 b0 + 256 * bPcF 8 b1 + 65536 * bPcF 8 b2 + 16777216 * bPcF 8 b3) / 256) / 65536)) (b2 := 63) rfl (by omega) (by omega) ?_
  have hl14 := Nat.and_le_left (n := (((bPcF 8 b0 + 256 * bPcF 8 b1 + 65536 * bPcF 8 b2 + 16777216 * bPcF 8 b3) + (bPcF 8 b0 + 256 * bPcF 8 b1 + 65536 * bPcF 8 b2 + 16777216 * bPcF 8 b3) / 256) + ((bPcF 8 b0 + 256 * bPcF 8 b1 + 65536 * bPcF 8 b2 + 16777216 * bPcF 8 b3) + (bPcF 8 b0 + 256 * bPcF 8 b1 + 65536 * bPcF 8 b2 + 16777216 * bPcF 8 b3) / 256) / 65536)) (m := 63)
  have hr15 := Nat.and_le_right (n := (((bPcF 8 b0 + 256 * bPcF 8 b1 + 65536 * bPcF 8 b2 + 16777216 * bPcF 8 b3) + (bPcF 8 b0 + 256 * bPcF 8 b1 + 65536 * bPcF 8 b2 + 16777216 * bPcF 8 b3) / 256) + ((bPcF 8 b0 + 256 * bPcF 8 b1 + 65536 * bPcF 8 b2 + 16777216 * bPcF 8 b3) + (bPcF 8 b0 + 256 * bPcF 8 b1 + 65536 * bPcF 8 b2 + 16777216 * bPcF 8 b3) / 256) / 65536)) (m := 63)
  exact M.iret rfl (Nat.zero_le _) (Nat.zero_le _) ⟨reI (by rw [hb4]; exact congrArg Int.ofNat (fold_u p0 p1 p2 p3)), rfl⟩
set_option maxHeartbeats 4000000 in
set_option maxRecDepth 100000 in
theorem kX0_longestRun (l : Launch) (G : GT) (b : Nat) (hb : b < 1073741824) : Ctr l G yX0_longestRun cX0_longestRun 4 ((Option.some Jvm.ClassFile.FieldType.int)) 2 0 0 [vi ((b : Nat) : Int)] (fun w => True) (fun w r w' => r = some (vi ((mLg b 30 : Nat) : Int)) ∧ w' = w) := by
  refine Ctr.of (t := tX0_longestRun) (lv0 := [some (vi ((b : Nat) : Int)), none, none, none]) (by decide +kernel) tX0_longestRun_ok rfl rfl (fun w g hP M => ?_)
  refine M.run 6 (pc' := 6) (lv' := [some (vi ((b : Nat) : Int)), some (vi 0), some (vi 0), some (vi 0)]) (st' := []) rfl ?_
  have Lp6 : ∀ (N : Nat) (p : Nat) (m : Nat) (r : Nat), (m = mR b p) → (r = rn b p) → (p ≤ 30) → (m ≤ 30) → (r ≤ p) → 30 - p < N → g 0 0 w 6 [some (vi ((b : Nat) : Int)), some (vi ((m : Nat) : Int)), some (vi ((r : Nat) : Int)), some (vi ((p : Nat) : Int))] [] := by
    intro N
    induction N with
    | zero => intro p m r _ _ _ _ _ hN; exact absurd hN (Nat.not_lt_zero _)
    | succ N ih6 =>
      intro p m r hm hr hp hm2 hr2 hN
      refine M.run 2 (pc' := 9) (lv' := [some (vi ((b : Nat) : Int)), some (vi ((m : Nat) : Int)), some (vi ((r : Nat) : Int)), some (vi ((p : Nat) : Int))]) (st' := [vi 30, vi ((p : Nat) : Int)]) rfl ?_
      refine M.icmp_ge (tgt := 41) rfl (qI (by omega)) (qI (by decide)) (by decide) (fun h9 => ?_) (fun h9 => ?_)
      · skip
        refine M.run 1 (pc' := 42) (lv' := [some (vi ((b : Nat) : Int)), some (vi ((m : Nat) : Int)), some (vi ((r : Nat) : Int)), some (vi ((p : Nat) : Int))]) (st' := [vi ((m : Nat) : Int)]) rfl ?_
        exact M.iret rfl (Nat.zero_le _) (Nat.zero_le _) ⟨reI (by rw [hm, show p = 30 by omega, mR_lg]), rfl⟩
      · skip
        refine M.run 2 (pc' := 14) (lv' := [some (vi ((b : Nat) : Int)), some (vi ((m : Nat) : Int)), some (vi ((r : Nat) : Int)), some (vi ((p : Nat) : Int))]) (st' := [vi ((p : Nat) : Int), vi ((b : Nat) : Int)]) rfl ?_
        refine M.ishr (b1 := b) (b2 := p) rfl (by omega) (by omega) ?_
        have hs1 := Nat.shiftRight_le b p
        refine M.run 1 (pc' := 16) (lv' := [some (vi ((b : Nat) : Int)), some (vi ((m : Nat) : Int)), some (vi ((r : Nat) : Int)), some (vi ((p : Nat) : Int))]) (st' := [vi 1, vi ((b >>> p : Nat) : Int)]) rfl ?_
        refine M.iand (b1 := b >>> p) (b2 := 1) rfl (by omega) (by omega) ?_
        have hl2 := Nat.and_le_left (n := b >>> p) (m := 1)
        have hr3 := Nat.and_le_right (n := b >>> p) (m := 1)
        refine M.run 1 (pc' := 18) (lv' := [some (vi ((b : Nat) : Int)), some (vi ((m : Nat) : Int)), some (vi ((r : Nat) : Int)), some (vi ((p : Nat) : Int))]) (st' := [vi 1, vi (((b >>> p) &&& 1 : Nat) : Int)]) rfl ?_
        refine M.icmp_ne (tgt := 27) rfl (qI (by omega)) (qI (by decide)) (by decide) (fun h18 => ?_) (fun h18 => ?_)
        · skip
          have hrs : 0 = rn b (p + 1) := (if_neg (by rw [Bool.not_eq_true]; exact (bit_and1n b p).mp (by omega))).symm
          refine M.run 4 (pc' := 31) (lv' := [some (vi ((b : Nat) : Int)), some (vi ((m : Nat) : Int)), some (vi 0), some (vi ((p : Nat) : Int))]) (st' := [vi 0, vi ((m : Nat) : Int)]) rfl ?_
          refine M.mmax cs_X0_16 rfl (qI (by omega)) (qI (by decide)) (by decide) (Nat.zero_le _) (Nat.zero_le _) rfl ?_
          rw [show max ((m : Nat) : Int) 0 = ((max m 0 : Nat) : Int) by omega]
          refine M.run 3 (pc' := 6) (lv' := [some (vi ((b : Nat) : Int)), some (vi ((max m 0 : Nat) : Int)), some (vi 0), some (vi (((p : Nat) : Int) + 1))]) (st' := []) rfl ?_
          exact ih6 (p + 1) (max m 0) 0 (by rw [hm, hrs]; rfl) hrs (by omega) (by omega) (by omega) (by omega)
        · skip
          have hrs : r + 1 = rn b (p + 1) := by rw [hr]; exact (if_pos ((bit_and1 b p).mp (by omega))).symm
          refine M.run 7 (pc' := 31) (lv' := [some (vi ((b : Nat) : Int)), some (vi ((m : Nat) : Int)), some (vi (((r : Nat) : Int) + 1)), some (vi ((p : Nat) : Int))]) (st' := [vi (((r : Nat) : Int) + 1), vi ((m : Nat) : Int)]) rfl ?_
          refine M.mmax cs_X0_16 rfl (qI (by omega)) (qI (by omega)) (by decide) (Nat.zero_le _) (Nat.zero_le _) rfl ?_
          rw [show max ((m : Nat) : Int) (((r : Nat) : Int) + 1) = ((max m (r + 1) : Nat) : Int) by omega]
          refine M.run 3 (pc' := 6) (lv' := [some (vi ((b : Nat) : Int)), some (vi ((max m (r + 1) : Nat) : Int)), some (vi (((r : Nat) : Int) + 1)), some (vi (((p : Nat) : Int) + 1))]) (st' := []) rfl ?_
          exact ih6 (p + 1) (max m (r + 1)) (r + 1) (by rw [hm, hrs]; rfl) hrs (by omega) (by omega) (by omega) (by omega)
  exact Lp6 _ 0 0 0 rfl rfl (by omega) (by omega) (by omega) (Nat.lt_succ_self _)
