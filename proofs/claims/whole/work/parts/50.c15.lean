section QJI
variable {nm : Nat → Int} {of : Int → Int → Int} {o v k : Int} {V : Nat → Int} {n : Nat} {S2 : JS}
theorem jst_61 (h : jst nm of o v (V, n, k) = some S2) (c : o = 61) : 1 ≤ n ∧ S2 = (V, n - 1, if V (n - 1) = 0 then v else k) := by
  unfold jst at h
  rw [if_pos c] at h
  split at h
  · next q => cases h; exact ⟨q, rfl⟩
  · cases h
theorem jst_62 (h : jst nm of o v (V, n, k) = some S2) (c : o = 62) : S2 = (V, n, v) := by
  unfold jst at h
  rw [if_neg (by omega), if_pos c] at h
  cases h; rfl
theorem jst_50 (h : jst nm of o v (V, n, k) = some S2) (c : o = 50) : (0 ≤ v ∧ v ≤ 9999) ∧ S2 = (uN V n v, n + 1, k) := by
  unfold jst at h
  rw [if_neg (by omega), if_neg (by omega), if_pos c] at h
  split at h
  · next q => cases h; exact ⟨q, rfl⟩
  · cases h
theorem jst_60 (h : jst nm of o v (V, n, k) = some S2) (c : o = 60) : 1 ≤ n ∧ S2 = (uN V (n - 1) (-(V (n - 1))), n, k) := by
  unfold jst at h
  rw [if_neg (by omega), if_neg (by omega), if_neg (by omega), if_pos c] at h
  split at h
  · next q => cases h; exact ⟨q, rfl⟩
  · cases h
theorem jst_16 (h : jst nm of o v (V, n, k) = some S2) (c : o = 16) : (1 ≤ n ∧ (V (n - 1) = 0 ∨ V (n - 1) = 1)) ∧ S2 = (uN V (n - 1) (1 - V (n - 1)), n, k) := by
  unfold jst at h
  rw [if_neg (by omega), if_neg (by omega), if_neg (by omega), if_neg (by omega), if_pos c] at h
  split at h
  · next q => cases h; exact ⟨q, rfl⟩
  · cases h
theorem jst_8 (h : jst nm of o v (V, n, k) = some S2) (c : o = 8 ∨ o = 9) : 1 ≤ n ∧ S2 = (uN V (n - 1) (of (if o = 8 then 2 else 4) (V (n - 1))), n, k) := by
  unfold jst at h
  rw [if_neg (by omega), if_neg (by omega), if_neg (by omega), if_neg (by omega), if_neg (by omega), if_pos c] at h
  split at h
  · next q => cases h; exact ⟨q, rfl⟩
  · cases h
theorem jst_17 (h : jst nm of o v (V, n, k) = some S2) (c : 17 ≤ o ∧ o ≤ 23) : S2 = (uN V n (nm (o - 17).toNat), n + 1, k) := by
  unfold jst at h
  rw [if_neg (by omega), if_neg (by omega), if_neg (by omega), if_neg (by omega), if_neg (by omega), if_neg (by omega), if_pos c] at h
  cases h; rfl
theorem jst_2 (h : jst nm of o v (V, n, k) = some S2) (c1 : ¬ o = 61) (c2 : ¬ o = 62) (c3 : ¬ o = 50) (c4 : ¬ o = 60) (c5 : ¬ o = 16) (c6 : ¬ (o = 8 ∨ o = 9)) (c7 : ¬ (17 ≤ o ∧ o ≤ 23)) :
    ((o = 14 ∨ o = 15 ∨ (30 ≤ o ∧ o ≤ 37) ∨ o = 41 ∨ o = 42) ∧ 2 ≤ n ∧ (o = 14 ∨ o = 15 → (V (n - 2) = 0 ∨ V (n - 2) = 1) ∧ (V (n - 1) = 0 ∨ V (n - 1) = 1))) ∧ S2 = (uN V (n - 2) (twoC o (V (n - 2)) (V (n - 1))), n - 1, k) := by
  unfold jst at h
  rw [if_neg c1, if_neg c2, if_neg c3, if_neg c4, if_neg c5, if_neg c6, if_neg c7] at h
  split at h
  · next q => cases h; exact ⟨q, rfl⟩
  · cases h
end QJI
