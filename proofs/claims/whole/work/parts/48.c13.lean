/-! what the class's orders make: a stack, its height, the place to skip to -/
abbrev JS : Type := (Nat → Int) × Nat × Int
def jst (nm : Nat → Int) (of : Int → Int → Int) (o v : Int) (S : JS) : Option JS :=
  if o = 61 then (if 1 ≤ S.2.1 then some (S.1, S.2.1 - 1, if S.1 (S.2.1 - 1) = 0 then v else S.2.2) else none)
  else if o = 62 then some (S.1, S.2.1, v)
  else if o = 50 then (if 0 ≤ v ∧ v ≤ 9999 then some (uN S.1 S.2.1 v, S.2.1 + 1, S.2.2) else none)
  else if o = 60 then (if 1 ≤ S.2.1 then some (uN S.1 (S.2.1 - 1) (-(S.1 (S.2.1 - 1))), S.2.1, S.2.2) else none)
  else if o = 16 then (if 1 ≤ S.2.1 ∧ (S.1 (S.2.1 - 1) = 0 ∨ S.1 (S.2.1 - 1) = 1) then some (uN S.1 (S.2.1 - 1) (1 - S.1 (S.2.1 - 1)), S.2.1, S.2.2) else none)
  else if o = 8 ∨ o = 9 then (if 1 ≤ S.2.1 then some (uN S.1 (S.2.1 - 1) (of (if o = 8 then 2 else 4) (S.1 (S.2.1 - 1))), S.2.1, S.2.2) else none)
  else if 17 ≤ o ∧ o ≤ 23 then some (uN S.1 S.2.1 (nm (o - 17).toNat), S.2.1 + 1, S.2.2)
  else if (o = 14 ∨ o = 15 ∨ (30 ≤ o ∧ o ≤ 37) ∨ o = 41 ∨ o = 42) ∧ 2 ≤ S.2.1 ∧ (o = 14 ∨ o = 15 → (S.1 (S.2.1 - 2) = 0 ∨ S.1 (S.2.1 - 2) = 1) ∧ (S.1 (S.2.1 - 1) = 0 ∨ S.1 (S.2.1 - 1) = 1)) then some (uN S.1 (S.2.1 - 2) (twoC o (S.1 (S.2.1 - 2)) (S.1 (S.2.1 - 1))), S.2.1 - 1, S.2.2)
  else none
def jrun (nm : Nat → Int) (of : Int → Int → Int) (f : Nat → Int) : Nat → Nat → JS → Option JS
  | 0, _, S => some S
  | k + 1, i, S => if ((2 * i : Nat) : Int) < S.2.2 then jrun nm of f k (i + 1) S else match jst nm of (f (2 * i)) (f (2 * i + 1)) S with
    | none => none
    | some T => jrun nm of f k (i + 1) T
section QJS
variable {nm : Nat → Int} {of : Int → Int → Int} {f : Nat → Int} {i e : Nat} {S F : JS}
theorem jrun_k (hi : i < e) (hk : ((2 * i : Nat) : Int) < S.2.2) (h : jrun nm of f (e - i) i S = some F) : jrun nm of f (e - (i + 1)) (i + 1) S = some F := by
  rw [show e - i = (e - (i + 1)) + 1 by omega] at h
  unfold jrun at h
  rw [if_pos hk] at h
  exact h
theorem jrun_s (hi : i < e) (hk : ¬ ((2 * i : Nat) : Int) < S.2.2) (h : jrun nm of f (e - i) i S = some F) : ∃ S2, jst nm of (f (2 * i)) (f (2 * i + 1)) S = some S2 ∧ jrun nm of f (e - (i + 1)) (i + 1) S2 = some F := by
  rw [show e - i = (e - (i + 1)) + 1 by omega] at h
  unfold jrun at h
  rw [if_neg hk] at h
  split at h
  · cases h
  · next T hT => exact ⟨T, hT, h⟩
theorem jrun_e {k : Nat} : jrun nm of f (k + 1) i S = (if ((2 * i : Nat) : Int) < S.2.2 then jrun nm of f k (i + 1) S else match jst nm of (f (2 * i)) (f (2 * i + 1)) S with
    | none => none
    | some T => jrun nm of f k (i + 1) T) := rfl
theorem jrun_add : ∀ (j k i : Nat) (S : JS), jrun nm of f (j + k) i S = (jrun nm of f j i S).bind (fun T => jrun nm of f k (i + j) T)
  | 0, k, i, S => by
    rw [Nat.zero_add, Nat.add_zero]
    rfl
  | j + 1, k, i, S => by
    rw [show j + 1 + k = (j + k) + 1 by omega]
    have ih := fun T => jrun_add j k (i + 1) T
    rw [jrun_e (k := j + k), jrun_e (k := j), show i + (j + 1) = i + 1 + j by omega]
    split
    · exact ih S
    · split
      · rfl
      · exact ih _
end QJS
