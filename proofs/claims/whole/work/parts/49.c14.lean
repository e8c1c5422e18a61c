theorem twoC_b (o x y : Int) : bd6 (twoC o x y) := by
  have z : ∀ b : Bool, bd6 (zb b) := fun b => by cases b <;> exact ⟨by decide, by decide⟩
  unfold twoC
  repeat' split
  all_goals first | exact z _ | exact clipI_b _ | exact ⟨by decide, by decide⟩
theorem bd6_n {v : Int} (h : bd6 v) : bd6 (-v) := ⟨by have := h.2; omega, by have := h.1; omega⟩
theorem jst_B {nm : Nat → Int} {of : Int → Int → Int} {o v : Int} {S S2 : JS} (hn : ∀ k : Nat, k < 7 → bd6 (nm k)) (hof : ∀ q x : Int, bd6 (of q x)) (h : jst nm of o v S = some S2) (hb : ∀ k : Nat, k < S.2.1 → bd6 (S.1 k)) : (∀ k : Nat, k < S2.2.1 → bd6 (S2.1 k)) ∧ S2.2.1 ≤ S.2.1 + 1 := by
  unfold jst at h
  by_cases c1 : o = 61
  · rw [if_pos c1] at h
    split at h
    · cases h
      exact ⟨fun k hk => hb k (by have : k < S.2.1 - 1 := hk; omega), by show S.2.1 - 1 ≤ S.2.1 + 1; omega⟩
    · cases h
  rw [if_neg c1] at h
  by_cases c2 : o = 62
  · rw [if_pos c2] at h
    cases h
    exact ⟨hb, Nat.le_succ _⟩
  rw [if_neg c2] at h
  by_cases c3 : o = 50
  · rw [if_pos c3] at h
    split at h
    · next q =>
      cases h
      exact ⟨bd6_u hb ⟨by omega, by omega⟩ (fun k hk hj => by have : k < S.2.1 + 1 := hk; omega), Nat.le_refl _⟩
    · cases h
  rw [if_neg c3] at h
  by_cases c4 : o = 60
  · rw [if_pos c4] at h
    split at h
    · cases h
      exact ⟨bd6_u hb (bd6_n (hb _ (by omega))) (fun k hk hj => hk), Nat.le_succ _⟩
    · cases h
  rw [if_neg c4] at h
  by_cases c5 : o = 16
  · rw [if_pos c5] at h
    split at h
    · next q =>
      cases h
      exact ⟨bd6_u hb ⟨by rcases q.2 with z | z <;> omega, by rcases q.2 with z | z <;> omega⟩ (fun k hk hj => hk), Nat.le_succ _⟩
    · cases h
  rw [if_neg c5] at h
  by_cases c6 : o = 8 ∨ o = 9
  · rw [if_pos c6] at h
    split at h
    · cases h
      exact ⟨bd6_u hb (hof _ _) (fun k hk hj => hk), Nat.le_succ _⟩
    · cases h
  rw [if_neg c6] at h
  by_cases c7 : 17 ≤ o ∧ o ≤ 23
  · rw [if_pos c7] at h
    cases h
    exact ⟨bd6_u hb (hn _ (by omega)) (fun k hk hj => by have : k < S.2.1 + 1 := hk; omega), Nat.le_refl _⟩
  rw [if_neg c7] at h
  split at h
  · cases h
    exact ⟨bd6_u hb (twoC_b _ _ _) (fun k hk hj => by have : k < S.2.1 - 1 := hk; omega), by show S.2.1 - 1 ≤ S.2.1 + 1; omega⟩
  · cases h
