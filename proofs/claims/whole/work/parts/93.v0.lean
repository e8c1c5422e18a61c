/-! what is read means the same to the class's orders and to the reference's -/
theorem cdAt_sp {g : Nat → Int} : ∀ (A : List (Int × Int)) {B : List (Int × Int)} {b : Nat}, cdAt g b (A ++ B) → cdAt g b A ∧ cdAt g (b + 2 * A.length) B
  | [], B, b, h => ⟨trivial, h⟩
  | x :: A, B, b, h => by
    obtain ⟨h1, h2⟩ := h
    obtain ⟨h3, h4⟩ := cdAt_sp A h2
    refine ⟨⟨h1, h3⟩, ?_⟩
    rw [List.length_cons, show b + 2 * (A.length + 1) = b + 2 + 2 * A.length by omega]
    exact h4
section QMJ
variable {nm : Nat → Int} {of : Int → Int → Int} {f : Nat → Int} {i m : Nat} {S T : JS}
theorem jrun_1 (hk : ¬ ((2 * i : Nat) : Int) < S.2.2) (h : jst nm of (f (2 * i)) (f (2 * i + 1)) S = some T) : jrun nm of f (1 + m) i S = jrun nm of f m (i + 1) T := by
  rw [Nat.add_comm]
  show (if ((2 * i : Nat) : Int) < S.2.2 then _ else _) = _
  rw [if_neg hk, h]
theorem jrun_sk : ∀ (j : Nat) {i : Nat}, (∀ t : Nat, i ≤ t → t < i + j → ((2 * t : Nat) : Int) < S.2.2) → jrun nm of f (j + m) i S = jrun nm of f m (i + j) S
  | 0, i, _ => by rw [Nat.zero_add]; rfl
  | j + 1, i, h => by
    rw [show j + 1 + m = (j + m) + 1 by omega]
    show (if ((2 * i : Nat) : Int) < S.2.2 then _ else _) = _
    rw [if_pos (h i (Nat.le_refl _) (by omega)), jrun_sk j (fun t h1 h2 => h t (by omega) (by omega)), show i + 1 + j = i + (j + 1) by omega]
end QMJ
/-- what the class's orders push -/
def jM (e : Ex) (z : Int) (gg : Gn) : Prop := ∀ (nm : Nat → Int) (of : Int → Int → Int) (f : Nat → Int) (i : Nat) (V : Nat → Int) (n : Nat) (k2 : Int), cdAt f (2 * i) (cdE e (2 * i)) → ¬ ((2 * i : Nat) : Int) < k2 → ∃ V2 k3, (∀ m : Nat, jrun nm of f (szE e + m) i (V, n, k2) = jrun nm of f m (i + szE e) (V2, n + 1, k3)) ∧ V2 n = gg (nmS z nm) of ∧ (∀ q : Nat, q < n → V2 q = V q) ∧ ¬ ((2 * (i + szE e) : Nat) : Int) < k3
section QJM
variable {z o v : Int} {a c x y : Ex} {gg g h : Gn}
theorem jM_lf (hs : ∀ (nm : Nat → Int) (of : Int → Int → Int) (V : Nat → Int) (n : Nat) (k : Int), jst nm of o v (V, n, k) = some (uN V n (gg (nmS z nm) of), n + 1, k)) : jM (lfE o v) z gg := by
  intro nm of f i V n k2 hc hk
  obtain ⟨⟨h1, h2⟩, _⟩ := hc
  refine ⟨uN V n (gg (nmS z nm) of), k2, fun m => jrun_1 hk (by rw [h1, h2]; exact hs nm of V n k2), uN_s _ _ _, fun q hq => uN_o (by omega), ?_⟩
  show ¬ ((2 * (i + 1) : Nat) : Int) < k2
  omega
theorem jM_un (ha : jM a z g) (ho : okE a) (hs : ∀ (nm : Nat → Int) (of : Int → Int → Int) (V : Nat → Int) (n : Nat) (k : Int), V n = g (nmS z nm) of → jst nm of o 0 (V, n + 1, k) = some (uN V n (h (nmS z nm) of), n + 1, k)) : jM (unE o a) z h := by
  intro nm of f i V n k2 hc hk
  obtain ⟨c1, c2⟩ := cdAt_sp (cdE a (2 * i)) (show cdAt f (2 * i) (cdE a (2 * i) ++ [(o, 0)]) from hc)
  rw [ho] at c2
  obtain ⟨V2, k3, r1, r2, r3, r4⟩ := ha nm of f i V n k2 c1 hk
  obtain ⟨⟨d1, d2⟩, _⟩ := c2
  rw [show 2 * i + 2 * szE a = 2 * (i + szE a) by omega] at d1 d2
  refine ⟨uN V2 n (h (nmS z nm) of), k3, fun m => ?_, uN_s _ _ _, fun q hq => (uN_o (by omega)).trans (r3 q hq), ?_⟩
  · show jrun nm of f (szE a + 1 + m) i (V, n, k2) = jrun nm of f m (i + (szE a + 1)) _
    rw [show szE a + 1 + m = szE a + (1 + m) by omega, r1, jrun_1 r4 (by rw [d1, d2]; exact hs nm of V2 n k3 r2), show i + szE a + 1 = i + (szE a + 1) by omega]
  · show ¬ ((2 * (i + (szE a + 1)) : Nat) : Int) < k3
    omega
theorem jM_bi (ha : jM a z gg) (ho : okE a) (hc' : jM c z g) (ho2 : okE c) (hs : ∀ (nm : Nat → Int) (of : Int → Int → Int) (V : Nat → Int) (n : Nat) (k : Int), V n = gg (nmS z nm) of → V (n + 1) = g (nmS z nm) of → jst nm of o 0 (V, n + 2, k) = some (uN V n (h (nmS z nm) of), n + 1, k)) : jM (biE o a c) z h := by
  intro nm of f i V n k2 hc hk
  obtain ⟨c1, c2⟩ := cdAt_sp (cdE a (2 * i)) (show cdAt f (2 * i) (cdE a (2 * i) ++ (cdE c (2 * i + 2 * szE a) ++ [(o, 0)])) from hc)
  rw [ho, show 2 * i + 2 * szE a = 2 * (i + szE a) by omega] at c2
  obtain ⟨c3, c4⟩ := cdAt_sp (cdE c (2 * (i + szE a))) c2
  rw [ho2] at c4
  obtain ⟨V2, k3, r1, r2, r3, r4⟩ := ha nm of f i V n k2 c1 hk
  obtain ⟨V4, k5, s1, s2, s3, s4⟩ := hc' nm of f (i + szE a) V2 (n + 1) k3 c3 r4
  obtain ⟨⟨d1, d2⟩, _⟩ := c4
  rw [show 2 * (i + szE a) + 2 * szE c = 2 * (i + szE a + szE c) by omega] at d1 d2
  refine ⟨uN V4 n (h (nmS z nm) of), k5, fun m => ?_, uN_s _ _ _, fun q hq => (uN_o (by omega)).trans ((s3 q (by omega)).trans (r3 q hq)), ?_⟩
  · show jrun nm of f (szE a + szE c + 1 + m) i (V, n, k2) = jrun nm of f m (i + (szE a + szE c + 1)) _
    rw [show szE a + szE c + 1 + m = szE a + (szE c + (1 + m)) by omega, r1, s1, jrun_1 s4 (by rw [d1, d2]; exact hs nm of V4 n k5 ((s3 n (by omega)).trans r2) s2), show i + szE a + szE c + 1 = i + (szE a + szE c + 1) by omega]
  · show ¬ ((2 * (i + (szE a + szE c + 1)) : Nat) : Int) < k5
    omega
theorem jM_se {bb : (Nat → Int) → (Int → Int → Int) → Bool} (hc' : jM c z (fun nm of => zb (bb nm of))) (ho : okE c) (hx : jM x z gg) (ho2 : okE x) (hy : jM y z g) : jM (seE c x y) z (fun nm of => if bb nm of = true then gg nm of else g nm of) := by
  intro nm of f i V n k2 hc hk
  have e0 : cdAt f (2 * i) (cdE c (2 * i) ++ ((61, ((2 * i + 2 * (szE c + szE x + 2) : Nat) : Int)) :: (cdE x (2 * i + 2 * (szE c + 1)) ++ ((62, ((2 * i + 2 * (szE c + szE x + szE y + 2) : Nat) : Int)) :: cdE y (2 * i + 2 * (szE c + szE x + 2)))))) := hc
  obtain ⟨c1, c2⟩ := cdAt_sp (cdE c (2 * i)) e0
  rw [ho] at c2
  obtain ⟨⟨d1, d2⟩, c3⟩ := c2
  rw [show 2 * i + 2 * szE c + 2 = 2 * (i + szE c + 1) by omega, show 2 * i + 2 * (szE c + 1) = 2 * (i + szE c + 1) by omega] at c3
  obtain ⟨c4, c5⟩ := cdAt_sp (cdE x (2 * (i + szE c + 1))) c3
  rw [ho2] at c5
  obtain ⟨⟨d3, d4⟩, c6⟩ := c5
  rw [show 2 * i + 2 * szE c = 2 * (i + szE c) by omega] at d1 d2
  rw [show 2 * (i + szE c + 1) + 2 * szE x = 2 * (i + szE c + 1 + szE x) by omega] at d3 d4 c6
  rw [show 2 * (i + szE c + 1 + szE x) + 2 = 2 * (i + szE c + szE x + 2) by omega, show 2 * i + 2 * (szE c + szE x + 2) = 2 * (i + szE c + szE x + 2) by omega] at c6
  obtain ⟨V2, k3, r1, r2, r3, r4⟩ := hc' nm of f i V n k2 c1 hk
  have hj : jst nm of 61 ((2 * i + 2 * (szE c + szE x + 2) : Nat) : Int) (V2, n + 1, k3) = some (V2, n, if V2 n = 0 then ((2 * i + 2 * (szE c + szE x + 2) : Nat) : Int) else k3) := by
    unfold jst
    rw [if_pos rfl, if_pos (show 1 ≤ n + 1 by omega)]
    rfl
  have st : ∀ m : Nat, jrun nm of f (szE (seE c x y) + m) i (V, n, k2) = jrun nm of f (szE x + (1 + (szE y + m))) (i + szE c + 1) (V2, n, if V2 n = 0 then ((2 * i + 2 * (szE c + szE x + 2) : Nat) : Int) else k3) := fun m => by
    show jrun nm of f (szE c + szE x + szE y + 2 + m) i (V, n, k2) = _
    rw [show szE c + szE x + szE y + 2 + m = szE c + (1 + (szE x + (1 + (szE y + m)))) by omega, r1, jrun_1 r4 (by rw [d1, d2]; exact hj)]
  by_cases hb : bb (nmS z nm) of = true
  · have hV : ¬ V2 n = 0 := by
      rw [r2]
      show ¬ zb (bb (nmS z nm) of) = 0
      rw [hb]
      decide
    rw [if_neg hV] at st
    obtain ⟨V4, k5, s1, s2, s3, s4⟩ := hx nm of f (i + szE c + 1) V2 n k3 c4 (by omega)
    have hj2 : jst nm of 62 ((2 * i + 2 * (szE c + szE x + szE y + 2) : Nat) : Int) (V4, n + 1, k5) = some (V4, n + 1, ((2 * i + 2 * (szE c + szE x + szE y + 2) : Nat) : Int)) := rfl
    refine ⟨V4, ((2 * i + 2 * (szE c + szE x + szE y + 2) : Nat) : Int), fun m => ?_, s2.trans (if_pos hb).symm, fun q hq => (s3 q hq).trans (r3 q hq), ?_⟩
    · rw [st, s1, jrun_1 s4 (by rw [d3, d4]; exact hj2), jrun_sk (szE y) (fun t h1 h2 => by show ((2 * t : Nat) : Int) < ((2 * i + 2 * (szE c + szE x + szE y + 2) : Nat) : Int); omega)]
      show _ = jrun nm of f m (i + (szE c + szE x + szE y + 2)) _
      rw [show i + szE c + 1 + szE x + 1 + szE y = i + (szE c + szE x + szE y + 2) by omega]
    · show ¬ ((2 * (i + (szE c + szE x + szE y + 2)) : Nat) : Int) < ((2 * i + 2 * (szE c + szE x + szE y + 2) : Nat) : Int)
      omega
  · have hV : V2 n = 0 := by
      rw [r2]
      show zb (bb (nmS z nm) of) = 0
      rw [Bool.not_eq_true] at hb
      rw [hb]
      rfl
    rw [if_pos hV] at st
    obtain ⟨V4, k5, s1, s2, s3, s4⟩ := hy nm of f (i + szE c + szE x + 2) V2 n ((2 * i + 2 * (szE c + szE x + 2) : Nat) : Int) c6 (by omega)
    refine ⟨V4, k5, fun m => ?_, s2.trans (if_neg hb).symm, fun q hq => (s3 q hq).trans (r3 q hq), ?_⟩
    · rw [st, show szE x + (1 + (szE y + m)) = (szE x + 1) + (szE y + m) by omega, jrun_sk (szE x + 1) (fun t h1 h2 => by show ((2 * t : Nat) : Int) < ((2 * i + 2 * (szE c + szE x + 2) : Nat) : Int); omega), show i + szE c + 1 + (szE x + 1) = i + szE c + szE x + 2 by omega, s1]
      show _ = jrun nm of f m (i + (szE c + szE x + szE y + 2)) _
      rw [show i + szE c + szE x + 2 + szE y = i + (szE c + szE x + szE y + 2) by omega]
    · show ¬ ((2 * (i + (szE c + szE x + szE y + 2)) : Nat) : Int) < k5
      rw [show i + szE c + szE x + 2 + szE y = i + (szE c + szE x + szE y + 2) by omega] at s4
      exact s4
end QJM
