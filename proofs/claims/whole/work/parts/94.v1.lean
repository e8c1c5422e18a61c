/-! the same to the reference's orders, one behind another -/
def opE (o : Int) : Int := if o = 8 then 2 else if o = 9 then 4 else if o = 60 then 5 else if o = 34 then 6 else if o = 35 then 7 else if o = 36 then 8 else if o = 37 then 9 else if o = 30 then 10 else if o = 41 then 11 else if o = 31 then 12 else if o = 42 then 13 else if o = 32 then 14 else if o = 33 then 15 else if o = 16 then 20 else if o = 15 then 21 else if o = 14 then 22 else 3
/-- the reference's own numbers of an order -/
def toR (x : Int × Int) : Int × Int := if x.1 = 50 then (0, x.2) else if 17 ≤ x.1 ∧ x.1 ≤ 23 then (1, x.1 - 17) else (opE x.1, 0)
def xAt (f : Nat → Int) (c : Nat) : Nat → List (Int × Int) → Prop
  | _, [] => True
  | i, x :: t => (f (c + 2 * i) = (toR x).1 ∧ f (c + 2 * i + 1) = (toR x).2) ∧ xAt f c (i + 1) t
theorem xAt_sp {g : Nat → Int} {c : Nat} : ∀ (A : List (Int × Int)) {B : List (Int × Int)} {i : Nat}, xAt g c i (A ++ B) → xAt g c i A ∧ xAt g c (i + A.length) B
  | [], B, i, h => ⟨trivial, h⟩
  | x :: A, B, i, h => by
    obtain ⟨h1, h2⟩ := h
    obtain ⟨h3, h4⟩ := xAt_sp A h2
    refine ⟨⟨h1, h3⟩, ?_⟩
    rw [List.length_cons, show i + (A.length + 1) = i + 1 + A.length by omega]
    exact h4
theorem xrun_1 {nm : Nat → Int} {of : Int → Int → Int} {f : Nat → Int} {c i m : Nat} {S T : XS} (h : xst nm of (f (c + 2 * i)) (f (c + 2 * i + 1)) S = some T) : xrun nm of f c (1 + m) i S = xrun nm of f c m (i + 1) T := by
  rw [Nat.add_comm]
  show (match xst nm of (f (c + 2 * i)) (f (c + 2 * i + 1)) S with | none => none | some T => xrun nm of f c m (i + 1) T) = _
  rw [h]
def cnN (b : Bool) : Nat := bif b then 1 else 0
def cnA (b : Bool) : Nat := bif b then 0 else 1
def vaX (b : Bool) (V T : Nat → Int) (n m : Nat) : Int := bif b then V n else T m
theorem vaX_e {b : Bool} {V T V2 T2 : Nat → Int} {n m : Nat} (h1 : ∀ q : Nat, q < n + cnN b → V2 q = V q) (h2 : ∀ q : Nat, q < m + cnA b → T2 q = T q) : vaX b V2 T2 n m = vaX b V T n m := by
  cases b with
  | true => exact h1 n (by show n < n + 1; omega)
  | false => exact h2 m (by show m < m + 1; omega)
/-- what the reference's orders push: a number, or what is asked -/
def xM (e : Ex) (z : Int) (b : Bool) (gg : Gn) : Prop := ∀ (nm : Nat → Int) (of : Int → Int → Int) (f : Nat → Int) (c i : Nat) (V : Nat → Int) (n : Nat) (T : Nat → Int) (m : Nat), xAt f c i e.2.2 → ∃ V2 T2, (∀ k : Nat, xrun nm of f c (e.2.2.length + k) i (V, n, T, m) = xrun nm of f c k (i + e.2.2.length) (V2, n + cnN b, T2, m + cnA b)) ∧ vaX b V2 T2 n m = gg (nmS z nm) of ∧ (∀ q : Nat, q < n → V2 q = V q) ∧ ∀ q : Nat, q < m → T2 q = T q
section QXM
variable {z o v : Int} {a d x y : Ex} {gg g h : Gn} {b b2 : Bool}
theorem xM_lf (hs : ∀ (nm : Nat → Int) (of : Int → Int → Int) (V : Nat → Int) (n : Nat) (T : Nat → Int) (m : Nat), xst nm of (toR (o, v)).1 (toR (o, v)).2 (V, n, T, m) = some (uN V n (gg (nmS z nm) of), n + 1, T, m)) : xM (lfE o v) z true gg := by
  intro nm of f c i V n T m hc
  obtain ⟨⟨h1, h2⟩, _⟩ := hc
  exact ⟨uN V n (gg (nmS z nm) of), T, fun k => xrun_1 (by rw [h1, h2]; exact hs nm of V n T m), uN_s _ _ _, fun q hq => uN_o (by omega), fun q _ => rfl⟩
theorem xM_un (ha : xM a z b g) (hs : ∀ (nm : Nat → Int) (of : Int → Int → Int) (V : Nat → Int) (n : Nat) (T : Nat → Int) (m : Nat), vaX b V T n m = g (nmS z nm) of → ∃ V2 T2, xst nm of (toR (o, 0)).1 (toR (o, 0)).2 (V, n + cnN b, T, m + cnA b) = some (V2, n + cnN b, T2, m + cnA b) ∧ vaX b V2 T2 n m = h (nmS z nm) of ∧ (∀ q : Nat, q < n → V2 q = V q) ∧ ∀ q : Nat, q < m → T2 q = T q) : xM (unE o a) z b h := by
  intro nm of f c i V n T m hc
  obtain ⟨c1, ⟨d1, d2⟩, _⟩ := xAt_sp a.2.2 (show xAt f c i (a.2.2 ++ [(o, 0)]) from hc)
  obtain ⟨V2, T2, r1, r2, r3, r4⟩ := ha nm of f c i V n T m c1
  obtain ⟨V4, T4, s1, s2, s3, s4⟩ := hs nm of V2 n T2 m r2
  refine ⟨V4, T4, fun k => ?_, s2, fun q hq => (s3 q hq).trans (r3 q hq), fun q hq => (s4 q hq).trans (r4 q hq)⟩
  have e1 : (unE o a).2.2.length = a.2.2.length + 1 := by show (a.2.2 ++ [(o, 0)]).length = _; rw [List.length_append]; rfl
  rw [e1, show a.2.2.length + 1 + k = a.2.2.length + (1 + k) by omega, r1, xrun_1 (by rw [d1, d2]; exact s1), show i + a.2.2.length + 1 = i + (a.2.2.length + 1) by omega]
theorem xM_bi (ha : xM a z b gg) (hd : xM d z b g) (hs : ∀ (nm : Nat → Int) (of : Int → Int → Int) (V : Nat → Int) (n : Nat) (T : Nat → Int) (m : Nat), vaX b V T n m = gg (nmS z nm) of → vaX b V T (n + cnN b) (m + cnA b) = g (nmS z nm) of → ∃ V2 T2, xst nm of (toR (o, 0)).1 (toR (o, 0)).2 (V, n + cnN b + cnN b, T, m + cnA b + cnA b) = some (V2, n + cnN b2, T2, m + cnA b2) ∧ vaX b2 V2 T2 n m = h (nmS z nm) of ∧ (∀ q : Nat, q < n → V2 q = V q) ∧ ∀ q : Nat, q < m → T2 q = T q) : xM (biE o a d) z b2 h := by
  intro nm of f c i V n T m hc
  obtain ⟨c1, c2⟩ := xAt_sp a.2.2 (show xAt f c i (a.2.2 ++ (d.2.2 ++ [(o, 0)])) from hc)
  obtain ⟨c3, ⟨d1, d2⟩, _⟩ := xAt_sp d.2.2 c2
  obtain ⟨V2, T2, r1, r2, r3, r4⟩ := ha nm of f c i V n T m c1
  obtain ⟨V3, T3, u1, u2, u3, u4⟩ := hd nm of f c (i + a.2.2.length) V2 (n + cnN b) T2 (m + cnA b) c3
  obtain ⟨V4, T4, s1, s2, s3, s4⟩ := hs nm of V3 n T3 m ((vaX_e u3 u4).trans r2) u2
  refine ⟨V4, T4, fun k => ?_, s2, fun q hq => (s3 q hq).trans ((u3 q (by omega)).trans (r3 q hq)), fun q hq => (s4 q hq).trans ((u4 q (by omega)).trans (r4 q hq))⟩
  have e1 : (biE o a d).2.2.length = a.2.2.length + (d.2.2.length + 1) := by show (a.2.2 ++ (d.2.2 ++ [(o, 0)])).length = _; rw [List.length_append, List.length_append]; rfl
  rw [e1, show a.2.2.length + (d.2.2.length + 1) + k = a.2.2.length + (d.2.2.length + (1 + k)) by omega, r1, u1, xrun_1 (by rw [d1, d2]; exact s1), show i + a.2.2.length + d.2.2.length + 1 = i + (a.2.2.length + (d.2.2.length + 1)) by omega]
theorem xM_se {bb : (Nat → Int) → (Int → Int → Int) → Bool} (hd : xM d z false (fun nm of => zb (bb nm of))) (hx : xM x z true gg) (hy : xM y z true g) : xM (seE d x y) z true (fun nm of => if bb nm of = true then gg nm of else g nm of) := by
  intro nm of f c i V n T m hc
  obtain ⟨c1, c2⟩ := xAt_sp d.2.2 (show xAt f c i (d.2.2 ++ (x.2.2 ++ (y.2.2 ++ [(62, 0)]))) from hc)
  obtain ⟨c3, c4⟩ := xAt_sp x.2.2 c2
  obtain ⟨c5, ⟨d1, d2⟩, _⟩ := xAt_sp y.2.2 c4
  obtain ⟨V2, T2, r1, r2, r3, r4⟩ := hd nm of f c i V n T m c1
  obtain ⟨V3, T3, u1, u2, u3, u4⟩ := hx nm of f c (i + d.2.2.length) V2 n T2 (m + 1) c3
  obtain ⟨V4, T4, s1, s2, s3, s4⟩ := hy nm of f c (i + d.2.2.length + x.2.2.length) V3 (n + 1) T3 (m + 1) c5
  have hT : T4 m = zb (bb (nmS z nm) of) := (s4 m (by omega)).trans ((u4 m (by omega)).trans r2)
  have hV0 : V4 n = gg (nmS z nm) of := (s3 n (by omega)).trans u2
  have hV1 : V4 (n + 1) = g (nmS z nm) of := s2
  have hst : xst nm of 3 0 (V4, n + 2, T4, m + 1) = some (if T4 m = 0 then uN V4 n (V4 (n + 1)) else V4, n + 1, T4, m) := by
    unfold xst
    rw [if_pos (by omega), if_neg (by decide), if_pos rfl, if_pos (by show 2 ≤ n + 2 ∧ 1 ≤ m + 1; omega)]
    rfl
  refine ⟨if T4 m = 0 then uN V4 n (V4 (n + 1)) else V4, T4, fun k => ?_, ?_, fun q hq => ?_, fun q hq => (s4 q (by omega)).trans ((u4 q (by omega)).trans (r4 q hq))⟩
  · have e1 : (seE d x y).2.2.length = d.2.2.length + (x.2.2.length + (y.2.2.length + 1)) := by show (d.2.2 ++ (x.2.2 ++ (y.2.2 ++ [(62, 0)]))).length = _; rw [List.length_append, List.length_append, List.length_append]; rfl
    rw [e1, show d.2.2.length + (x.2.2.length + (y.2.2.length + 1)) + k = d.2.2.length + (x.2.2.length + (y.2.2.length + (1 + k))) by omega, r1]
    refine (u1 _).trans ((s1 _).trans ?_)
    rw [show i + (d.2.2.length + (x.2.2.length + (y.2.2.length + 1))) = i + d.2.2.length + x.2.2.length + y.2.2.length + 1 by omega]
    exact xrun_1 (by rw [d1, d2]; exact hst)
  · show (if T4 m = 0 then uN V4 n (V4 (n + 1)) else V4) n = if bb (nmS z nm) of = true then gg (nmS z nm) of else g (nmS z nm) of
    by_cases hb : bb (nmS z nm) of = true
    · rw [if_pos hb, if_neg (by rw [hT, hb]; decide)]
      exact hV0
    · rw [if_neg hb]
      rw [Bool.not_eq_true] at hb
      rw [if_pos (by rw [hT, hb]; rfl), uN_s]
      exact hV1
  · have e0 : V4 q = V q := (s3 q (by omega)).trans ((u3 q hq).trans (r3 q hq))
    split
    · exact (uN_o (by omega)).trans e0
    · exact e0
end QXM
section QXS2
variable {nm : Nat → Int} {of : Int → Int → Int} {o v : Int} {V T : Nat → Int} {n m : Nat}
theorem xst_two (ho : 6 ≤ o ∧ o ≤ 9) : xst nm of o 0 (V, n + 2, T, m) = some (uN V n (twoI o (V n) (V (n + 1))), n + 1, T, m) := by
  unfold xst
  rw [if_pos (by omega), if_neg (by omega), if_neg (by omega), if_neg (by omega), if_pos (by omega), if_pos (by show 2 ≤ n + 2; omega)]
  rfl
theorem xst_ask (ho : 10 ≤ o ∧ o ≤ 15) : xst nm of o 0 (V, n + 2, T, m) = some (V, n, uN T m (zb (askI o (V n) (V (n + 1)))), m + 1) := by
  unfold xst
  rw [if_pos (by omega), if_neg (by omega), if_neg (by omega), if_neg (by omega), if_neg (by omega), if_pos (by omega), if_pos (by show 2 ≤ n + 2; omega)]
  rfl
theorem xst_jn (ho : o = 21 ∨ o = 22) : xst nm of o 0 (V, n, T, m + 2) = some (V, n, uN T m (zb (jnI o (T m) (T (m + 1)))), m + 1) := by
  unfold xst
  rw [if_pos (by omega), if_neg (by omega), if_neg (by omega), if_neg (by omega), if_neg (by omega), if_neg (by omega), if_neg (by omega), if_pos (by show 2 ≤ m + 2; omega)]
  rfl
theorem xst_nt : xst nm of 20 0 (V, n, T, m + 1) = some (V, n, uN T m (if T m = 0 then 1 else 0), m + 1) := by
  unfold xst
  rw [if_pos (by omega), if_neg (by omega), if_neg (by omega), if_neg (by omega), if_neg (by omega), if_neg (by omega), if_pos rfl, if_pos (by show 1 ≤ m + 1; omega)]
  rfl
theorem xst_one (ho : o = 2 ∨ o = 4 ∨ o = 5) : xst nm of o 0 (V, n + 1, T, m) = some (uN V n (oneI of o (V n)), n + 1, T, m) := by
  unfold xst
  rw [if_pos (by omega), if_neg (by omega), if_neg (by omega), if_pos (by omega), if_pos (by show 1 ≤ n + 1; omega)]
  rfl
theorem xst_num (hv : 0 ≤ v ∧ v ≤ 9999) : xst nm of 0 v (V, n, T, m) = some (uN V n v, n + 1, T, m) := by
  unfold xst
  rw [if_pos (by omega), if_pos (by decide), if_pos rfl]
theorem xst_nam (hv : 0 ≤ v ∧ v < 7) : xst nm of 1 v (V, n, T, m) = some (uN V n (nm v.toNat), n + 1, T, m) := by
  unfold xst
  rw [if_pos (by omega), if_pos (by decide), if_neg (by decide)]
end QXS2
