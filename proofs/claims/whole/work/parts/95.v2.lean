/-! whatever is read has one meaning -/
def cB (e : Ex) : Prop := ∀ (b : Nat) (x : Int × Int), x ∈ cdE e b → (0 ≤ x.1 ∧ x.1 ≤ 100) ∧ 0 ≤ x.2 ∧ (x.2 ≤ 9999 ∨ x.2 ≤ ((b + 2 * szE e : Nat) : Int))
def nO (z : Int) (e : Ex) : Prop := ∀ x : Int × Int, x ∈ e.2.2 → (17 ≤ x.1 ∧ x.1 ≤ 23) → (x.1 - 17).toNat < 5 ∨ (x.1 - 17).toNat = 5 + z.toNat
def eW (z : Int) (e : Ex) : Prop := okE e ∧ e.2.2.length ≤ szE e ∧ cB e ∧ nO z e
def eN (z : Int) (e : Ex) : Prop := eW z e ∧ ∃ gg : Gn, jM e z gg ∧ xM e z true gg
def eA (z : Int) (e : Ex) : Prop := eW z e ∧ ∃ bb : (Nat → Int) → (Int → Int → Int) → Bool, jM e z (fun nm of => zb (bb nm of)) ∧ xM e z false (fun nm of => zb (bb nm of))
theorem nmS_ok {z : Int} {nm : Nat → Int} {k : Nat} (h : k < 5 ∨ k = 5 + z.toNat) : nmS z nm k = nm k := by
  unfold nmS
  split
  · rfl
  · rw [← h.resolve_left (by assumption)]
theorem eW_lf {z o v : Int} (ho : 0 ≤ o ∧ o ≤ 100) (hv : 0 ≤ v ∧ v ≤ 9999) (hn : 17 ≤ o ∧ o ≤ 23 → (o - 17).toNat < 5 ∨ (o - 17).toNat = 5 + z.toNat) : eW z (lfE o v) := by
  refine ⟨okE_lf, Nat.le_refl _, fun b x hx => ?_, fun x hx => ?_⟩
  · rw [List.mem_singleton.mp (show x ∈ [(o, v)] from hx)]
    exact ⟨ho, hv.1, Or.inl hv.2⟩
  · rw [List.mem_singleton.mp (show x ∈ [(o, v)] from hx)]
    exact hn
theorem eW_un {z o : Int} {a : Ex} (h : eW z a) (ho : 0 ≤ o ∧ o ≤ 100) (hn : ¬ (17 ≤ o ∧ o ≤ 23)) : eW z (unE o a) := by
  obtain ⟨h1, h2, h3, h4⟩ := h
  refine ⟨okE_un h1, ?_, fun b x hx => ?_, fun x hx => ?_⟩
  · show (a.2.2 ++ [(o, 0)]).length ≤ szE a + 1
    rw [List.length_append]
    show a.2.2.length + 1 ≤ _
    omega
  · show _ ∧ 0 ≤ x.2 ∧ (x.2 ≤ 9999 ∨ x.2 ≤ ((b + 2 * (szE a + 1) : Nat) : Int))
    rcases List.mem_append.mp (show x ∈ cdE a b ++ [(o, 0)] from hx) with q | q
    · obtain ⟨q1, q2, q3⟩ := h3 b x q
      exact ⟨q1, q2, by omega⟩
    · rw [List.mem_singleton.mp q]
      exact ⟨ho, Int.le_refl 0, Or.inl (by show (0 : Int) ≤ 9999; decide)⟩
  · rcases List.mem_append.mp (show x ∈ a.2.2 ++ [(o, 0)] from hx) with q | q
    · exact h4 x q
    · rw [List.mem_singleton.mp q]
      exact fun q => absurd q hn
theorem eW_bi {z o : Int} {a c : Ex} (h : eW z a) (g : eW z c) (ho : 0 ≤ o ∧ o ≤ 100) (hn : ¬ (17 ≤ o ∧ o ≤ 23)) : eW z (biE o a c) := by
  obtain ⟨h1, h2, h3, h4⟩ := h
  obtain ⟨g1, g2, g3, g4⟩ := g
  refine ⟨okE_bi h1 g1, ?_, fun b x hx => ?_, fun x hx => ?_⟩
  · show (a.2.2 ++ (c.2.2 ++ [(o, 0)])).length ≤ szE a + szE c + 1
    rw [List.length_append, List.length_append]
    show a.2.2.length + (c.2.2.length + 1) ≤ _
    omega
  · show _ ∧ 0 ≤ x.2 ∧ (x.2 ≤ 9999 ∨ x.2 ≤ ((b + 2 * (szE a + szE c + 1) : Nat) : Int))
    rcases List.mem_append.mp (show x ∈ cdE a b ++ (cdE c (b + 2 * szE a) ++ [(o, 0)]) from hx) with q | q
    · obtain ⟨q1, q2, q3⟩ := h3 b x q
      exact ⟨q1, q2, by omega⟩
    · rcases List.mem_append.mp q with q | q
      · obtain ⟨q1, q2, q3⟩ := g3 _ x q
        exact ⟨q1, q2, by omega⟩
      · rw [List.mem_singleton.mp q]
        exact ⟨ho, Int.le_refl 0, Or.inl (by show (0 : Int) ≤ 9999; decide)⟩
  · rcases List.mem_append.mp (show x ∈ a.2.2 ++ (c.2.2 ++ [(o, 0)]) from hx) with q | q
    · exact h4 x q
    · rcases List.mem_append.mp q with q | q
      · exact g4 x q
      · rw [List.mem_singleton.mp q]
        exact fun q => absurd q hn
theorem eW_se {z : Int} {c x y : Ex} (h : eW z c) (g : eW z x) (i : eW z y) : eW z (seE c x y) := by
  obtain ⟨h1, h2, h3, h4⟩ := h
  obtain ⟨g1, g2, g3, g4⟩ := g
  obtain ⟨i1, i2, i3, i4⟩ := i
  refine ⟨okE_se h1 g1 i1, ?_, fun b t ht => ?_, fun t ht => ?_⟩
  · show (c.2.2 ++ (x.2.2 ++ (y.2.2 ++ [(62, 0)]))).length ≤ szE c + szE x + szE y + 2
    rw [List.length_append, List.length_append, List.length_append]
    show c.2.2.length + (x.2.2.length + (y.2.2.length + 1)) ≤ _
    omega
  · show _ ∧ 0 ≤ t.2 ∧ (t.2 ≤ 9999 ∨ t.2 ≤ ((b + 2 * (szE c + szE x + szE y + 2) : Nat) : Int))
    rcases List.mem_append.mp (show t ∈ cdE c b ++ ((61, ((b + 2 * (szE c + szE x + 2) : Nat) : Int)) :: (cdE x (b + 2 * (szE c + 1)) ++ ((62, ((b + 2 * (szE c + szE x + szE y + 2) : Nat) : Int)) :: cdE y (b + 2 * (szE c + szE x + 2))))) from ht) with q | q
    · obtain ⟨q1, q2, q3⟩ := h3 b t q
      exact ⟨q1, q2, by omega⟩
    · rcases List.mem_cons.mp q with q | q
      · rw [q]
        exact ⟨⟨by show (0 : Int) ≤ 61; decide, by show (61 : Int) ≤ 100; decide⟩, by show 0 ≤ ((b + 2 * (szE c + szE x + 2) : Nat) : Int); omega, Or.inr (by show ((b + 2 * (szE c + szE x + 2) : Nat) : Int) ≤ _; omega)⟩
      · rcases List.mem_append.mp q with q | q
        · obtain ⟨q1, q2, q3⟩ := g3 _ t q
          exact ⟨q1, q2, by omega⟩
        · rcases List.mem_cons.mp q with q | q
          · rw [q]
            exact ⟨⟨by show (0 : Int) ≤ 62; decide, by show (62 : Int) ≤ 100; decide⟩, by show 0 ≤ ((b + 2 * (szE c + szE x + szE y + 2) : Nat) : Int); omega, Or.inr (by show ((b + 2 * (szE c + szE x + szE y + 2) : Nat) : Int) ≤ _; omega)⟩
          · obtain ⟨q1, q2, q3⟩ := i3 _ t q
            exact ⟨q1, q2, by omega⟩
  · rcases List.mem_append.mp (show t ∈ c.2.2 ++ (x.2.2 ++ (y.2.2 ++ [(62, 0)])) from ht) with q | q
    · exact h4 t q
    · rcases List.mem_append.mp q with q | q
      · exact g4 t q
      · rcases List.mem_append.mp q with q | q
        · exact i4 t q
        · rw [List.mem_singleton.mp q]
          exact fun q => absurd q.2 (by decide)
section QJ2
variable {nm : Nat → Int} {of : Int → Int → Int} {o v k : Int} {V : Nat → Int} {n : Nat}
theorem jst_two (ho : (30 ≤ o ∧ o ≤ 37) ∨ o = 41 ∨ o = 42) : jst nm of o v (V, n + 2, k) = some (uN V n (twoC o (V n) (V (n + 1))), n + 1, k) := by
  unfold jst
  rw [if_neg (by omega), if_neg (by omega), if_neg (by omega), if_neg (by omega), if_neg (by omega), if_neg (by omega), if_neg (by omega), if_pos ⟨by omega, by show 2 ≤ n + 2; omega, fun q => absurd q (by omega)⟩]
  rfl
theorem jst_jn (ho : o = 14 ∨ o = 15) (h1 : V n = 0 ∨ V n = 1) (h2 : V (n + 1) = 0 ∨ V (n + 1) = 1) : jst nm of o v (V, n + 2, k) = some (uN V n (twoC o (V n) (V (n + 1))), n + 1, k) := by
  unfold jst
  rw [if_neg (by omega), if_neg (by omega), if_neg (by omega), if_neg (by omega), if_neg (by omega), if_neg (by omega), if_neg (by omega), if_pos ⟨by omega, by show 2 ≤ n + 2; omega, fun _ => ⟨h1, h2⟩⟩]
  rfl
theorem jst_nt (h1 : V n = 0 ∨ V n = 1) : jst nm of 16 v (V, n + 1, k) = some (uN V n (1 - V n), n + 1, k) := by
  unfold jst
  rw [if_neg (by decide), if_neg (by decide), if_neg (by decide), if_neg (by decide), if_pos rfl, if_pos ⟨by show 1 ≤ n + 1; omega, h1⟩]
  rfl
theorem jst_ng : jst nm of 60 v (V, n + 1, k) = some (uN V n (-(V n)), n + 1, k) := by
  unfold jst
  rw [if_neg (by decide), if_neg (by decide), if_neg (by decide), if_pos rfl, if_pos (by show 1 ≤ n + 1; omega)]
  rfl
theorem jst_of (ho : o = 8 ∨ o = 9) : jst nm of o v (V, n + 1, k) = some (uN V n (of (if o = 8 then 2 else 4) (V n)), n + 1, k) := by
  unfold jst
  rw [if_neg (by omega), if_neg (by omega), if_neg (by omega), if_neg (by omega), if_neg (by omega), if_pos ho, if_pos (by show 1 ≤ n + 1; omega)]
  rfl
theorem jst_nu (hv : 0 ≤ v ∧ v ≤ 9999) : jst nm of 50 v (V, n, k) = some (uN V n v, n + 1, k) := by
  unfold jst
  rw [if_neg (by decide), if_neg (by decide), if_pos rfl, if_pos hv]
theorem jst_nm (ho : 17 ≤ o ∧ o ≤ 23) : jst nm of o v (V, n, k) = some (uN V n (nm (o - 17).toNat), n + 1, k) := by
  unfold jst
  rw [if_neg (by omega), if_neg (by omega), if_neg (by omega), if_neg (by omega), if_neg (by omega), if_neg (by omega), if_pos ho]
end QJ2
theorem two_I {x a b : Int} (hx : 34 ≤ x ∧ x ≤ 37) : twoC x a b = twoI (opE x) a b := by
  rcases (show x = 34 ∨ x = 35 ∨ x = 36 ∨ x = 37 by omega) with rfl | rfl | rfl | rfl
  · rw [twoC_34, show opE 34 = 6 from by decide]
    unfold twoI
    rw [if_pos rfl]
  · rw [twoC_35, show opE 35 = 7 from by decide]
    unfold twoI
    rw [if_neg (by decide), if_pos rfl]
  · rw [twoC_36, show opE 36 = 8 from by decide]
    unfold twoI
    rw [if_neg (by decide), if_neg (by decide), if_pos rfl]
  · rw [twoC_37, show opE 37 = 9 from by decide]
    unfold twoI
    rw [if_neg (show ¬ (9 : Int) = 6 by decide), if_neg (show ¬ (9 : Int) = 7 by decide), if_neg (show ¬ (9 : Int) = 8 by decide)]
theorem two_A {x a b : Int} (hx : isCp x) : twoC x a b = zb (askI (opE x) a b) := by
  rcases (show x = 30 ∨ x = 31 ∨ x = 32 ∨ x = 33 ∨ x = 41 ∨ x = 42 by unfold isCp at hx; omega) with rfl | rfl | rfl | rfl | rfl | rfl
  · rw [twoC_30]; rfl
  · rw [twoC_31]; rfl
  · rw [twoC_32]; rfl
  · rw [twoC_33]; rfl
  · rw [twoC_41]; rfl
  · rw [twoC_42]; rfl
theorem two_J {x a b : Int} (hx : x = 14 ∨ x = 15) : twoC x a b = zb (jnI (opE x) a b) := by
  rcases hx with rfl | rfl
  · rw [twoC_14]; rfl
  · rw [twoC_15]; rfl
theorem pLv_E {L : List (Int × Int × Int)} {z : Int} (hB : tkB L) (hz : z = 0 ∨ z = 1) (n : Nat) : PFP (eN z) (eA z) (pLv L z n) := by
  refine pLv_P hB ?_ ?_ ?_ ?_ ?_ ?_ ?_ ?_ ?_ n
  · intro v hv
    exact ⟨eW_lf (by decide) hv (fun q => absurd q.2 (by decide)), fun _ _ => v, jM_lf (fun nm of V n k => jst_nu hv), xM_lf (fun nm of V n T m => xst_num hv)⟩
  · intro x hx hne
    have hk : (x - 17).toNat < 5 ∨ (x - 17).toNat = 5 + z.toNat := by
      rcases hz with rfl | rfl
      · rw [if_pos rfl] at hne
        omega
      · rw [if_neg (by decide)] at hne
        omega
    refine ⟨eW_lf (by omega) (by decide) (fun _ => hk), fun nm _ => nm (x - 17).toNat, jM_lf (fun nm of V n k => ?_), xM_lf (fun nm of V n T m => ?_)⟩
    · show _ = some (uN V n (nmS z nm (x - 17).toNat), n + 1, k)
      rw [nmS_ok hk]
      exact jst_nm hx
    · show _ = some (uN V n (nmS z nm (x - 17).toNat), n + 1, T, m)
      rw [nmS_ok hk]
      have e : toR (x, 0) = (1, x - 17) := by
        unfold toR
        rw [if_neg (by show ¬ x = 50; omega), if_pos hx]
      rw [e]
      exact xst_nam (by show 0 ≤ x - 17 ∧ x - 17 < 7; omega)
  · intro e he
    obtain ⟨h1, gg, h2, h3⟩ := he
    refine ⟨eW_un h1 (by decide) (by decide), fun nm of => -(gg nm of), jM_un h2 h1.1 (fun nm of V n k hV => ?_), xM_un h3 (fun nm of V n T m hV => ?_)⟩
    · rw [← hV]; exact jst_ng
    · have hV2 : V n = gg (nmS z nm) of := hV
      exact ⟨_, T, xst_one (o := 5) (Or.inr (Or.inr rfl)), (uN_s _ _ _).trans (by rw [hV2]; rfl), fun q hq => uN_o (by omega), fun _ _ => rfl⟩
  · intro x e hx he
    obtain ⟨h1, gg, h2, h3⟩ := he
    refine ⟨eW_un h1 (by omega) (by omega), fun nm of => of (if x = 8 then 2 else 4) (gg nm of), jM_un h2 h1.1 (fun nm of V n k hV => ?_), xM_un h3 (fun nm of V n T m hV => ?_)⟩
    · rw [← hV]; exact jst_of hx
    · have hV2 : V n = gg (nmS z nm) of := hV
      rcases hx with rfl | rfl
      · exact ⟨_, T, xst_one (o := 2) (Or.inl rfl), (uN_s _ _ _).trans (by rw [hV2]; rfl), fun q hq => uN_o (by omega), fun _ _ => rfl⟩
      · exact ⟨_, T, xst_one (o := 4) (Or.inr (Or.inl rfl)), (uN_s _ _ _).trans (by rw [hV2]; rfl), fun q hq => uN_o (by omega), fun _ _ => rfl⟩
  · intro x e e2 hx he he2
    obtain ⟨h1, gg, h2, h3⟩ := he
    obtain ⟨g1, g, g2, g3⟩ := he2
    refine ⟨eW_bi h1 g1 (by omega) (by omega), fun nm of => twoC x (gg nm of) (g nm of), jM_bi h2 h1.1 g2 g1.1 (fun nm of V n k hV hV2 => ?_), xM_bi h3 g3 (fun nm of V n T m hV hV2 => ?_)⟩
    · rw [← hV, ← hV2]; exact jst_two (by omega)
    · have hV3 : V n = gg (nmS z nm) of := hV
      have hV4 : V (n + 1) = g (nmS z nm) of := hV2
      have e : toR (x, 0) = (opE x, 0) := by
        unfold toR
        rw [if_neg (by show ¬ x = 50; omega), if_neg (by show ¬ (17 ≤ x ∧ x ≤ 23); omega)]
      have ho : 6 ≤ opE x ∧ opE x ≤ 9 := by
        rcases (show x = 34 ∨ x = 35 ∨ x = 36 ∨ x = 37 by omega) with rfl | rfl | rfl | rfl <;> decide
      rw [e]
      exact ⟨_, T, xst_two ho, (uN_s _ _ _).trans (by rw [hV3, hV4]; exact (two_I hx).symm), fun q hq => uN_o (by omega), fun _ _ => rfl⟩
  · intro x e e2 hx he he2
    obtain ⟨h1, gg, h2, h3⟩ := he
    obtain ⟨g1, g, g2, g3⟩ := he2
    have hx9 : x = 30 ∨ x = 31 ∨ x = 32 ∨ x = 33 ∨ x = 41 ∨ x = 42 := by unfold isCp at hx; omega
    refine ⟨eW_bi h1 g1 (by omega) (by omega), fun nm of => askI (opE x) (gg nm of) (g nm of), jM_bi h2 h1.1 g2 g1.1 (fun nm of V n k hV hV2 => ?_), xM_bi h3 g3 (fun nm of V n T m hV hV2 => ?_)⟩
    · show _ = some (uN V n (zb (askI (opE x) (gg (nmS z nm) of) (g (nmS z nm) of))), n + 1, k)
      rw [← hV, ← hV2, ← two_A hx]; exact jst_two (by omega)
    · have hV3 : V n = gg (nmS z nm) of := hV
      have hV4 : V (n + 1) = g (nmS z nm) of := hV2
      have e : toR (x, 0) = (opE x, 0) := by
        unfold toR
        rw [if_neg (by show ¬ x = 50; omega), if_neg (by show ¬ (17 ≤ x ∧ x ≤ 23); omega)]
      have ho : 10 ≤ opE x ∧ opE x ≤ 15 := by
        rcases hx9 with rfl | rfl | rfl | rfl | rfl | rfl <;> decide
      rw [e]
      exact ⟨V, _, xst_ask ho, (uN_s _ _ _).trans (by rw [hV3, hV4]), fun _ _ => rfl, fun q hq => uN_o (by omega)⟩
  · intro e he
    obtain ⟨h1, bb, h2, h3⟩ := he
    refine ⟨eW_un h1 (by decide) (by decide), fun nm of => !(bb nm of), jM_un h2 h1.1 (fun nm of V n k hV => ?_), xM_un h3 (fun nm of V n T m hV => ?_)⟩
    · have hV2 : V n = zb (bb (nmS z nm) of) := hV
      rw [jst_nt (by rw [hV2]; exact zb_01 _), hV2]
      show some (uN V n (1 - zb (bb (nmS z nm) of)), n + 1, k) = some (uN V n (zb (!(bb (nmS z nm) of))), n + 1, k)
      cases bb (nmS z nm) of <;> rfl
    · have hV2 : T m = zb (bb (nmS z nm) of) := hV
      refine ⟨V, _, xst_nt, (uN_s _ _ _).trans ?_, fun _ _ => rfl, fun q hq => uN_o (by omega)⟩
      rw [hV2]
      show _ = zb (!(bb (nmS z nm) of))
      cases bb (nmS z nm) of <;> rfl
  · intro x e e2 hx he he2
    obtain ⟨h1, gg, h2, h3⟩ := he
    obtain ⟨g1, g, g2, g3⟩ := he2
    refine ⟨eW_bi h1 g1 (by omega) (by omega), fun nm of => jnI (opE x) (zb (gg nm of)) (zb (g nm of)), jM_bi h2 h1.1 g2 g1.1 (fun nm of V n k hV hV2 => ?_), xM_bi h3 g3 (fun nm of V n T m hV hV2 => ?_)⟩
    · have hV3 : V n = zb (gg (nmS z nm) of) := hV
      have hV4 : V (n + 1) = zb (g (nmS z nm) of) := hV2
      rw [jst_jn hx (by rw [hV3]; exact zb_01 _) (by rw [hV4]; exact zb_01 _), two_J hx, hV3, hV4]
    · have hV3 : T m = zb (gg (nmS z nm) of) := hV
      have hV4 : T (m + 1) = zb (g (nmS z nm) of) := hV2
      have e : toR (x, 0) = (opE x, 0) := by
        unfold toR
        rw [if_neg (by show ¬ x = 50; omega), if_neg (by show ¬ (17 ≤ x ∧ x ≤ 23); omega)]
      have ho : opE x = 21 ∨ opE x = 22 := by
        rcases hx with rfl | rfl
        · exact Or.inr rfl
        · exact Or.inl rfl
      rw [e]
      exact ⟨V, _, xst_jn ho, (uN_s _ _ _).trans (by rw [hV3, hV4]), fun _ _ => rfl, fun q hq => uN_o (by omega)⟩
  · intro c x y hc hx hy
    obtain ⟨h1, bb, h2, h3⟩ := hc
    obtain ⟨g1, gg, g2, g3⟩ := hx
    obtain ⟨i1, g, i2, i3⟩ := hy
    exact ⟨eW_se h1 g1 i1, _, jM_se h2 h1.1 g2 g1.1 i2, xM_se h3 g3 i3⟩
theorem cdAt_mem {g : Nat → Int} : ∀ (A : List (Int × Int)) {b i : Nat}, cdAt g b A → i < A.length → ∃ x, x ∈ A ∧ g (b + 2 * i) = x.1 ∧ g (b + 2 * i + 1) = x.2
  | [], b, i, _, h => absurd h (Nat.not_lt_zero i)
  | x :: A, b, 0, h, _ => ⟨x, List.mem_cons_self, h.1.1, h.1.2⟩
  | x :: A, b, i + 1, h, hi => by
    obtain ⟨y, h1, h2, h3⟩ := cdAt_mem A h.2 (show i < A.length by rw [List.length_cons] at hi; omega)
    rw [show b + 2 + 2 * i = b + 2 * (i + 1) by omega] at h2 h3
    exact ⟨y, List.mem_cons_of_mem _ h1, h2, h3⟩
theorem xAt_mem {g : Nat → Int} {c : Nat} : ∀ (A : List (Int × Int)) {s i : Nat}, xAt g c s A → i < A.length → ∃ x, x ∈ A ∧ g (c + 2 * (s + i)) = (toR x).1 ∧ g (c + 2 * (s + i) + 1) = (toR x).2
  | [], s, i, _, h => absurd h (Nat.not_lt_zero i)
  | x :: A, s, 0, h, _ => ⟨x, List.mem_cons_self, h.1.1, h.1.2⟩
  | x :: A, s, i + 1, h, hi => by
    obtain ⟨y, h1, h2, h3⟩ := xAt_mem A h.2 (show i < A.length by rw [List.length_cons] at hi; omega)
    rw [show s + 1 + i = s + (i + 1) by omega] at h2 h3
    exact ⟨y, List.mem_cons_of_mem _ h1, h2, h3⟩
theorem toR_1 {x : Int × Int} (h : (toR x).1 = 1) : (17 ≤ x.1 ∧ x.1 ≤ 23) ∧ (toR x).2 = x.1 - 17 := by
  unfold toR at h ⊢
  split at h
  · cases h
  · rename_i h50
    rw [if_neg h50]
    split at h
    · rename_i h17
      rw [if_pos h17]
      exact ⟨h17, rfl⟩
    · exfalso
      have q : opE x.1 = 1 := h
      unfold opE at q
      repeat' split at q
      all_goals omega
/-- the reference's orders say so much -/
def xE (e : Ex) (z : Int) (gg : Gn) : Prop := ∀ (f : Nat → Int) (c s : Nat), xAt f c s e.2.2 → xOk f c s (s + e.2.2.length) z gg ∧ xUs f c s (s + e.2.2.length) z
theorem eN_jx {z : Int} {e : Ex} (h : eN z e) : ∃ gg : Gn, jE e z gg ∧ xE e z gg := by
  obtain ⟨⟨h1, h2, h3, h4⟩, gg, h5, h6⟩ := h
  refine ⟨gg, ⟨fun f hf nm of V => ?_, fun hs f hf j hj => ?_⟩, fun f c s hf => ⟨fun nm of V T n m => ?_, fun i hi1 hi2 ho => ?_⟩⟩
  · obtain ⟨V2, k3, r1, r2, r3, r4⟩ := h5 nm of f 0 V 0 0 hf (by decide)
    exact ⟨V2, k3, r1 0, r2⟩
  · obtain ⟨x, x1, x2, x3⟩ := cdAt_mem (cdE e 0) (i := j / 2) hf (by rw [h1]; omega)
    obtain ⟨y1, y2, y3⟩ := h3 0 x x1
    rcases (show j = 0 + 2 * (j / 2) ∨ j = 0 + 2 * (j / 2) + 1 by omega) with q | q
    · rw [q, x2]; omega
    · rw [q, x3]; omega
  · obtain ⟨V2, T2, r1, r2, r3, r4⟩ := h6 nm of f c s V n T m hf
    refine ⟨V2, T2, ?_, r2, r3, r4⟩
    rw [show s + e.2.2.length - s = e.2.2.length + 0 by omega]
    exact r1 0
  · obtain ⟨x, x1, x2, x3⟩ := xAt_mem e.2.2 (i := i - s) hf (by omega)
    rw [show s + (i - s) = i by omega] at x2 x3
    obtain ⟨y1, y2⟩ := toR_1 (x2.symm.trans ho)
    rw [x3, y2]
    exact h4 x x1 y1
