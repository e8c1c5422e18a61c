section QLC
variable {x z : Int}
theorem lc_eq_t (h : ((if x < z then (-1 : Int) else if x = z then 0 else 1) = 0)) : x = z := by
  split at h
  · omega
  · split at h <;> omega
theorem lc_eq_f (h : (¬ ((if x < z then (-1 : Int) else if x = z then 0 else 1) = 0))) : ¬ (x = z) := by
  split at h
  · omega
  · split at h <;> omega
theorem lc_ne_t (h : (¬ (if x < z then (-1 : Int) else if x = z then 0 else 1) = 0)) : ¬ x = z := by
  split at h
  · omega
  · split at h <;> omega
theorem lc_ne_f (h : ((if x < z then (-1 : Int) else if x = z then 0 else 1) = 0)) : x = z := by
  split at h
  · omega
  · split at h <;> omega
theorem lc_lt_t (h : ((if x < z then (-1 : Int) else if x = z then 0 else 1) < 0)) : x < z := by
  split at h
  · omega
  · split at h <;> omega
theorem lc_lt_f (h : (¬ ((if x < z then (-1 : Int) else if x = z then 0 else 1) < 0))) : ¬ (x < z) := by
  split at h
  · omega
  · split at h <;> omega
theorem lc_ge_t (h : (0 ≤ (if x < z then (-1 : Int) else if x = z then 0 else 1))) : z ≤ x := by
  split at h
  · omega
  · split at h <;> omega
theorem lc_ge_f (h : (¬ (0 ≤ (if x < z then (-1 : Int) else if x = z then 0 else 1)))) : ¬ (z ≤ x) := by
  split at h
  · omega
  · split at h <;> omega
theorem lc_gt_t (h : (0 < (if x < z then (-1 : Int) else if x = z then 0 else 1))) : z < x := by
  split at h
  · omega
  · split at h <;> omega
theorem lc_gt_f (h : (¬ (0 < (if x < z then (-1 : Int) else if x = z then 0 else 1)))) : ¬ (z < x) := by
  split at h
  · omega
  · split at h <;> omega
theorem lc_le_t (h : ((if x < z then (-1 : Int) else if x = z then 0 else 1) ≤ 0)) : x ≤ z := by
  split at h
  · omega
  · split at h <;> omega
theorem lc_le_f (h : (¬ ((if x < z then (-1 : Int) else if x = z then 0 else 1) ≤ 0))) : ¬ (x ≤ z) := by
  split at h
  · omega
  · split at h <;> omega
end QLC
theorem reI {a b : Int} (h : a = b) : (some (vi a) : Option AV) = some (vi b) := by rw [h]
theorem reL {a b : Int} (h : a = b) : (some (vl a) : Option AV) = some (vl b) := by rw [h]
/-- how many bits -/
def bPcF : Nat → Nat → Nat
  | 0, _ => 0
  | k + 1, x => x % 2 + bPcF k (x / 2)
def bPc (x : Nat) : Nat := bPcF 30 x
theorem bPcF_le : ∀ k x : Nat, bPcF k x ≤ k
  | 0, _ => Nat.le_refl _
  | k + 1, x => by
    have h1 := bPcF_le k (x / 2)
    have h2 := Nat.mod_lt x (show 0 < 2 by decide)
    show x % 2 + bPcF k (x / 2) ≤ k + 1
    omega
theorem bPc_le (x : Nat) : bPc x ≤ 30 := bPcF_le 30 x
theorem bPcF_0 : ∀ k : Nat, bPcF k 0 = 0
  | 0 => rfl
  | k + 1 => by
    show 0 % 2 + bPcF k (0 / 2) = 0
    rw [show 0 / 2 = 0 from rfl, bPcF_0 k]
theorem bPcF_k : ∀ k x : Nat, x < 2 ^ k → x ≠ 0 → bPcF k x = bPcF k (x &&& (x - 1)) + 1
  | 0, x, h, h0 => by
    have : x < 1 := h
    omega
  | k + 1, x, h, h0 => by
    have hp : 2 ^ (k + 1) = 2 * 2 ^ k := by rw [Nat.pow_succ, Nat.mul_comm]
    rw [hp] at h
    have ed : (x &&& (x - 1)) / 2 = x / 2 &&& (x - 1) / 2 := Nat.and_div_two
    show x % 2 + bPcF k (x / 2) = (x &&& (x - 1)) % 2 + bPcF k ((x &&& (x - 1)) / 2) + 1
    have em : (x &&& (x - 1)) % 2 = 0 := by
      have e2 : (x &&& (x - 1)) % 2 = x % 2 &&& (x - 1) % 2 := Nat.and_mod_two_pow (n := 1)
      rw [e2]
      rcases Nat.mod_two_eq_zero_or_one x with e | e
      · rw [e, Nat.zero_and]
      · rw [show (x - 1) % 2 = 0 by omega, Nat.and_zero]
    rw [ed, em]
    rcases Nat.mod_two_eq_zero_or_one x with e | e
    · have e1 : (x - 1) / 2 = x / 2 - 1 := by omega
      rw [e1, e, bPcF_k k (x / 2) (by omega) (by omega)]
      omega
    · have e1 : (x - 1) / 2 = x / 2 := by omega
      rw [e1, e, Nat.and_self]
      omega
theorem bPc_k {x : Nat} (h : x < 1073741824) (h0 : x ≠ 0) : bPc x = bPc (x &&& (x - 1)) + 1 := bPcF_k 30 x h h0
/-! what a law's orders make -/
def clipI (v : Int) : Int := if 1000000 < v then 1000000 else if v < -1000000 then -1000000 else v
theorem clipI_b (v : Int) : -1000000 ≤ clipI v ∧ clipI v ≤ 1000000 := by unfold clipI; repeat' split <;> omega
def twoI (o x y : Int) : Int := if o = 6 then clipI (x + y) else if o = 7 then clipI (x - y) else if o = 8 then clipI (x * y) else if y = 0 then 0 else clipI (x.tdiv y)
theorem twoI_b (o x y : Int) : -1000000 ≤ twoI o x y ∧ twoI o x y ≤ 1000000 := by
  unfold twoI
  repeat' split
  all_goals first | exact clipI_b _ | omega
def askI (o x y : Int) : Bool := if o = 10 then decide (x < y) else if o = 11 then decide (x ≤ y) else if o = 12 then decide (y < x) else if o = 13 then decide (y ≤ x) else if o = 14 then decide (x = y) else decide (¬ x = y)
def oneI (of : Int → Int → Int) (o v : Int) : Int := if o = 5 then -v else of o v
def jnI (o x y : Int) : Bool := if o = 21 then decide (¬ x = 0 ∧ ¬ y = 0) else decide (¬ x = 0 ∨ ¬ y = 0)
abbrev XS : Type := (Nat → Int) × Nat × (Nat → Int) × Nat
def xst (nm : Nat → Int) (of : Int → Int → Int) (o v : Int) (S : XS) : Option XS :=
  if 0 ≤ o ∧ o ≤ 22 ∧ 0 ≤ v ∧ v ≤ 9999 ∧ (o = 1 → v < 7) then
    if o ≤ 1 then some (uN S.1 S.2.1 (if o = 0 then v else nm v.toNat), S.2.1 + 1, S.2.2)
    else if o = 3 then if 2 ≤ S.2.1 ∧ 1 ≤ S.2.2.2 then some (if S.2.2.1 (S.2.2.2 - 1) = 0 then uN S.1 (S.2.1 - 2) (S.1 (S.2.1 - 1)) else S.1, S.2.1 - 1, S.2.2.1, S.2.2.2 - 1) else none
    else if o ≤ 5 then if 1 ≤ S.2.1 then some (uN S.1 (S.2.1 - 1) (oneI of o (S.1 (S.2.1 - 1))), S.2) else none
    else if o < 10 then if 2 ≤ S.2.1 then some (uN S.1 (S.2.1 - 2) (twoI o (S.1 (S.2.1 - 2)) (S.1 (S.2.1 - 1))), S.2.1 - 1, S.2.2) else none
    else if o < 20 then if 2 ≤ S.2.1 then some (S.1, S.2.1 - 2, uN S.2.2.1 S.2.2.2 (zb (askI o (S.1 (S.2.1 - 2)) (S.1 (S.2.1 - 1)))), S.2.2.2 + 1) else none
    else if o = 20 then if 1 ≤ S.2.2.2 then some (S.1, S.2.1, uN S.2.2.1 (S.2.2.2 - 1) (if S.2.2.1 (S.2.2.2 - 1) = 0 then 1 else 0), S.2.2.2) else none
    else if 2 ≤ S.2.2.2 then some (S.1, S.2.1, uN S.2.2.1 (S.2.2.2 - 2) (zb (jnI o (S.2.2.1 (S.2.2.2 - 2)) (S.2.2.1 (S.2.2.2 - 1)))), S.2.2.2 - 1) else none
  else none
def xrun (nm : Nat → Int) (of : Int → Int → Int) (f : Nat → Int) (c : Nat) : Nat → Nat → XS → Option XS
  | 0, _, S => some S
  | k + 1, i, S => match xst nm of (f (c + 2 * i)) (f (c + 2 * i + 1)) S with
    | none => none
    | some T => xrun nm of f c k (i + 1) T
section QXS
variable {nm : Nat → Int} {of : Int → Int → Int} {o v : Int} {V T : Nat → Int} {n m : Nat} {S2 : XS} {f : Nat → Int} {c i e : Nat} {F : XS}
theorem xrun_s {S : XS} (hi : i < e) (h : xrun nm of f c (e - i) i S = some F) : ∃ S2, xst nm of (f (c + 2 * i)) (f (c + 2 * i + 1)) S = some S2 ∧ xrun nm of f c (e - (i + 1)) (i + 1) S2 = some F := by
  have e1 : e - i = (e - (i + 1)) + 1 := by omega
  rw [e1] at h
  unfold xrun at h
  split at h
  · cases h
  · rename_i T hT
    exact ⟨T, hT, h⟩
theorem xst_g {S : XS} (h : xst nm of o v S = some S2) : 0 ≤ o ∧ o ≤ 22 ∧ 0 ≤ v ∧ v ≤ 9999 ∧ (o = 1 → v < 7) := by
  unfold xst at h
  split at h
  · assumption
  · cases h
theorem xst_0 (h : xst nm of o v (V, n, T, m) = some S2) (h1 : o = 0) : S2 = (uN V n v, n + 1, T, m) := by
  unfold xst at h
  rw [if_pos (xst_g h), if_pos (by omega), if_pos h1] at h
  exact (Option.some.inj h).symm
theorem xst_1 (h : xst nm of o v (V, n, T, m) = some S2) (h1 : o = 1) : S2 = (uN V n (nm v.toNat), n + 1, T, m) := by
  unfold xst at h
  rw [if_pos (xst_g h), if_pos (by omega), if_neg (by omega)] at h
  exact (Option.some.inj h).symm
theorem xst_3 (h : xst nm of o v (V, n, T, m) = some S2) (h1 : o = 3) : 2 ≤ n ∧ 1 ≤ m ∧ S2 = (if T (m - 1) = 0 then uN V (n - 2) (V (n - 1)) else V, n - 1, T, m - 1) := by
  unfold xst at h
  rw [if_pos (xst_g h), if_neg (by omega), if_pos h1] at h
  split at h
  · rename_i q; exact ⟨q.1, q.2, (Option.some.inj h).symm⟩
  · cases h
theorem xst_5 (h : xst nm of o v (V, n, T, m) = some S2) (h1 : 1 < o) (h2 : ¬ o = 3) (h3 : o ≤ 5) : 1 ≤ n ∧ S2 = (uN V (n - 1) (oneI of o (V (n - 1))), n, T, m) := by
  unfold xst at h
  rw [if_pos (xst_g h), if_neg (by omega), if_neg h2, if_pos h3] at h
  split at h
  · rename_i q; exact ⟨q, (Option.some.inj h).symm⟩
  · cases h
theorem xst_6 (h : xst nm of o v (V, n, T, m) = some S2) (h1 : 5 < o) (h3 : o < 10) : 2 ≤ n ∧ S2 = (uN V (n - 2) (twoI o (V (n - 2)) (V (n - 1))), n - 1, T, m) := by
  unfold xst at h
  rw [if_pos (xst_g h), if_neg (by omega), if_neg (by omega), if_neg (by omega), if_pos h3] at h
  split at h
  · rename_i q; exact ⟨q, (Option.some.inj h).symm⟩
  · cases h
theorem xst_10 (h : xst nm of o v (V, n, T, m) = some S2) (h1 : 10 ≤ o) (h3 : o < 20) : 2 ≤ n ∧ S2 = (V, n - 2, uN T m (zb (askI o (V (n - 2)) (V (n - 1)))), m + 1) := by
  unfold xst at h
  rw [if_pos (xst_g h), if_neg (by omega), if_neg (by omega), if_neg (by omega), if_neg (by omega), if_pos h3] at h
  split at h
  · rename_i q; exact ⟨q, (Option.some.inj h).symm⟩
  · cases h
theorem xst_20 (h : xst nm of o v (V, n, T, m) = some S2) (h1 : o = 20) : 1 ≤ m ∧ S2 = (V, n, uN T (m - 1) (if T (m - 1) = 0 then 1 else 0), m) := by
  unfold xst at h
  rw [if_pos (xst_g h), if_neg (by omega), if_neg (by omega), if_neg (by omega), if_neg (by omega), if_neg (by omega), if_pos h1] at h
  split at h
  · rename_i q; exact ⟨q, (Option.some.inj h).symm⟩
  · cases h
theorem xst_21 (h : xst nm of o v (V, n, T, m) = some S2) (h1 : 20 < o) : 2 ≤ m ∧ S2 = (V, n, uN T (m - 2) (zb (jnI o (T (m - 2)) (T (m - 1)))), m - 1) := by
  unfold xst at h
  rw [if_pos (xst_g h), if_neg (by omega), if_neg (by omega), if_neg (by omega), if_neg (by omega), if_neg (by omega), if_neg (by omega)] at h
  split at h
  · rename_i q; exact ⟨q, (Option.some.inj h).symm⟩
  · cases h
def bd6 (x : Int) : Prop := -1000000 ≤ x ∧ x ≤ 1000000
def xB (S : XS) : Prop := (∀ k : Nat, k < S.2.1 → bd6 (S.1 k)) ∧ (∀ k : Nat, k < S.2.2.2 → S.2.2.1 k = 0 ∨ S.2.2.1 k = 1)
theorem bd6_u {V : Nat → Int} {n n2 j : Nat} {x : Int} (h : ∀ k : Nat, k < n → bd6 (V k)) (hx : bd6 x) (hj : ∀ k : Nat, k < n2 → k ≠ j → k < n) : ∀ k : Nat, k < n2 → bd6 (uN V j x k) := fun k hk => by
  by_cases e : k = j
  · subst e; rw [uN_s]; exact hx
  · rw [uN_o e]; exact h k (hj k hk e)
theorem bt_u {V : Nat → Int} {n n2 j : Nat} {x : Int} (h : ∀ k : Nat, k < n → V k = 0 ∨ V k = 1) (hx : x = 0 ∨ x = 1) (hj : ∀ k : Nat, k < n2 → k ≠ j → k < n) : ∀ k : Nat, k < n2 → uN V j x k = 0 ∨ uN V j x k = 1 := fun k hk => by
  by_cases e : k = j
  · subst e; rw [uN_s]; exact hx
  · rw [uN_o e]; exact h k (hj k hk e)
theorem xst_B (hnm : o = 1 → bd6 (nm v.toNat)) (hof : ∀ o v : Int, bd6 (of o v)) (hB : xB (V, n, T, m)) (h : xst nm of o v (V, n, T, m) = some S2) : xB S2 := by
  have hg := xst_g h
  obtain ⟨h1, h2⟩ := hB
  by_cases e0 : o = 0
  · rw [xst_0 h e0]
    exact ⟨bd6_u h1 ⟨by omega, by omega⟩ (fun k hk hj => by show k < n; have : k < n + 1 := hk; omega), h2⟩
  by_cases e1 : o = 1
  · rw [xst_1 h e1]
    exact ⟨bd6_u h1 (hnm e1) (fun k hk hj => by show k < n; have : k < n + 1 := hk; omega), h2⟩
  by_cases e3 : o = 3
  · obtain ⟨q1, q2, q3⟩ := xst_3 h e3
    rw [q3]
    refine ⟨?_, fun k hk => h2 k (by show k < m; have : k < m - 1 := hk; omega)⟩
    show ∀ k : Nat, k < n - 1 → bd6 ((if T (m - 1) = 0 then uN V (n - 2) (V (n - 1)) else V) k)
    split
    · exact bd6_u h1 (h1 (n - 1) (by show n - 1 < n; omega)) (fun k hk hj => by show k < n; omega)
    · exact fun k hk => h1 k (by show k < n; omega)
  by_cases e5 : o ≤ 5
  · obtain ⟨q1, q3⟩ := xst_5 h (by omega) e3 e5
    rw [q3]
    have hv := h1 (n - 1) (by show n - 1 < n; omega)
    refine ⟨bd6_u h1 ?_ (fun k hk hj => hk), h2⟩
    unfold oneI
    split
    · exact ⟨by have := hv.2; show -1000000 ≤ -(V (n - 1)); have : V (n - 1) ≤ 1000000 := hv.2; omega, by have : -1000000 ≤ V (n - 1) := hv.1; show -(V (n - 1)) ≤ 1000000; omega⟩
    · exact hof _ _
  by_cases e10 : o < 10
  · obtain ⟨q1, q3⟩ := xst_6 h (by omega) e10
    rw [q3]
    exact ⟨bd6_u h1 (twoI_b _ _ _) (fun k hk hj => by show k < n; have : k < n - 1 := hk; omega), h2⟩
  by_cases e20 : o < 20
  · obtain ⟨q1, q3⟩ := xst_10 h (by omega) e20
    rw [q3]
    exact ⟨fun k hk => h1 k (by show k < n; have : k < n - 2 := hk; omega), bt_u h2 (zb_01 _) (fun k hk hj => by show k < m; have : k < m + 1 := hk; omega)⟩
  by_cases e21 : o = 20
  · obtain ⟨q1, q3⟩ := xst_20 h e21
    rw [q3]
    exact ⟨h1, bt_u h2 (by split <;> omega) (fun k hk hj => hk)⟩
  · obtain ⟨q1, q3⟩ := xst_21 h (by omega)
    rw [q3]
    exact ⟨h1, bt_u h2 (zb_01 _) (fun k hk hj => by show k < m; have : k < m - 1 := hk; omega)⟩
end QXS
/-- bytes claimed and come, by the great row -/
def ofA (a : Nat → Int) (o v : Int) : Int := if v < 0 ∨ a 0 ≤ v then 0 else ((bPc (a ((if o = 2 then 34 else 37) + v.toNat)).toNat : Nat) : Int)
theorem ofA_b (a : Nat → Int) (o v : Int) : bd6 (ofA a o v) := by
  unfold ofA
  split
  · exact ⟨by decide, by decide⟩
  · have := bPc_le (a ((if o = 2 then 34 else 37) + v.toNat)).toNat
    exact ⟨by omega, by omega⟩
theorem mul6 {x y : Int} (hx : bd6 x) (hy : bd6 y) : -1000000000000 ≤ x * y ∧ x * y ≤ 1000000000000 := by
  have h1 : (x * y).natAbs ≤ 1000000 * 1000000 := by
    rw [Int.natAbs_mul]
    exact Nat.mul_le_mul (by have := hx.1; have := hx.2; omega) (by have := hy.1; have := hy.2; omega)
  omega
theorem tdiv6 {x y : Int} (hx : bd6 x) : bd6 (x.tdiv y) := by
  have h1 : (x.tdiv y).natAbs ≤ 1000000 := by
    rw [Int.natAbs_tdiv]
    exact Nat.le_trans (Nat.div_le_self _ _) (by have := hx.1; have := hx.2; omega)
  exact ⟨by omega, by omega⟩

set_option maxHeartbeats 4000000 in
set_option maxRecDepth 100000 in
theorem kX11_bitsOf (l : Launch) (G : GT) (x : Nat) (hx : x < 1073741824) : Ctr l G yX11_bitsOf cX11_bitsOf 3 ((Option.some Jvm.ClassFile.FieldType.int)) 1 0 0 [vi ((x : Nat) : Int)] (fun w => True) (fun w r w' => r = some (vi ((bPc x : Nat) : Int)) ∧ w' = w) := by
  refine Ctr.of (t := tX11_bitsOf) (lv0 := [some (vi ((x : Nat) : Int)), none, none]) (by decide +kernel) tX11_bitsOf_ok rfl rfl (fun w g hP M => ?_)
  refine M.run 4 (pc' := 4) (lv' := [some (vi ((x : Nat) : Int)), some (vi 0), some (vi ((x : Nat) : Int))]) (st' := []) rfl ?_
  have Lp4 : ∀ (N : Nat) (q : Nat) (c : Nat), (q < 1073741824) → (c + bPc q = bPc x) → (c ≤ 40) → bPc q < N → g 0 0 w 4 [some (vi ((x : Nat) : Int)), some (vi ((c : Nat) : Int)), some (vi ((q : Nat) : Int))] [] := by
    intro N
    induction N with
    | zero => intro q c _ _ _ hN; exact absurd hN (Nat.not_lt_zero _)
    | succ N ih4 =>
      intro q c hq hc hc2 hN
      refine M.run 1 (pc' := 5) (lv' := [some (vi ((x : Nat) : Int)), some (vi ((c : Nat) : Int)), some (vi ((q : Nat) : Int))]) (st' := [vi ((q : Nat) : Int)]) rfl ?_
      refine M.if_eq (tgt := 20) rfl (qI (by omega)) (by decide) (fun h5 => ?_) (fun h5 => ?_)
      · skip
        refine M.run 1 (pc' := 21) (lv' := [some (vi ((x : Nat) : Int)), some (vi ((c : Nat) : Int)), some (vi ((q : Nat) : Int))]) (st' := [vi ((c : Nat) : Int)]) rfl ?_
        exact M.iret rfl (Nat.zero_le _) (Nat.zero_le _) ⟨reI (by rw [show q = 0 by omega] at hc; have h00 : bPc 0 = 0 := bPcF_0 30; omega), rfl⟩
      · skip
        have hkk := bPc_k hq (by omega)
        have hbl := bPc_le x
        refine M.run 5 (pc' := 15) (lv' := [some (vi ((x : Nat) : Int)), some (vi (((c : Nat) : Int) + 1)), some (vi ((q : Nat) : Int))]) (st' := [vi (((q : Nat) : Int) - 1), vi ((q : Nat) : Int)]) rfl ?_
        rw [show ((q : Nat) : Int) - 1 = ((q - 1 : Nat) : Int) from by omega]
        refine M.iand (b1 := q) (b2 := q - 1) rfl (by omega) (by omega) ?_
        have hl1 := Nat.and_le_left (n := q) (m := q - 1)
        have hr2 := Nat.and_le_right (n := q) (m := q - 1)
        refine M.run 2 (pc' := 4) (lv' := [some (vi ((x : Nat) : Int)), some (vi (((c : Nat) : Int) + 1)), some (vi ((q &&& (q - 1) : Nat) : Int))]) (st' := []) rfl ?_
        exact ih4 (q &&& (q - 1)) (c + 1) (Nat.lt_of_le_of_lt Nat.and_le_left hq) (by have := bPc_k hq (by omega); omega) (by have := bPc_le x; have := bPc_k hq (by omega); omega) (by omega)
  exact Lp4 _ x 0 hx (Nat.zero_add _) (Nat.zero_le _) (Nat.lt_succ_self _)
set_option maxHeartbeats 4000000 in
set_option maxRecDepth 100000 in
theorem kX11_clip (l : Launch) (G : GT) (x : Int) (hx : inL x) : Ctr l G yX11_clip cX11_clip 2 ((Option.some Jvm.ClassFile.FieldType.long)) 1 0 0 [vl x] (fun w => True) (fun w r w' => r = some (vl (clipI x)) ∧ w' = w) := by
  refine Ctr.of (t := tX11_clip) (lv0 := [some (vl x), none]) (by decide +kernel) tX11_clip_ok rfl rfl (fun w g hP M => ?_)
  refine M.run 1 (pc' := 1) (lv' := [some (vl x), none]) (st' := [vl x]) rfl ?_
  refine M.ldc2 (x := 1000000) kl_X11_242 rfl rfl ?_
  refine M.lcmp rfl (qL (by have := hx.1; have := hx.2; omega)) (qL (by decide)) ?_
  refine M.if_le (tgt := 14) rfl (qI (by have := hx.1; have := hx.2; omega)) (by decide) (fun h5 => ?_) (fun h5 => ?_)
  · skip
    replace h5 := lc_le_t h5
    refine M.run 1 (pc' := 15) (lv' := [some (vl x), none]) (st' := [vl x]) rfl ?_
    refine M.ldc2 (x := (-1000000)) kl_X11_244 rfl rfl ?_
    refine M.lcmp rfl (qL (by have := hx.1; have := hx.2; omega)) (qL (by decide)) ?_
    refine M.if_ge (tgt := 28) rfl (qI (by have := hx.1; have := hx.2; omega)) (by decide) (fun h19 => ?_) (fun h19 => ?_)
    · skip
      replace h19 := lc_ge_t h19
      refine M.run 1 (pc' := 29) (lv' := [some (vl x), none]) (st' := [vl x]) rfl ?_
      exact M.lret rfl (Nat.zero_le _) (Nat.zero_le _) ⟨reL (by unfold clipI; (repeat' split) <;> omega), rfl⟩
    · skip
      replace h19 := lc_ge_f h19
      refine M.ldc2 (x := (-1000000)) kl_X11_244 rfl rfl ?_
      refine M.run 1 (pc' := 29) (lv' := [some (vl x), none]) (st' := [vl (-1000000)]) rfl ?_
      exact M.lret rfl (Nat.zero_le _) (Nat.zero_le _) ⟨reL (by unfold clipI; (repeat' split) <;> omega), rfl⟩
  · skip
    replace h5 := lc_le_f h5
    refine M.ldc2 (x := 1000000) kl_X11_242 rfl rfl ?_
    refine M.run 1 (pc' := 29) (lv' := [some (vl x), none]) (st' := [vl 1000000]) rfl ?_
    exact M.lret rfl (Nat.zero_le _) (Nat.zero_le _) ⟨reL (by unfold clipI; (repeat' split) <;> omega), rfl⟩
set_option maxHeartbeats 4000000 in
set_option maxRecDepth 100000 in
theorem kX11_two (l : Launch) (G : GT) (q x y : Int) (hq : 0 ≤ q ∧ q ≤ 100) (hx : bd6 x) (hy : bd6 y) : Ctr l G yX11_two cX11_two 5 ((Option.some Jvm.ClassFile.FieldType.long)) 2 0 0 [vi q, vl x, vl y] (fun w => True) (fun w r w' => r = some (vl (twoI q x y)) ∧ w' = w) := by
  refine Ctr.of (t := tX11_two) (lv0 := [some (vi q), some (vl x), none, some (vl y), none]) (by decide +kernel) tX11_two_ok rfl rfl (fun w g hP M => ?_)
  have hx1 := hx.1
  have hx2 := hx.2
  have hy1 := hy.1
  have hy2 := hy.2
  have hm := mul6 hx hy
  have hd1 := (tdiv6 (y := y) hx).1
  have hd2 := (tdiv6 (y := y) hx).2
  refine M.run 1 (pc' := 1) (lv' := [some (vi q), some (vl x), none, some (vl y), none]) (st' := [vi q]) rfl ?_
  by_cases hs1_0 : q = 6
  · refine M.tswIn (tgt := 28) (off := 27) rfl (qI (by omega)) (by omega) (by omega) (by rw [hs1_0]; rfl) (by decide) ?_
    refine M.run 3 (pc' := 31) (lv' := [some (vi q), some (vl x), none, some (vl y), none]) (st' := [vl (x + y)]) rfl ?_
    refine M.callS (kX11_clip l G (x + y) (qL (by omega))) cs_X11_246 cd_X11_clip rfl (st := []) rfl (by decide) (by decide) rfl (Nat.zero_le _) (Nat.zero_le _) trivial (fun r1 w2 q3 => ?_)
    rw [q3.1, q3.2]
    exact M.lret rfl (Nat.zero_le _) (Nat.zero_le _) ⟨reL (by unfold twoI; rw [if_pos (by omega)]), rfl⟩
  by_cases hs1_1 : q = 7
  · refine M.tswIn (tgt := 35) (off := 34) rfl (qI (by omega)) (by omega) (by omega) (by rw [hs1_1]; rfl) (by decide) ?_
    refine M.run 3 (pc' := 38) (lv' := [some (vi q), some (vl x), none, some (vl y), none]) (st' := [vl (x - y)]) rfl ?_
    refine M.callS (kX11_clip l G (x - y) (qL (by omega))) cs_X11_246 cd_X11_clip rfl (st := []) rfl (by decide) (by decide) rfl (Nat.zero_le _) (Nat.zero_le _) trivial (fun r5 w6 q7 => ?_)
    rw [q7.1, q7.2]
    exact M.lret rfl (Nat.zero_le _) (Nat.zero_le _) ⟨reL (by unfold twoI; rw [if_neg (by omega), if_pos (by omega)]), rfl⟩
  by_cases hs1_2 : q = 8
  · refine M.tswIn (tgt := 42) (off := 41) rfl (qI (by omega)) (by omega) (by omega) (by rw [hs1_2]; rfl) (by decide) ?_
    refine M.run 3 (pc' := 45) (lv' := [some (vi q), some (vl x), none, some (vl y), none]) (st' := [vl (x * y)]) rfl ?_
    refine M.callS (kX11_clip l G (x * y) (qL (by omega))) cs_X11_246 cd_X11_clip rfl (st := []) rfl (by decide) (by decide) rfl (Nat.zero_le _) (Nat.zero_le _) trivial (fun r9 w10 q11 => ?_)
    rw [q11.1, q11.2]
    exact M.lret rfl (Nat.zero_le _) (Nat.zero_le _) ⟨reL (by unfold twoI; rw [if_neg (by omega), if_neg (by omega), if_pos (by omega)]), rfl⟩
  refine M.tswOut (tgt := 49) rfl (qI (by omega)) (by omega) (by decide) ?_
  refine M.run 2 (pc' := 51) (lv' := [some (vi q), some (vl x), none, some (vl y), none]) (st' := [vl 0, vl y]) rfl ?_
  refine M.lcmp rfl (qL (by omega)) (qL (by decide)) ?_
  refine M.if_ne (tgt := 59) rfl (qI (by omega)) (by decide) (fun h52 => ?_) (fun h52 => ?_)
  · skip
    replace h52 := lc_ne_t h52
    refine M.run 2 (pc' := 61) (lv' := [some (vi q), some (vl x), none, some (vl y), none]) (st' := [vl y, vl x]) rfl ?_
    refine M.ldiv rfl (qL (by omega)) (qL (by omega)) h52 ?_
    refine M.callS (kX11_clip l G (x.tdiv y) (qL (by omega))) cs_X11_246 cd_X11_clip rfl (st := []) rfl (by decide) (by decide) rfl (Nat.zero_le _) (Nat.zero_le _) trivial (fun r13 w14 q15 => ?_)
    rw [q15.1, q15.2]
    exact M.lret rfl (Nat.zero_le _) (Nat.zero_le _) ⟨reL (by unfold twoI; rw [if_neg (by omega), if_neg (by omega), if_neg (by omega)]; first | exact (if_neg h52).symm | exact (if_pos h52).symm), rfl⟩
  · skip
    replace h52 := lc_ne_f h52
    refine M.run 2 (pc' := 65) (lv' := [some (vi q), some (vl x), none, some (vl y), none]) (st' := [vl 0]) rfl ?_
    exact M.lret rfl (Nat.zero_le _) (Nat.zero_le _) ⟨reL (by unfold twoI; rw [if_neg (by omega), if_neg (by omega), if_neg (by omega)]; first | exact (if_neg h52).symm | exact (if_pos h52).symm), rfl⟩
set_option maxHeartbeats 4000000 in
set_option maxRecDepth 100000 in
theorem kX11_isAsked (l : Launch) (G : GT) (q x y : Int) (hq : 0 ≤ q ∧ q ≤ 100) (hx : bd6 x) (hy : bd6 y) : Ctr l G yX11_isAsked cX11_isAsked 5 ((Option.some Jvm.ClassFile.FieldType.boolean)) 1 0 0 [vi q, vl x, vl y] (fun w => True) (fun w r w' => r = some (vi (zb (askI q x y))) ∧ w' = w) := by
  refine Ctr.of (t := tX11_isAsked) (lv0 := [some (vi q), some (vl x), none, some (vl y), none]) (by decide +kernel) tX11_isAsked_ok rfl rfl (fun w g hP M => ?_)
  have hx1 := hx.1
  have hx2 := hx.2
  have hy1 := hy.1
  have hy2 := hy.2
  refine M.run 2 (pc' := 3) (lv' := [some (vi q), some (vl x), none, some (vl y), none]) (st' := [vi 10, vi q]) rfl ?_
  refine M.icmp_ne (tgt := 20) rfl (qI (by omega)) (qI (by decide)) (by decide) (fun h3 => ?_) (fun h3 => ?_)
  · skip
    refine M.run 2 (pc' := 23) (lv' := [some (vi q), some (vl x), none, some (vl y), none]) (st' := [vi 11, vi q]) rfl ?_
    refine M.icmp_ne (tgt := 40) rfl (qI (by omega)) (qI (by decide)) (by decide) (fun h23 => ?_) (fun h23 => ?_)
    · skip
      refine M.run 2 (pc' := 43) (lv' := [some (vi q), some (vl x), none, some (vl y), none]) (st' := [vi 12, vi q]) rfl ?_
      refine M.icmp_ne (tgt := 60) rfl (qI (by omega)) (qI (by decide)) (by decide) (fun h43 => ?_) (fun h43 => ?_)
      · skip
        refine M.run 2 (pc' := 63) (lv' := [some (vi q), some (vl x), none, some (vl y), none]) (st' := [vi 13, vi q]) rfl ?_
        refine M.icmp_ne (tgt := 80) rfl (qI (by omega)) (qI (by decide)) (by decide) (fun h63 => ?_) (fun h63 => ?_)
        · skip
          refine M.run 2 (pc' := 83) (lv' := [some (vi q), some (vl x), none, some (vl y), none]) (st' := [vi 14, vi q]) rfl ?_
          refine M.icmp_ne (tgt := 100) rfl (qI (by omega)) (qI (by decide)) (by decide) (fun h83 => ?_) (fun h83 => ?_)
          · skip
            refine M.run 2 (pc' := 102) (lv' := [some (vi q), some (vl x), none, some (vl y), none]) (st' := [vl y, vl x]) rfl ?_
            refine M.lcmp rfl (qL (by omega)) (qL (by omega)) ?_
            refine M.if_eq (tgt := 110) rfl (qI (by omega)) (by decide) (fun h103 => ?_) (fun h103 => ?_)
            · skip
              replace h103 := lc_eq_t h103
              refine M.run 1 (pc' := 111) (lv' := [some (vi q), some (vl x), none, some (vl y), none]) (st' := [vi 0]) rfl ?_
              exact M.zret rfl (Or.inl rfl) (Nat.zero_le _) (Nat.zero_le _) ⟨reI (by
                  unfold askI
                  first | rw [if_pos (by omega)] | (rw [if_neg (by omega)]; first | rw [if_pos (by omega)] | (rw [if_neg (by omega)]; first | rw [if_pos (by omega)] | (rw [if_neg (by omega)]; first | rw [if_pos (by omega)] | (rw [if_neg (by omega)]; first | rw [if_pos (by omega)] | rw [if_neg (by omega)]))))
                  first | (rw [decide_eq_true (by omega)]; rfl) | (rw [decide_eq_false (by omega)]; rfl)), rfl⟩
            · skip
              replace h103 := lc_eq_f h103
              refine M.run 2 (pc' := 111) (lv' := [some (vi q), some (vl x), none, some (vl y), none]) (st' := [vi 1]) rfl ?_
              exact M.zret rfl (Or.inr rfl) (Nat.zero_le _) (Nat.zero_le _) ⟨reI (by
                  unfold askI
                  first | rw [if_pos (by omega)] | (rw [if_neg (by omega)]; first | rw [if_pos (by omega)] | (rw [if_neg (by omega)]; first | rw [if_pos (by omega)] | (rw [if_neg (by omega)]; first | rw [if_pos (by omega)] | (rw [if_neg (by omega)]; first | rw [if_pos (by omega)] | rw [if_neg (by omega)]))))
                  first | (rw [decide_eq_true (by omega)]; rfl) | (rw [decide_eq_false (by omega)]; rfl)), rfl⟩
          · skip
            refine M.run 2 (pc' := 88) (lv' := [some (vi q), some (vl x), none, some (vl y), none]) (st' := [vl y, vl x]) rfl ?_
            refine M.lcmp rfl (qL (by omega)) (qL (by omega)) ?_
            refine M.if_ne (tgt := 96) rfl (qI (by omega)) (by decide) (fun h89 => ?_) (fun h89 => ?_)
            · skip
              replace h89 := lc_ne_t h89
              refine M.run 2 (pc' := 111) (lv' := [some (vi q), some (vl x), none, some (vl y), none]) (st' := [vi 0]) rfl ?_
              exact M.zret rfl (Or.inl rfl) (Nat.zero_le _) (Nat.zero_le _) ⟨reI (by
                  unfold askI
                  first | rw [if_pos (by omega)] | (rw [if_neg (by omega)]; first | rw [if_pos (by omega)] | (rw [if_neg (by omega)]; first | rw [if_pos (by omega)] | (rw [if_neg (by omega)]; first | rw [if_pos (by omega)] | (rw [if_neg (by omega)]; first | rw [if_pos (by omega)] | rw [if_neg (by omega)]))))
                  first | (rw [decide_eq_true (by omega)]; rfl) | (rw [decide_eq_false (by omega)]; rfl)), rfl⟩
            · skip
              replace h89 := lc_ne_f h89
              refine M.run 2 (pc' := 111) (lv' := [some (vi q), some (vl x), none, some (vl y), none]) (st' := [vi 1]) rfl ?_
              exact M.zret rfl (Or.inr rfl) (Nat.zero_le _) (Nat.zero_le _) ⟨reI (by
                  unfold askI
                  first | rw [if_pos (by omega)] | (rw [if_neg (by omega)]; first | rw [if_pos (by omega)] | (rw [if_neg (by omega)]; first | rw [if_pos (by omega)] | (rw [if_neg (by omega)]; first | rw [if_pos (by omega)] | (rw [if_neg (by omega)]; first | rw [if_pos (by omega)] | rw [if_neg (by omega)]))))
                  first | (rw [decide_eq_true (by omega)]; rfl) | (rw [decide_eq_false (by omega)]; rfl)), rfl⟩
        · skip
          refine M.run 2 (pc' := 68) (lv' := [some (vi q), some (vl x), none, some (vl y), none]) (st' := [vl y, vl x]) rfl ?_
          refine M.lcmp rfl (qL (by omega)) (qL (by omega)) ?_
          refine M.if_lt (tgt := 76) rfl (qI (by omega)) (by decide) (fun h69 => ?_) (fun h69 => ?_)
          · skip
            replace h69 := lc_lt_t h69
            refine M.run 2 (pc' := 111) (lv' := [some (vi q), some (vl x), none, some (vl y), none]) (st' := [vi 0]) rfl ?_
            exact M.zret rfl (Or.inl rfl) (Nat.zero_le _) (Nat.zero_le _) ⟨reI (by
                unfold askI
                first | rw [if_pos (by omega)] | (rw [if_neg (by omega)]; first | rw [if_pos (by omega)] | (rw [if_neg (by omega)]; first | rw [if_pos (by omega)] | (rw [if_neg (by omega)]; first | rw [if_pos (by omega)] | (rw [if_neg (by omega)]; first | rw [if_pos (by omega)] | rw [if_neg (by omega)]))))
                first | (rw [decide_eq_true (by omega)]; rfl) | (rw [decide_eq_false (by omega)]; rfl)), rfl⟩
          · skip
            replace h69 := lc_lt_f h69
            refine M.run 2 (pc' := 111) (lv' := [some (vi q), some (vl x), none, some (vl y), none]) (st' := [vi 1]) rfl ?_
            exact M.zret rfl (Or.inr rfl) (Nat.zero_le _) (Nat.zero_le _) ⟨reI (by
                unfold askI
                first | rw [if_pos (by omega)] | (rw [if_neg (by omega)]; first | rw [if_pos (by omega)] | (rw [if_neg (by omega)]; first | rw [if_pos (by omega)] | (rw [if_neg (by omega)]; first | rw [if_pos (by omega)] | (rw [if_neg (by omega)]; first | rw [if_pos (by omega)] | rw [if_neg (by omega)]))))
                first | (rw [decide_eq_true (by omega)]; rfl) | (rw [decide_eq_false (by omega)]; rfl)), rfl⟩
      · skip
        refine M.run 2 (pc' := 48) (lv' := [some (vi q), some (vl x), none, some (vl y), none]) (st' := [vl y, vl x]) rfl ?_
        refine M.lcmp rfl (qL (by omega)) (qL (by omega)) ?_
        refine M.if_le (tgt := 56) rfl (qI (by omega)) (by decide) (fun h49 => ?_) (fun h49 => ?_)
        · skip
          replace h49 := lc_le_t h49
          refine M.run 2 (pc' := 111) (lv' := [some (vi q), some (vl x), none, some (vl y), none]) (st' := [vi 0]) rfl ?_
          exact M.zret rfl (Or.inl rfl) (Nat.zero_le _) (Nat.zero_le _) ⟨reI (by
              unfold askI
              first | rw [if_pos (by omega)] | (rw [if_neg (by omega)]; first | rw [if_pos (by omega)] | (rw [if_neg (by omega)]; first | rw [if_pos (by omega)] | (rw [if_neg (by omega)]; first | rw [if_pos (by omega)] | (rw [if_neg (by omega)]; first | rw [if_pos (by omega)] | rw [if_neg (by omega)]))))
              first | (rw [decide_eq_true (by omega)]; rfl) | (rw [decide_eq_false (by omega)]; rfl)), rfl⟩
        · skip
          replace h49 := lc_le_f h49
          refine M.run 2 (pc' := 111) (lv' := [some (vi q), some (vl x), none, some (vl y), none]) (st' := [vi 1]) rfl ?_
          exact M.zret rfl (Or.inr rfl) (Nat.zero_le _) (Nat.zero_le _) ⟨reI (by
              unfold askI
              first | rw [if_pos (by omega)] | (rw [if_neg (by omega)]; first | rw [if_pos (by omega)] | (rw [if_neg (by omega)]; first | rw [if_pos (by omega)] | (rw [if_neg (by omega)]; first | rw [if_pos (by omega)] | (rw [if_neg (by omega)]; first | rw [if_pos (by omega)] | rw [if_neg (by omega)]))))
              first | (rw [decide_eq_true (by omega)]; rfl) | (rw [decide_eq_false (by omega)]; rfl)), rfl⟩
    · skip
      refine M.run 2 (pc' := 28) (lv' := [some (vi q), some (vl x), none, some (vl y), none]) (st' := [vl y, vl x]) rfl ?_
      refine M.lcmp rfl (qL (by omega)) (qL (by omega)) ?_
      refine M.if_gt (tgt := 36) rfl (qI (by omega)) (by decide) (fun h29 => ?_) (fun h29 => ?_)
      · skip
        replace h29 := lc_gt_t h29
        refine M.run 2 (pc' := 111) (lv' := [some (vi q), some (vl x), none, some (vl y), none]) (st' := [vi 0]) rfl ?_
        exact M.zret rfl (Or.inl rfl) (Nat.zero_le _) (Nat.zero_le _) ⟨reI (by
            unfold askI
            first | rw [if_pos (by omega)] | (rw [if_neg (by omega)]; first | rw [if_pos (by omega)] | (rw [if_neg (by omega)]; first | rw [if_pos (by omega)] | (rw [if_neg (by omega)]; first | rw [if_pos (by omega)] | (rw [if_neg (by omega)]; first | rw [if_pos (by omega)] | rw [if_neg (by omega)]))))
            first | (rw [decide_eq_true (by omega)]; rfl) | (rw [decide_eq_false (by omega)]; rfl)), rfl⟩
      · skip
        replace h29 := lc_gt_f h29
        refine M.run 2 (pc' := 111) (lv' := [some (vi q), some (vl x), none, some (vl y), none]) (st' := [vi 1]) rfl ?_
        exact M.zret rfl (Or.inr rfl) (Nat.zero_le _) (Nat.zero_le _) ⟨reI (by
            unfold askI
            first | rw [if_pos (by omega)] | (rw [if_neg (by omega)]; first | rw [if_pos (by omega)] | (rw [if_neg (by omega)]; first | rw [if_pos (by omega)] | (rw [if_neg (by omega)]; first | rw [if_pos (by omega)] | (rw [if_neg (by omega)]; first | rw [if_pos (by omega)] | rw [if_neg (by omega)]))))
            first | (rw [decide_eq_true (by omega)]; rfl) | (rw [decide_eq_false (by omega)]; rfl)), rfl⟩
  · skip
    refine M.run 2 (pc' := 8) (lv' := [some (vi q), some (vl x), none, some (vl y), none]) (st' := [vl y, vl x]) rfl ?_
    refine M.lcmp rfl (qL (by omega)) (qL (by omega)) ?_
    refine M.if_ge (tgt := 16) rfl (qI (by omega)) (by decide) (fun h9 => ?_) (fun h9 => ?_)
    · skip
      replace h9 := lc_ge_t h9
      refine M.run 2 (pc' := 111) (lv' := [some (vi q), some (vl x), none, some (vl y), none]) (st' := [vi 0]) rfl ?_
      exact M.zret rfl (Or.inl rfl) (Nat.zero_le _) (Nat.zero_le _) ⟨reI (by
          unfold askI
          first | rw [if_pos (by omega)] | (rw [if_neg (by omega)]; first | rw [if_pos (by omega)] | (rw [if_neg (by omega)]; first | rw [if_pos (by omega)] | (rw [if_neg (by omega)]; first | rw [if_pos (by omega)] | (rw [if_neg (by omega)]; first | rw [if_pos (by omega)] | rw [if_neg (by omega)]))))
          first | (rw [decide_eq_true (by omega)]; rfl) | (rw [decide_eq_false (by omega)]; rfl)), rfl⟩
    · skip
      replace h9 := lc_ge_f h9
      refine M.run 2 (pc' := 111) (lv' := [some (vi q), some (vl x), none, some (vl y), none]) (st' := [vi 1]) rfl ?_
      exact M.zret rfl (Or.inr rfl) (Nat.zero_le _) (Nat.zero_le _) ⟨reI (by
          unfold askI
          first | rw [if_pos (by omega)] | (rw [if_neg (by omega)]; first | rw [if_pos (by omega)] | (rw [if_neg (by omega)]; first | rw [if_pos (by omega)] | (rw [if_neg (by omega)]; first | rw [if_pos (by omega)] | (rw [if_neg (by omega)]; first | rw [if_pos (by omega)] | rw [if_neg (by omega)]))))
          first | (rw [decide_eq_true (by omega)]; rfl) | (rw [decide_eq_false (by omega)]; rfl)), rfl⟩
set_option maxHeartbeats 4000000 in
set_option maxRecDepth 100000 in
theorem kX11_ofOne (l : Launch) (G : GT) (o : Nat) (am : Nat → Nat) (u a : Nat → Int) (b : Nat → Nat → Int) (q x : Int) (hq : 0 ≤ q ∧ q ≤ 100) (hx : bd6 x) (hk : Mok a) : Ctr l G yX11_ofOne cX11_ofOne 4 ((Option.some Jvm.ClassFile.FieldType.long)) 2 0 0 [vr o, vi q, vl x] (fun w => isM o am u a b w) (fun w r w' => r = some (vl (oneI (ofA a) q x)) ∧ w' = w) := by
  refine Ctr.of (t := tX11_ofOne) (lv0 := [some (vr o), some (vi q), some (vl x), none]) (by decide +kernel) tX11_ofOne_ok rfl rfl (fun w g hP M => ?_)
  have hM := hP
  have hk0 : 0 ≤ a 0 ∧ a 0 ≤ 3 := hk 0 (by decide)
  have hx1 := hx.1
  have hx2 := hx.2
  refine M.run 2 (pc' := 2) (lv' := [some (vr o), some (vi q), some (vl x), none]) (st' := [vi 5, vi q]) rfl ?_
  refine M.icmp_ne (tgt := 8) rfl (qI (by omega)) (qI (by decide)) (by decide) (fun h2 => ?_) (fun h2 => ?_)
  · skip
    refine M.run 2 (pc' := 10) (lv' := [some (vr o), some (vi q), some (vl x), none]) (st' := [vl 0, vl x]) rfl ?_
    refine M.lcmp rfl (qL (by omega)) (qL (by decide)) ?_
    refine M.if_lt (tgt := 26) rfl (qI (by omega)) (by decide) (fun h11 => ?_) (fun h11 => ?_)
    · skip
      replace h11 := lc_lt_t h11
      refine M.run 1 (pc' := 27) (lv' := [some (vr o), some (vi q), some (vl x), none]) (st' := [vl 0]) rfl ?_
      exact M.lret rfl (Nat.zero_le _) (Nat.zero_le _) ⟨reL (by unfold oneI ofA; rw [if_neg (by omega), if_pos (by omega)]), rfl⟩
    · skip
      replace h11 := lc_lt_f h11
      refine M.run 2 (pc' := 16) (lv' := [some (vr o), some (vi q), some (vl x), none]) (st' := [vr o, vl x]) rfl ?_
      refine M.get fl_X11_7 rfl (isM_o hM) (kf := 0) (v := vr (am 0)) rfl ?_
      refine M.run 1 (pc' := 20) (lv' := [some (vr o), some (vi q), some (vl x), none]) (st' := [vi 0, vr (am 0), vl x]) rfl ?_
      refine M.ialdN (0) rfl (isM_a hM) (by decide) (by decide) ?_
      refine M.i2l rfl (qI (by omega)) ?_
      refine M.lcmp rfl (qL (by omega)) (qL (by omega)) ?_
      refine M.if_lt (tgt := 28) rfl (qI (by omega)) (by decide) (fun h23 => ?_) (fun h23 => ?_)
      · skip
        replace h23 := lc_lt_t h23
        refine M.run 2 (pc' := 30) (lv' := [some (vr o), some (vi q), some (vl x), none]) (st' := [vi 2, vi q]) rfl ?_
        refine M.icmp_ne (tgt := 46) rfl (qI (by omega)) (qI (by decide)) (by decide) (fun h30 => ?_) (fun h30 => ?_)
        · skip
          refine M.run 1 (pc' := 47) (lv' := [some (vr o), some (vi q), some (vl x), none]) (st' := [vr o]) rfl ?_
          refine M.get fl_X11_7 rfl (isM_o hM) (kf := 0) (v := vr (am 0)) rfl ?_
          refine M.run 2 (pc' := 53) (lv' := [some (vr o), some (vi q), some (vl x), none]) (st' := [vl x, vi 37, vr (am 0)]) rfl ?_
          have hge : 0 ≤ x ∧ x < a 0 := by omega
          obtain ⟨c, rfl⟩ := Int.eq_ofNat_of_zero_le (show (0 : Int) ≤ x from hge.1)
          have hcl := Mok_com hk (x := c) (by omega)
          refine M.run 2 (pc' := 55) (lv' := [some (vr o), some (vi q), some (vl ((c : Nat) : Int)), none]) (st' := [vi (37 + ((c : Nat) : Int)), vr (am 0)]) rfl ?_
          refine M.ialdN (37 + c) rfl (isM_a hM) (by omega) (by decide) ?_
          rw [show a (37 + c) = (((a (37 + c)).toNat : Nat) : Int) from (Int.toNat_of_nonneg (by omega)).symm]
          refine M.callS (kX11_bitsOf l G ((a (37 + c)).toNat) (by omega)) cs_X11_250 cd_X11_bitsOf rfl (st := []) rfl (by decide) (by decide) rfl (Nat.zero_le _) (Nat.zero_le _) trivial (fun r1 w2 q3 => ?_)
          rw [q3.1, q3.2]
          have hbl := bPc_le (a (37 + c)).toNat
          have hbm := bPc_le (a (34 + c)).toNat
          refine M.i2l rfl (qI (by omega)) ?_
          exact M.lret rfl (Nat.zero_le _) (Nat.zero_le _) ⟨reL (by unfold oneI ofA; rw [if_neg (by omega), if_neg (by omega)]; first | rw [if_pos h30]; rfl | rw [if_neg h30]; rfl), rfl⟩
        · skip
          refine M.run 1 (pc' := 34) (lv' := [some (vr o), some (vi q), some (vl x), none]) (st' := [vr o]) rfl ?_
          refine M.get fl_X11_7 rfl (isM_o hM) (kf := 0) (v := vr (am 0)) rfl ?_
          refine M.run 2 (pc' := 40) (lv' := [some (vr o), some (vi q), some (vl x), none]) (st' := [vl x, vi 34, vr (am 0)]) rfl ?_
          have hge : 0 ≤ x ∧ x < a 0 := by omega
          obtain ⟨c, rfl⟩ := Int.eq_ofNat_of_zero_le (show (0 : Int) ≤ x from hge.1)
          have hcl := Mok_clm hk (x := c) (by omega)
          refine M.run 2 (pc' := 42) (lv' := [some (vr o), some (vi q), some (vl ((c : Nat) : Int)), none]) (st' := [vi (34 + ((c : Nat) : Int)), vr (am 0)]) rfl ?_
          refine M.ialdN (34 + c) rfl (isM_a hM) (by omega) (by decide) ?_
          refine M.run 1 (pc' := 56) (lv' := [some (vr o), some (vi q), some (vl ((c : Nat) : Int)), none]) (st' := [vi (a (34 + c))]) rfl ?_
          rw [show a (34 + c) = (((a (34 + c)).toNat : Nat) : Int) from (Int.toNat_of_nonneg (by omega)).symm]
          refine M.callS (kX11_bitsOf l G ((a (34 + c)).toNat) (by omega)) cs_X11_250 cd_X11_bitsOf rfl (st := []) rfl (by decide) (by decide) rfl (Nat.zero_le _) (Nat.zero_le _) trivial (fun r5 w6 q7 => ?_)
          rw [q7.1, q7.2]
          have hbl := bPc_le (a (37 + c)).toNat
          have hbm := bPc_le (a (34 + c)).toNat
          refine M.i2l rfl (qI (by omega)) ?_
          exact M.lret rfl (Nat.zero_le _) (Nat.zero_le _) ⟨reL (by unfold oneI ofA; rw [if_neg (by omega), if_neg (by omega)]; first | rw [if_pos h30]; rfl | rw [if_neg h30]; rfl), rfl⟩
      · skip
        replace h23 := lc_lt_f h23
        refine M.run 1 (pc' := 27) (lv' := [some (vr o), some (vi q), some (vl x), none]) (st' := [vl 0]) rfl ?_
        exact M.lret rfl (Nat.zero_le _) (Nat.zero_le _) ⟨reL (by unfold oneI ofA; rw [if_neg (by omega), if_pos (by omega)]), rfl⟩
  · skip
    refine M.run 2 (pc' := 7) (lv' := [some (vr o), some (vi q), some (vl x), none]) (st' := [vl (-x)]) rfl ?_
    exact M.lret rfl (Nat.zero_le _) (Nat.zero_le _) ⟨reL (by unfold oneI; rw [if_pos (by omega)]), rfl⟩
set_option maxHeartbeats 4000000 in
set_option maxRecDepth 100000 in
theorem kX11_joined (l : Launch) (G : GT) (q x y : Int) (hq : 0 ≤ q ∧ q ≤ 100) (hx : x = 0 ∨ x = 1) (hy : y = 0 ∨ y = 1) : Ctr l G yX11_joined cX11_joined 3 ((Option.some Jvm.ClassFile.FieldType.boolean)) 1 0 0 [vi q, vi x, vi y] (fun w => True) (fun w r w' => r = some (vi (zb (jnI q x y))) ∧ w' = w) := by
  refine Ctr.of (t := tX11_joined) (lv0 := [some (vi q), some (vi x), some (vi y)]) (by decide +kernel) tX11_joined_ok rfl rfl (fun w g hP M => ?_)
  refine M.run 2 (pc' := 3) (lv' := [some (vi q), some (vi x), some (vi y)]) (st' := [vi 21, vi q]) rfl ?_
  refine M.icmp_ne (tgt := 22) rfl (qI (by omega)) (qI (by decide)) (by decide) (fun h3 => ?_) (fun h3 => ?_)
  · skip
    refine M.run 1 (pc' := 23) (lv' := [some (vi q), some (vi x), some (vi y)]) (st' := [vi x]) rfl ?_
    refine M.if_ne (tgt := 30) rfl (qI (by omega)) (by decide) (fun h23 => ?_) (fun h23 => ?_)
    · skip
      refine M.run 2 (pc' := 35) (lv' := [some (vi q), some (vi x), some (vi y)]) (st' := [vi 1]) rfl ?_
      exact M.zret rfl (Or.inr rfl) (Nat.zero_le _) (Nat.zero_le _) ⟨reI (by
          unfold jnI
          first | rw [if_pos (by omega)] | rw [if_neg (by omega)]
          first | (rw [decide_eq_true (by omega)]; rfl) | (rw [decide_eq_false (by omega)]; rfl)), rfl⟩
    · skip
      refine M.run 1 (pc' := 27) (lv' := [some (vi q), some (vi x), some (vi y)]) (st' := [vi y]) rfl ?_
      refine M.if_eq (tgt := 34) rfl (qI (by omega)) (by decide) (fun h27 => ?_) (fun h27 => ?_)
      · skip
        refine M.run 1 (pc' := 35) (lv' := [some (vi q), some (vi x), some (vi y)]) (st' := [vi 0]) rfl ?_
        exact M.zret rfl (Or.inl rfl) (Nat.zero_le _) (Nat.zero_le _) ⟨reI (by
            unfold jnI
            first | rw [if_pos (by omega)] | rw [if_neg (by omega)]
            first | (rw [decide_eq_true (by omega)]; rfl) | (rw [decide_eq_false (by omega)]; rfl)), rfl⟩
      · skip
        refine M.run 2 (pc' := 35) (lv' := [some (vi q), some (vi x), some (vi y)]) (st' := [vi 1]) rfl ?_
        exact M.zret rfl (Or.inr rfl) (Nat.zero_le _) (Nat.zero_le _) ⟨reI (by
            unfold jnI
            first | rw [if_pos (by omega)] | rw [if_neg (by omega)]
            first | (rw [decide_eq_true (by omega)]; rfl) | (rw [decide_eq_false (by omega)]; rfl)), rfl⟩
  · skip
    refine M.run 1 (pc' := 7) (lv' := [some (vi q), some (vi x), some (vi y)]) (st' := [vi x]) rfl ?_
    refine M.if_eq (tgt := 18) rfl (qI (by omega)) (by decide) (fun h7 => ?_) (fun h7 => ?_)
    · skip
      refine M.run 2 (pc' := 35) (lv' := [some (vi q), some (vi x), some (vi y)]) (st' := [vi 0]) rfl ?_
      exact M.zret rfl (Or.inl rfl) (Nat.zero_le _) (Nat.zero_le _) ⟨reI (by
          unfold jnI
          first | rw [if_pos (by omega)] | rw [if_neg (by omega)]
          first | (rw [decide_eq_true (by omega)]; rfl) | (rw [decide_eq_false (by omega)]; rfl)), rfl⟩
    · skip
      refine M.run 1 (pc' := 11) (lv' := [some (vi q), some (vi x), some (vi y)]) (st' := [vi y]) rfl ?_
      refine M.if_eq (tgt := 18) rfl (qI (by omega)) (by decide) (fun h11 => ?_) (fun h11 => ?_)
      · skip
        refine M.run 2 (pc' := 35) (lv' := [some (vi q), some (vi x), some (vi y)]) (st' := [vi 0]) rfl ?_
        exact M.zret rfl (Or.inl rfl) (Nat.zero_le _) (Nat.zero_le _) ⟨reI (by
            unfold jnI
            first | rw [if_pos (by omega)] | rw [if_neg (by omega)]
            first | (rw [decide_eq_true (by omega)]; rfl) | (rw [decide_eq_false (by omega)]; rfl)), rfl⟩
      · skip
        refine M.run 2 (pc' := 35) (lv' := [some (vi q), some (vi x), some (vi y)]) (st' := [vi 1]) rfl ?_
        exact M.zret rfl (Or.inr rfl) (Nat.zero_le _) (Nat.zero_le _) ⟨reI (by
            unfold jnI
            first | rw [if_pos (by omega)] | rw [if_neg (by omega)]
            first | (rw [decide_eq_true (by omega)]; rfl) | (rw [decide_eq_false (by omega)]; rfl)), rfl⟩
def hldI (v lo hi : Int) : Int := if v < lo then lo else if hi < v then hi else v
set_option maxHeartbeats 4000000 in
set_option maxRecDepth 100000 in
theorem kX11_held (l : Launch) (G : GT) (x lo hi : Int) (hx : bd6 x) (hl : -1000 ≤ lo ∧ lo ≤ 1000) (hh : -1000 ≤ hi ∧ hi ≤ 1000) : Ctr l G yX11_held cX11_held 4 ((Option.some Jvm.ClassFile.FieldType.int)) 1 0 0 [vl x, vi lo, vi hi] (fun w => True) (fun w r w' => r = some (vi (hldI x lo hi)) ∧ w' = w) := by
  refine Ctr.of (t := tX11_held) (lv0 := [some (vl x), none, some (vi lo), some (vi hi)]) (by decide +kernel) tX11_held_ok rfl rfl (fun w g hP M => ?_)
  have hx1 := hx.1
  have hx2 := hx.2
  refine M.run 2 (pc' := 2) (lv' := [some (vl x), none, some (vi lo), some (vi hi)]) (st' := [vi lo, vl x]) rfl ?_
  refine M.i2l rfl (qI (by omega)) ?_
  refine M.lcmp rfl (qL (by omega)) (qL (by omega)) ?_
  refine M.if_ge (tgt := 11) rfl (qI (by omega)) (by decide) (fun h4 => ?_) (fun h4 => ?_)
  · skip
    replace h4 := lc_ge_t h4
    refine M.run 2 (pc' := 13) (lv' := [some (vl x), none, some (vi lo), some (vi hi)]) (st' := [vi hi, vl x]) rfl ?_
    refine M.i2l rfl (qI (by omega)) ?_
    refine M.lcmp rfl (qL (by omega)) (qL (by omega)) ?_
    refine M.if_le (tgt := 22) rfl (qI (by omega)) (by decide) (fun h15 => ?_) (fun h15 => ?_)
    · skip
      replace h15 := lc_le_t h15
      refine M.run 2 (pc' := 24) (lv' := [some (vl x), none, some (vi lo), some (vi hi)]) (st' := [vi x]) rfl ?_
      exact M.iret rfl (Nat.zero_le _) (Nat.zero_le _) ⟨reI (by unfold hldI; (repeat' split) <;> omega), rfl⟩
    · skip
      replace h15 := lc_le_f h15
      refine M.run 2 (pc' := 24) (lv' := [some (vl x), none, some (vi lo), some (vi hi)]) (st' := [vi hi]) rfl ?_
      exact M.iret rfl (Nat.zero_le _) (Nat.zero_le _) ⟨reI (by unfold hldI; (repeat' split) <;> omega), rfl⟩
  · skip
    replace h4 := lc_ge_f h4
    refine M.run 2 (pc' := 24) (lv' := [some (vl x), none, some (vi lo), some (vi hi)]) (st' := [vi lo]) rfl ?_
    exact M.iret rfl (Nat.zero_le _) (Nat.zero_le _) ⟨reI (by unfold hldI; (repeat' split) <;> omega), rfl⟩
set_option maxHeartbeats 4000000 in
set_option maxRecDepth 100000 in
theorem kX11_summedUp (l : Launch) (G : GT) (o : Nat) (am : Nat → Nat) (u a : Nat → Int) (b : Nat → Nat → Int) (t cl : Nat) (ht : t < 4) (hcl : cl < 24) (f nm : Nat → Int) (hb2 : b 2 = f) (hb20 : b 20 = nm) (s e : Nat) (hs : f (681 * t + 1 + 3 * cl + 1) = ((s : Nat) : Int)) (he : f (681 * t + 1 + 3 * cl + 2) = ((e : Nat) : Int)) (hse : s ≤ e ∧ e ≤ 303) (hus : ∀ i : Nat, s ≤ i → i < e → f (681 * t + 73 + 2 * i) = 1 → bd6 (nm (f (681 * t + 73 + 2 * i + 1)).toNat)) (F : XS) (hrn : xrun nm (ofA a) f (681 * t + 73) (e - s) s (b 21, 0, b 22, 0) = some F) (hF : 0 < F.2.1) (hk : Mok a) : Ctr l G yX11_summedUp cX11_summedUp 10 ((Option.some Jvm.ClassFile.FieldType.long)) 3 0 0 [vr o, vi ((t : Nat) : Int), vi ((cl : Nat) : Int)] (fun w => isM o am u a b w) (fun w r w' => r = some (vl (F.1 0)) ∧ bd6 (F.1 0) ∧ ∃ b', isM o am u a b' w' ∧ ∀ k : Nat, k ≠ 21 → k ≠ 22 → b' k = b k) := by
  refine Ctr.of (t := tX11_summedUp) (lv0 := [some (vr o), some (vi ((t : Nat) : Int)), some (vi ((cl : Nat) : Int)), none, none, none, none, none, none, none]) (by decide +kernel) tX11_summedUp_ok rfl rfl (fun w g hP M => ?_)
  have hM := hP
  have hk0 : 0 ≤ a 0 ∧ a 0 ≤ 3 := hk 0 (by decide)
  refine M.run 21 (pc' := 29) (lv' := [some (vr o), some (vi ((t : Nat) : Int)), some (vi ((cl : Nat) : Int)), some (vi (((681 * ((t : Nat) : Int)) + 1) + (3 * ((cl : Nat) : Int)))), some (vi ((681 * ((t : Nat) : Int)) + 73)), some (vi 0), some (vi 0), none, none, none]) (st' := [vr o]) rfl ?_
  refine M.get fl_X11_16 rfl (isM_o hM) (kf := 2) (v := vr (am 2)) rfl ?_
  refine M.run 3 (pc' := 35) (lv' := [some (vr o), some (vi ((t : Nat) : Int)), some (vi ((cl : Nat) : Int)), some (vi (((681 * ((t : Nat) : Int)) + 1) + (3 * ((cl : Nat) : Int)))), some (vi ((681 * ((t : Nat) : Int)) + 73)), some (vi 0), some (vi 0), none, none, none]) (st' := [vi ((((681 * ((t : Nat) : Int)) + 1) + (3 * ((cl : Nat) : Int))) + 1), vr (am 2)]) rfl ?_
  refine M.ialdN (681 * t + 1 + (3 * cl) + 1) rfl ((isM_2 hM).trans (congrArg (fun z => some (Ar 0 2724 z)) hb2)) (by omega) (by decide) ?_
  rw [hs]
  refine M.run 1 (pc' := 38) (lv' := [some (vr o), some (vi ((t : Nat) : Int)), some (vi ((cl : Nat) : Int)), some (vi (((681 * ((t : Nat) : Int)) + 1) + (3 * ((cl : Nat) : Int)))), some (vi ((681 * ((t : Nat) : Int)) + 73)), some (vi 0), some (vi 0), some (vi ((s : Nat) : Int)), none, none]) (st' := []) rfl ?_
  have Lp38 : ∀ (N : Nat) (bx : Nat → Nat → Int) (ww : Wo) (n : Nat) (m : Nat) (i : Nat), (isM o am u a bx ww) → (∀ k : Nat, k ≠ 21 → k ≠ 22 → bx k = b k) → (bx 2 = f) → (bx 20 = nm) → (xrun nm (ofA a) f (681 * t + 73) (e - i) i (bx 21, n, bx 22, m) = some F) → (xB (bx 21, n, bx 22, m)) → (n ≤ i - s ∧ m ≤ i - s) → (s ≤ i ∧ i ≤ e) → e - i < N → g 0 0 ww 38 [some (vr o), some (vi ((t : Nat) : Int)), some (vi ((cl : Nat) : Int)), some (vi ((681 * t + 1 + 3 * cl : Nat) : Int)), some (vi ((681 * t + 73 : Nat) : Int)), some (vi ((n : Nat) : Int)), some (vi ((m : Nat) : Int)), some (vi ((i : Nat) : Int)), none, none] [] := by
    intro N
    induction N with
    | zero => intro bx ww n m i _ _ _ _ _ _ _ _ hN; exact absurd hN (Nat.not_lt_zero _)
    | succ N ih38 =>
      intro bx ww n m i hMx hbx hb2x hb20x hrun hB hnn hie hN
      refine M.run 2 (pc' := 41) (lv' := [some (vr o), some (vi ((t : Nat) : Int)), some (vi ((cl : Nat) : Int)), some (vi ((681 * t + 1 + 3 * cl : Nat) : Int)), some (vi ((681 * t + 73 : Nat) : Int)), some (vi ((n : Nat) : Int)), some (vi ((m : Nat) : Int)), some (vi ((i : Nat) : Int)), none, none]) (st' := [vr o, vi ((i : Nat) : Int)]) rfl ?_
      refine M.get fl_X11_16 rfl (isM_o hMx) (kf := 2) (v := vr (am 2)) rfl ?_
      refine M.run 3 (pc' := 47) (lv' := [some (vr o), some (vi ((t : Nat) : Int)), some (vi ((cl : Nat) : Int)), some (vi ((681 * t + 1 + 3 * cl : Nat) : Int)), some (vi ((681 * t + 73 : Nat) : Int)), some (vi ((n : Nat) : Int)), some (vi ((m : Nat) : Int)), some (vi ((i : Nat) : Int)), none, none]) (st' := [vi (((681 * t + 1 + 3 * cl : Nat) : Int) + 2), vr (am 2), vi ((i : Nat) : Int)]) rfl ?_
      refine M.ialdN (681 * t + 1 + 3 * cl + 2) rfl ((isM_2 hMx).trans (congrArg (fun z => some (Ar 0 2724 z)) hb2x)) (by omega) (by decide) ?_
      rw [he]
      refine M.icmp_ge (tgt := 355) rfl (qI (by omega)) (qI (by omega)) (by decide) (fun h48 => ?_) (fun h48 => ?_)
      · skip
        refine M.run 1 (pc' := 356) (lv' := [some (vr o), some (vi ((t : Nat) : Int)), some (vi ((cl : Nat) : Int)), some (vi ((681 * t + 1 + 3 * cl : Nat) : Int)), some (vi ((681 * t + 73 : Nat) : Int)), some (vi ((n : Nat) : Int)), some (vi ((m : Nat) : Int)), some (vi ((i : Nat) : Int)), none, none]) (st' := [vr o]) rfl ?_
        refine M.get fl_X11_35 rfl (isM_o hMx) (kf := 21) (v := vr (am 21)) rfl ?_
        refine M.run 1 (pc' := 360) (lv' := [some (vr o), some (vi ((t : Nat) : Int)), some (vi ((cl : Nat) : Int)), some (vi ((681 * t + 1 + 3 * cl : Nat) : Int)), some (vi ((681 * t + 73 : Nat) : Int)), some (vi ((n : Nat) : Int)), some (vi ((m : Nat) : Int)), some (vi ((i : Nat) : Int)), none, none]) (st' := [vi 0, vr (am 21)]) rfl ?_
        refine M.laldN (0) rfl (isM_21 hMx) (by decide) (by decide) ?_
        exact M.lret rfl (Nat.zero_le _) (Nat.zero_le _) (by
            have e0 : e - i = 0 := by omega
            rw [e0] at hrun
            have e1 := Option.some.inj hrun
            subst e1
            exact ⟨rfl, hB.1 0 hF, bx, hMx, hbx⟩)
      · skip
        obtain ⟨S2, hs2, hr2⟩ := xrun_s (by omega) hrun
        have hg := xst_g hs2
        have hB2 := xst_B (fun q1 => hus i (by omega) (by omega) q1) (ofA_b a) hB hs2
        refine M.run 1 (pc' := 52) (lv' := [some (vr o), some (vi ((t : Nat) : Int)), some (vi ((cl : Nat) : Int)), some (vi ((681 * t + 1 + 3 * cl : Nat) : Int)), some (vi ((681 * t + 73 : Nat) : Int)), some (vi ((n : Nat) : Int)), some (vi ((m : Nat) : Int)), some (vi ((i : Nat) : Int)), none, none]) (st' := [vr o]) rfl ?_
        refine M.get fl_X11_16 rfl (isM_o hMx) (kf := 2) (v := vr (am 2)) rfl ?_
        refine M.run 5 (pc' := 62) (lv' := [some (vr o), some (vi ((t : Nat) : Int)), some (vi ((cl : Nat) : Int)), some (vi ((681 * t + 1 + 3 * cl : Nat) : Int)), some (vi ((681 * t + 73 : Nat) : Int)), some (vi ((n : Nat) : Int)), some (vi ((m : Nat) : Int)), some (vi ((i : Nat) : Int)), none, none]) (st' := [vi (((681 * t + 73 : Nat) : Int) + (2 * ((i : Nat) : Int))), vr (am 2)]) rfl ?_
        refine M.ialdN (681 * t + 73 + (2 * i)) rfl ((isM_2 hMx).trans (congrArg (fun z => some (Ar 0 2724 z)) hb2x)) (by omega) (by decide) ?_
        refine M.run 2 (pc' := 66) (lv' := [some (vr o), some (vi ((t : Nat) : Int)), some (vi ((cl : Nat) : Int)), some (vi ((681 * t + 1 + 3 * cl : Nat) : Int)), some (vi ((681 * t + 73 : Nat) : Int)), some (vi ((n : Nat) : Int)), some (vi ((m : Nat) : Int)), some (vi ((i : Nat) : Int)), some (vi (f (681 * t + 73 + (2 * i)))), none]) (st' := [vr o]) rfl ?_
        refine M.get fl_X11_16 rfl (isM_o hMx) (kf := 2) (v := vr (am 2)) rfl ?_
        refine M.run 7 (pc' := 78) (lv' := [some (vr o), some (vi ((t : Nat) : Int)), some (vi ((cl : Nat) : Int)), some (vi ((681 * t + 1 + 3 * cl : Nat) : Int)), some (vi ((681 * t + 73 : Nat) : Int)), some (vi ((n : Nat) : Int)), some (vi ((m : Nat) : Int)), some (vi ((i : Nat) : Int)), some (vi (f (681 * t + 73 + (2 * i)))), none]) (st' := [vi ((((681 * t + 73 : Nat) : Int) + (2 * ((i : Nat) : Int))) + 1), vr (am 2)]) rfl ?_
        refine M.ialdN (681 * t + 73 + (2 * i) + 1) rfl ((isM_2 hMx).trans (congrArg (fun z => some (Ar 0 2724 z)) hb2x)) (by omega) (by decide) ?_
        refine M.run 3 (pc' := 84) (lv' := [some (vr o), some (vi ((t : Nat) : Int)), some (vi ((cl : Nat) : Int)), some (vi ((681 * t + 1 + 3 * cl : Nat) : Int)), some (vi ((681 * t + 73 : Nat) : Int)), some (vi ((n : Nat) : Int)), some (vi ((m : Nat) : Int)), some (vi ((i : Nat) : Int)), some (vi (f (681 * t + 73 + (2 * i)))), some (vi (f (681 * t + 73 + (2 * i) + 1)))]) (st' := [vi 1, vi (f (681 * t + 73 + (2 * i)))]) rfl ?_
        refine M.icmp_gt (tgt := 119) rfl (qI (by omega)) (qI (by decide)) (by decide) (fun h84 => ?_) (fun h84 => ?_)
        · skip
          refine M.run 2 (pc' := 122) (lv' := [some (vr o), some (vi ((t : Nat) : Int)), some (vi ((cl : Nat) : Int)), some (vi ((681 * t + 1 + 3 * cl : Nat) : Int)), some (vi ((681 * t + 73 : Nat) : Int)), some (vi ((n : Nat) : Int)), some (vi ((m : Nat) : Int)), some (vi ((i : Nat) : Int)), some (vi (f (681 * t + 73 + (2 * i)))), some (vi (f (681 * t + 73 + (2 * i) + 1)))]) (st' := [vi 3, vi (f (681 * t + 73 + (2 * i)))]) rfl ?_
          refine M.icmp_ne (tgt := 160) rfl (qI (by omega)) (qI (by decide)) (by decide) (fun h122 => ?_) (fun h122 => ?_)
          · skip
            refine M.run 2 (pc' := 163) (lv' := [some (vr o), some (vi ((t : Nat) : Int)), some (vi ((cl : Nat) : Int)), some (vi ((681 * t + 1 + 3 * cl : Nat) : Int)), some (vi ((681 * t + 73 : Nat) : Int)), some (vi ((n : Nat) : Int)), some (vi ((m : Nat) : Int)), some (vi ((i : Nat) : Int)), some (vi (f (681 * t + 73 + (2 * i)))), some (vi (f (681 * t + 73 + (2 * i) + 1)))]) (st' := [vi 5, vi (f (681 * t + 73 + (2 * i)))]) rfl ?_
            refine M.icmp_gt (tgt := 193) rfl (qI (by omega)) (qI (by decide)) (by decide) (fun h163 => ?_) (fun h163 => ?_)
            · skip
              refine M.run 2 (pc' := 197) (lv' := [some (vr o), some (vi ((t : Nat) : Int)), some (vi ((cl : Nat) : Int)), some (vi ((681 * t + 1 + 3 * cl : Nat) : Int)), some (vi ((681 * t + 73 : Nat) : Int)), some (vi ((n : Nat) : Int)), some (vi ((m : Nat) : Int)), some (vi ((i : Nat) : Int)), some (vi (f (681 * t + 73 + (2 * i)))), some (vi (f (681 * t + 73 + (2 * i) + 1)))]) (st' := [vi 10, vi (f (681 * t + 73 + (2 * i)))]) rfl ?_
              refine M.icmp_ge (tgt := 236) rfl (qI (by omega)) (qI (by decide)) (by decide) (fun h197 => ?_) (fun h197 => ?_)
              · skip
                refine M.run 2 (pc' := 240) (lv' := [some (vr o), some (vi ((t : Nat) : Int)), some (vi ((cl : Nat) : Int)), some (vi ((681 * t + 1 + 3 * cl : Nat) : Int)), some (vi ((681 * t + 73 : Nat) : Int)), some (vi ((n : Nat) : Int)), some (vi ((m : Nat) : Int)), some (vi ((i : Nat) : Int)), some (vi (f (681 * t + 73 + (2 * i)))), some (vi (f (681 * t + 73 + (2 * i) + 1)))]) (st' := [vi 20, vi (f (681 * t + 73 + (2 * i)))]) rfl ?_
                refine M.icmp_ge (tgt := 280) rfl (qI (by omega)) (qI (by decide)) (by decide) (fun h240 => ?_) (fun h240 => ?_)
                · skip
                  refine M.run 2 (pc' := 284) (lv' := [some (vr o), some (vi ((t : Nat) : Int)), some (vi ((cl : Nat) : Int)), some (vi ((681 * t + 1 + 3 * cl : Nat) : Int)), some (vi ((681 * t + 73 : Nat) : Int)), some (vi ((n : Nat) : Int)), some (vi ((m : Nat) : Int)), some (vi ((i : Nat) : Int)), some (vi (f (681 * t + 73 + (2 * i)))), some (vi (f (681 * t + 73 + (2 * i) + 1)))]) (st' := [vi 20, vi (f (681 * t + 73 + (2 * i)))]) rfl ?_
                  refine M.icmp_ne (tgt := 316) rfl (qI (by omega)) (qI (by decide)) (by decide) (fun h284 => ?_) (fun h284 => ?_)
                  · skip
                    obtain ⟨hm1, hS2⟩ := xst_21 hs2 (by omega)
                    subst hS2
                    have htb1 : bx 22 (m - 1) = 0 ∨ bx 22 (m - 1) = 1 := hB.2 (m - 1) (by show m - 1 < m; omega)
                    have htb2 : bx 22 (m - 2) = 0 ∨ bx 22 (m - 2) = 1 := hB.2 (m - 2) (by show m - 2 < m; omega)
                    refine M.run 1 (pc' := 319) (lv' := [some (vr o), some (vi ((t : Nat) : Int)), some (vi ((cl : Nat) : Int)), some (vi ((681 * t + 1 + 3 * cl : Nat) : Int)), some (vi ((681 * t + 73 : Nat) : Int)), some (vi ((n : Nat) : Int)), some (vi (((m : Nat) : Int) + (-1))), some (vi ((i : Nat) : Int)), some (vi (f (681 * t + 73 + (2 * i)))), some (vi (f (681 * t + 73 + (2 * i) + 1)))]) (st' := []) rfl ?_
                    rw [show ((m : Nat) : Int) + (-1) = ((m - 1 : Nat) : Int) from by omega]
                    refine M.run 1 (pc' := 320) (lv' := [some (vr o), some (vi ((t : Nat) : Int)), some (vi ((cl : Nat) : Int)), some (vi ((681 * t + 1 + 3 * cl : Nat) : Int)), some (vi ((681 * t + 73 : Nat) : Int)), some (vi ((n : Nat) : Int)), some (vi ((m - 1 : Nat) : Int)), some (vi ((i : Nat) : Int)), some (vi (f (681 * t + 73 + (2 * i)))), some (vi (f (681 * t + 73 + (2 * i) + 1)))]) (st' := [vr o]) rfl ?_
                    refine M.get fl_X11_39 rfl (isM_o hMx) (kf := 22) (v := vr (am 22)) rfl ?_
                    refine M.run 3 (pc' := 327) (lv' := [some (vr o), some (vi ((t : Nat) : Int)), some (vi ((cl : Nat) : Int)), some (vi ((681 * t + 1 + 3 * cl : Nat) : Int)), some (vi ((681 * t + 73 : Nat) : Int)), some (vi ((n : Nat) : Int)), some (vi ((m - 1 : Nat) : Int)), some (vi ((i : Nat) : Int)), some (vi (f (681 * t + 73 + (2 * i)))), some (vi (f (681 * t + 73 + (2 * i) + 1)))]) (st' := [vi (((m - 1 : Nat) : Int) - 1), vr (am 22)]) rfl ?_
                    rw [show ((m - 1 : Nat) : Int) - 1 = ((m - 2 : Nat) : Int) from by omega]
                    refine M.run 2 (pc' := 330) (lv' := [some (vr o), some (vi ((t : Nat) : Int)), some (vi ((cl : Nat) : Int)), some (vi ((681 * t + 1 + 3 * cl : Nat) : Int)), some (vi ((681 * t + 73 : Nat) : Int)), some (vi ((n : Nat) : Int)), some (vi ((m - 1 : Nat) : Int)), some (vi ((i : Nat) : Int)), some (vi (f (681 * t + 73 + (2 * i)))), some (vi (f (681 * t + 73 + (2 * i) + 1)))]) (st' := [vr o, vi (f (681 * t + 73 + (2 * i))), vi ((m - 2 : Nat) : Int), vr (am 22)]) rfl ?_
                    refine M.get fl_X11_39 rfl (isM_o hMx) (kf := 22) (v := vr (am 22)) rfl ?_
                    refine M.run 3 (pc' := 337) (lv' := [some (vr o), some (vi ((t : Nat) : Int)), some (vi ((cl : Nat) : Int)), some (vi ((681 * t + 1 + 3 * cl : Nat) : Int)), some (vi ((681 * t + 73 : Nat) : Int)), some (vi ((n : Nat) : Int)), some (vi ((m - 1 : Nat) : Int)), some (vi ((i : Nat) : Int)), some (vi (f (681 * t + 73 + (2 * i)))), some (vi (f (681 * t + 73 + (2 * i) + 1)))]) (st' := [vi (((m - 1 : Nat) : Int) - 1), vr (am 22), vi (f (681 * t + 73 + (2 * i))), vi ((m - 2 : Nat) : Int), vr (am 22)]) rfl ?_
                    rw [show ((m - 1 : Nat) : Int) - 1 = ((m - 2 : Nat) : Int) from by omega]
                    refine M.zaldN (m - 2) rfl (isM_22 hMx) (by omega) (by decide) ?_
                    refine M.run 1 (pc' := 339) (lv' := [some (vr o), some (vi ((t : Nat) : Int)), some (vi ((cl : Nat) : Int)), some (vi ((681 * t + 1 + 3 * cl : Nat) : Int)), some (vi ((681 * t + 73 : Nat) : Int)), some (vi ((n : Nat) : Int)), some (vi ((m - 1 : Nat) : Int)), some (vi ((i : Nat) : Int)), some (vi (f (681 * t + 73 + (2 * i)))), some (vi (f (681 * t + 73 + (2 * i) + 1)))]) (st' := [vr o, vi ((bx 22) (m - 2)), vi (f (681 * t + 73 + (2 * i))), vi ((m - 2 : Nat) : Int), vr (am 22)]) rfl ?_
                    refine M.get fl_X11_39 rfl (isM_o hMx) (kf := 22) (v := vr (am 22)) rfl ?_
                    refine M.run 1 (pc' := 344) (lv' := [some (vr o), some (vi ((t : Nat) : Int)), some (vi ((cl : Nat) : Int)), some (vi ((681 * t + 1 + 3 * cl : Nat) : Int)), some (vi ((681 * t + 73 : Nat) : Int)), some (vi ((n : Nat) : Int)), some (vi ((m - 1 : Nat) : Int)), some (vi ((i : Nat) : Int)), some (vi (f (681 * t + 73 + (2 * i)))), some (vi (f (681 * t + 73 + (2 * i) + 1)))]) (st' := [vi ((m - 1 : Nat) : Int), vr (am 22), vi ((bx 22) (m - 2)), vi (f (681 * t + 73 + (2 * i))), vi ((m - 2 : Nat) : Int), vr (am 22)]) rfl ?_
                    refine M.zaldN (m - 1) rfl (isM_22 hMx) (by omega) (by decide) ?_
                    refine M.callS (kX11_joined l G (f (681 * t + 73 + (2 * i))) ((bx 22) (m - 2)) ((bx 22) (m - 1)) (by omega) (by omega) (by omega)) cs_X11_265 cd_X11_joined rfl (st := [vi ((m - 2 : Nat) : Int), vr (am 22)]) rfl (by decide) (by decide) rfl (Nat.zero_le _) (Nat.zero_le _) trivial (fun r1 w2 q3 => ?_)
                    rw [q3.1, q3.2]
                    refine M.zastN (m - 2) rfl (isM_22 hMx) (zb_01 _) (by omega) (by decide) ?_
                    have hM6 := isM_setB (k := 22) (t := 2) (n := 330) hMx (by decide) (uN (bx 22) (m - 2) (zb (jnI (f (681 * t + 73 + (2 * i))) ((bx 22) (m - 2)) ((bx 22) (m - 1)))))
                    generalize up ww (am 22) (Ar 2 330 (uN (bx 22) (m - 2) (zb (jnI (f (681 * t + 73 + (2 * i))) ((bx 22) (m - 2)) ((bx 22) (m - 1)))))) = w5 at hM6 ⊢
                    refine M.run 2 (pc' := 38) (lv' := [some (vr o), some (vi ((t : Nat) : Int)), some (vi ((cl : Nat) : Int)), some (vi ((681 * t + 1 + 3 * cl : Nat) : Int)), some (vi ((681 * t + 73 : Nat) : Int)), some (vi ((n : Nat) : Int)), some (vi ((m - 1 : Nat) : Int)), some (vi (((i : Nat) : Int) + 1)), some (vi (f (681 * t + 73 + (2 * i)))), some (vi (f (681 * t + 73 + (2 * i) + 1)))]) (st' := []) rfl ?_
                    refine M.fgt [false, false, false, false, false, false, false, false, true, true] ?_
                    exact ih38 (uB bx 22 (uN (bx 22) (m - 2) (zb (jnI (f (681 * t + 73 + (2 * i))) ((bx 22) (m - 2)) ((bx 22) (m - 1)))))) w5 n (m - 1) (i + 1) hM6 (by first | exact hbx | exact fun k k1 k2 => (if_neg k1).trans (hbx k k1 k2) | exact fun k k1 k2 => (if_neg k2).trans (hbx k k1 k2)) hb2x hb20x hr2 hB2 (by omega) (by omega) (by omega)
                  · skip
                    obtain ⟨hm1, hS2⟩ := xst_20 hs2 (by omega)
                    subst hS2
                    have htb1 : bx 22 (m - 1) = 0 ∨ bx 22 (m - 1) = 1 := hB.2 (m - 1) (by show m - 1 < m; omega)
                    refine M.run 1 (pc' := 288) (lv' := [some (vr o), some (vi ((t : Nat) : Int)), some (vi ((cl : Nat) : Int)), some (vi ((681 * t + 1 + 3 * cl : Nat) : Int)), some (vi ((681 * t + 73 : Nat) : Int)), some (vi ((n : Nat) : Int)), some (vi ((m : Nat) : Int)), some (vi ((i : Nat) : Int)), some (vi (f (681 * t + 73 + (2 * i)))), some (vi (f (681 * t + 73 + (2 * i) + 1)))]) (st' := [vr o]) rfl ?_
                    refine M.get fl_X11_39 rfl (isM_o hMx) (kf := 22) (v := vr (am 22)) rfl ?_
                    refine M.run 3 (pc' := 295) (lv' := [some (vr o), some (vi ((t : Nat) : Int)), some (vi ((cl : Nat) : Int)), some (vi ((681 * t + 1 + 3 * cl : Nat) : Int)), some (vi ((681 * t + 73 : Nat) : Int)), some (vi ((n : Nat) : Int)), some (vi ((m : Nat) : Int)), some (vi ((i : Nat) : Int)), some (vi (f (681 * t + 73 + (2 * i)))), some (vi (f (681 * t + 73 + (2 * i) + 1)))]) (st' := [vi (((m : Nat) : Int) - 1), vr (am 22)]) rfl ?_
                    rw [show ((m : Nat) : Int) - 1 = ((m - 1 : Nat) : Int) from by omega]
                    refine M.run 1 (pc' := 296) (lv' := [some (vr o), some (vi ((t : Nat) : Int)), some (vi ((cl : Nat) : Int)), some (vi ((681 * t + 1 + 3 * cl : Nat) : Int)), some (vi ((681 * t + 73 : Nat) : Int)), some (vi ((n : Nat) : Int)), some (vi ((m : Nat) : Int)), some (vi ((i : Nat) : Int)), some (vi (f (681 * t + 73 + (2 * i)))), some (vi (f (681 * t + 73 + (2 * i) + 1)))]) (st' := [vr o, vi ((m - 1 : Nat) : Int), vr (am 22)]) rfl ?_
                    refine M.get fl_X11_39 rfl (isM_o hMx) (kf := 22) (v := vr (am 22)) rfl ?_
                    refine M.run 3 (pc' := 303) (lv' := [some (vr o), some (vi ((t : Nat) : Int)), some (vi ((cl : Nat) : Int)), some (vi ((681 * t + 1 + 3 * cl : Nat) : Int)), some (vi ((681 * t + 73 : Nat) : Int)), some (vi ((n : Nat) : Int)), some (vi ((m : Nat) : Int)), some (vi ((i : Nat) : Int)), some (vi (f (681 * t + 73 + (2 * i)))), some (vi (f (681 * t + 73 + (2 * i) + 1)))]) (st' := [vi (((m : Nat) : Int) - 1), vr (am 22), vi ((m - 1 : Nat) : Int), vr (am 22)]) rfl ?_
                    rw [show ((m : Nat) : Int) - 1 = ((m - 1 : Nat) : Int) from by omega]
                    refine M.zaldN (m - 1) rfl (isM_22 hMx) (by omega) (by decide) ?_
                    refine M.if_ne (tgt := 311) rfl (qI (by omega)) (by decide) (fun h304 => ?_) (fun h304 => ?_)
                    · skip
                      rw [if_neg h304] at hr2 hB2
                      refine M.run 1 (pc' := 312) (lv' := [some (vr o), some (vi ((t : Nat) : Int)), some (vi ((cl : Nat) : Int)), some (vi ((681 * t + 1 + 3 * cl : Nat) : Int)), some (vi ((681 * t + 73 : Nat) : Int)), some (vi ((n : Nat) : Int)), some (vi ((m : Nat) : Int)), some (vi ((i : Nat) : Int)), some (vi (f (681 * t + 73 + (2 * i)))), some (vi (f (681 * t + 73 + (2 * i) + 1)))]) (st' := [vi 0, vi ((m - 1 : Nat) : Int), vr (am 22)]) rfl ?_
                      refine M.zastN (m - 1) rfl (isM_22 hMx) (Or.inl rfl) (by omega) (by decide) ?_
                      have hM8 := isM_setB (k := 22) (t := 2) (n := 330) hMx (by decide) (uN (bx 22) (m - 1) 0)
                      generalize up ww (am 22) (Ar 2 330 (uN (bx 22) (m - 1) 0)) = w7 at hM8 ⊢
                      refine M.run 3 (pc' := 38) (lv' := [some (vr o), some (vi ((t : Nat) : Int)), some (vi ((cl : Nat) : Int)), some (vi ((681 * t + 1 + 3 * cl : Nat) : Int)), some (vi ((681 * t + 73 : Nat) : Int)), some (vi ((n : Nat) : Int)), some (vi ((m : Nat) : Int)), some (vi (((i : Nat) : Int) + 1)), some (vi (f (681 * t + 73 + (2 * i)))), some (vi (f (681 * t + 73 + (2 * i) + 1)))]) (st' := []) rfl ?_
                      refine M.fgt [false, false, false, false, false, false, false, false, true, true] ?_
                      exact ih38 (uB bx 22 (uN (bx 22) (m - 1) 0)) w7 n m (i + 1) hM8 (by first | exact hbx | exact fun k k1 k2 => (if_neg k1).trans (hbx k k1 k2) | exact fun k k1 k2 => (if_neg k2).trans (hbx k k1 k2)) hb2x hb20x hr2 hB2 (by omega) (by omega) (by omega)
                    · skip
                      rw [if_pos h304] at hr2 hB2
                      refine M.run 2 (pc' := 312) (lv' := [some (vr o), some (vi ((t : Nat) : Int)), some (vi ((cl : Nat) : Int)), some (vi ((681 * t + 1 + 3 * cl : Nat) : Int)), some (vi ((681 * t + 73 : Nat) : Int)), some (vi ((n : Nat) : Int)), some (vi ((m : Nat) : Int)), some (vi ((i : Nat) : Int)), some (vi (f (681 * t + 73 + (2 * i)))), some (vi (f (681 * t + 73 + (2 * i) + 1)))]) (st' := [vi 1, vi ((m - 1 : Nat) : Int), vr (am 22)]) rfl ?_
                      refine M.zastN (m - 1) rfl (isM_22 hMx) (Or.inr rfl) (by omega) (by decide) ?_
                      have hM10 := isM_setB (k := 22) (t := 2) (n := 330) hMx (by decide) (uN (bx 22) (m - 1) 1)
                      generalize up ww (am 22) (Ar 2 330 (uN (bx 22) (m - 1) 1)) = w9 at hM10 ⊢
                      refine M.run 3 (pc' := 38) (lv' := [some (vr o), some (vi ((t : Nat) : Int)), some (vi ((cl : Nat) : Int)), some (vi ((681 * t + 1 + 3 * cl : Nat) : Int)), some (vi ((681 * t + 73 : Nat) : Int)), some (vi ((n : Nat) : Int)), some (vi ((m : Nat) : Int)), some (vi (((i : Nat) : Int) + 1)), some (vi (f (681 * t + 73 + (2 * i)))), some (vi (f (681 * t + 73 + (2 * i) + 1)))]) (st' := []) rfl ?_
                      refine M.fgt [false, false, false, false, false, false, false, false, true, true] ?_
                      exact ih38 (uB bx 22 (uN (bx 22) (m - 1) 1)) w9 n m (i + 1) hM10 (by first | exact hbx | exact fun k k1 k2 => (if_neg k1).trans (hbx k k1 k2) | exact fun k k1 k2 => (if_neg k2).trans (hbx k k1 k2)) hb2x hb20x hr2 hB2 (by omega) (by omega) (by omega)
                · skip
                  obtain ⟨hn2, hS2⟩ := xst_10 hs2 (by omega) (by omega)
                  subst hS2
                  have hvb1 : bd6 (bx 21 (n - 1)) := hB.1 (n - 1) (by show n - 1 < n; omega)
                  have hvb2 : bd6 (bx 21 (n - 2)) := hB.1 (n - 2) (by show n - 2 < n; omega)
                  refine M.run 1 (pc' := 246) (lv' := [some (vr o), some (vi ((t : Nat) : Int)), some (vi ((cl : Nat) : Int)), some (vi ((681 * t + 1 + 3 * cl : Nat) : Int)), some (vi ((681 * t + 73 : Nat) : Int)), some (vi (((n : Nat) : Int) + (-2))), some (vi ((m : Nat) : Int)), some (vi ((i : Nat) : Int)), some (vi (f (681 * t + 73 + (2 * i)))), some (vi (f (681 * t + 73 + (2 * i) + 1)))]) (st' := []) rfl ?_
                  rw [show ((n : Nat) : Int) + (-2) = ((n - 2 : Nat) : Int) from by omega]
                  refine M.run 1 (pc' := 247) (lv' := [some (vr o), some (vi ((t : Nat) : Int)), some (vi ((cl : Nat) : Int)), some (vi ((681 * t + 1 + 3 * cl : Nat) : Int)), some (vi ((681 * t + 73 : Nat) : Int)), some (vi ((n - 2 : Nat) : Int)), some (vi ((m : Nat) : Int)), some (vi ((i : Nat) : Int)), some (vi (f (681 * t + 73 + (2 * i)))), some (vi (f (681 * t + 73 + (2 * i) + 1)))]) (st' := [vr o]) rfl ?_
                  refine M.get fl_X11_39 rfl (isM_o hMx) (kf := 22) (v := vr (am 22)) rfl ?_
                  refine M.run 3 (pc' := 255) (lv' := [some (vr o), some (vi ((t : Nat) : Int)), some (vi ((cl : Nat) : Int)), some (vi ((681 * t + 1 + 3 * cl : Nat) : Int)), some (vi ((681 * t + 73 : Nat) : Int)), some (vi ((n - 2 : Nat) : Int)), some (vi ((m : Nat) : Int)), some (vi ((i : Nat) : Int)), some (vi (f (681 * t + 73 + (2 * i)))), some (vi (f (681 * t + 73 + (2 * i) + 1)))]) (st' := [vr o, vi (f (681 * t + 73 + (2 * i))), vi ((m : Nat) : Int), vr (am 22)]) rfl ?_
                  refine M.get fl_X11_35 rfl (isM_o hMx) (kf := 21) (v := vr (am 21)) rfl ?_
                  refine M.run 1 (pc' := 260) (lv' := [some (vr o), some (vi ((t : Nat) : Int)), some (vi ((cl : Nat) : Int)), some (vi ((681 * t + 1 + 3 * cl : Nat) : Int)), some (vi ((681 * t + 73 : Nat) : Int)), some (vi ((n - 2 : Nat) : Int)), some (vi ((m : Nat) : Int)), some (vi ((i : Nat) : Int)), some (vi (f (681 * t + 73 + (2 * i)))), some (vi (f (681 * t + 73 + (2 * i) + 1)))]) (st' := [vi ((n - 2 : Nat) : Int), vr (am 21), vi (f (681 * t + 73 + (2 * i))), vi ((m : Nat) : Int), vr (am 22)]) rfl ?_
                  refine M.laldN (n - 2) rfl (isM_21 hMx) (by omega) (by decide) ?_
                  refine M.run 1 (pc' := 262) (lv' := [some (vr o), some (vi ((t : Nat) : Int)), some (vi ((cl : Nat) : Int)), some (vi ((681 * t + 1 + 3 * cl : Nat) : Int)), some (vi ((681 * t + 73 : Nat) : Int)), some (vi ((n - 2 : Nat) : Int)), some (vi ((m : Nat) : Int)), some (vi ((i : Nat) : Int)), some (vi (f (681 * t + 73 + (2 * i)))), some (vi (f (681 * t + 73 + (2 * i) + 1)))]) (st' := [vr o, vl ((bx 21) (n - 2)), vi (f (681 * t + 73 + (2 * i))), vi ((m : Nat) : Int), vr (am 22)]) rfl ?_
                  refine M.get fl_X11_35 rfl (isM_o hMx) (kf := 21) (v := vr (am 21)) rfl ?_
                  refine M.run 3 (pc' := 269) (lv' := [some (vr o), some (vi ((t : Nat) : Int)), some (vi ((cl : Nat) : Int)), some (vi ((681 * t + 1 + 3 * cl : Nat) : Int)), some (vi ((681 * t + 73 : Nat) : Int)), some (vi ((n - 2 : Nat) : Int)), some (vi ((m : Nat) : Int)), some (vi ((i : Nat) : Int)), some (vi (f (681 * t + 73 + (2 * i)))), some (vi (f (681 * t + 73 + (2 * i) + 1)))]) (st' := [vi (((n - 2 : Nat) : Int) + 1), vr (am 21), vl ((bx 21) (n - 2)), vi (f (681 * t + 73 + (2 * i))), vi ((m : Nat) : Int), vr (am 22)]) rfl ?_
                  rw [show ((n - 2 : Nat) : Int) + 1 = ((n - 1 : Nat) : Int) from by omega]
                  refine M.laldN (n - 1) rfl (isM_21 hMx) (by omega) (by decide) ?_
                  refine M.callS (kX11_isAsked l G (f (681 * t + 73 + (2 * i))) ((bx 21) (n - 2)) ((bx 21) (n - 1)) (by omega) (by assumption) (by assumption)) cs_X11_261 cd_X11_isAsked rfl (st := [vi ((m : Nat) : Int), vr (am 22)]) rfl (by decide) (by decide) rfl (Nat.zero_le _) (Nat.zero_le _) trivial (fun r11 w12 q13 => ?_)
                  rw [q13.1, q13.2]
                  refine M.zastN (m) rfl (isM_22 hMx) (zb_01 _) (by omega) (by decide) ?_
                  have hM16 := isM_setB (k := 22) (t := 2) (n := 330) hMx (by decide) (uN (bx 22) m (zb (askI (f (681 * t + 73 + (2 * i))) ((bx 21) (n - 2)) ((bx 21) (n - 1)))))
                  generalize up ww (am 22) (Ar 2 330 (uN (bx 22) m (zb (askI (f (681 * t + 73 + (2 * i))) ((bx 21) (n - 2)) ((bx 21) (n - 1)))))) = w15 at hM16 ⊢
                  refine M.run 4 (pc' := 38) (lv' := [some (vr o), some (vi ((t : Nat) : Int)), some (vi ((cl : Nat) : Int)), some (vi ((681 * t + 1 + 3 * cl : Nat) : Int)), some (vi ((681 * t + 73 : Nat) : Int)), some (vi ((n - 2 : Nat) : Int)), some (vi (((m : Nat) : Int) + 1)), some (vi (((i : Nat) : Int) + 1)), some (vi (f (681 * t + 73 + (2 * i)))), some (vi (f (681 * t + 73 + (2 * i) + 1)))]) (st' := []) rfl ?_
                  refine M.fgt [false, false, false, false, false, false, false, false, true, true] ?_
                  exact ih38 (uB bx 22 (uN (bx 22) m (zb (askI (f (681 * t + 73 + (2 * i))) ((bx 21) (n - 2)) ((bx 21) (n - 1)))))) w15 (n - 2) (m + 1) (i + 1) hM16 (by first | exact hbx | exact fun k k1 k2 => (if_neg k1).trans (hbx k k1 k2) | exact fun k k1 k2 => (if_neg k2).trans (hbx k k1 k2)) hb2x hb20x hr2 hB2 (by omega) (by omega) (by omega)
              · skip
                obtain ⟨hn2, hS2⟩ := xst_6 hs2 (by omega) (by omega)
                subst hS2
                have hvb1 : bd6 (bx 21 (n - 1)) := hB.1 (n - 1) (by show n - 1 < n; omega)
                have hvb2 : bd6 (bx 21 (n - 2)) := hB.1 (n - 2) (by show n - 2 < n; omega)
                refine M.run 1 (pc' := 203) (lv' := [some (vr o), some (vi ((t : Nat) : Int)), some (vi ((cl : Nat) : Int)), some (vi ((681 * t + 1 + 3 * cl : Nat) : Int)), some (vi ((681 * t + 73 : Nat) : Int)), some (vi (((n : Nat) : Int) + (-1))), some (vi ((m : Nat) : Int)), some (vi ((i : Nat) : Int)), some (vi (f (681 * t + 73 + (2 * i)))), some (vi (f (681 * t + 73 + (2 * i) + 1)))]) (st' := []) rfl ?_
                rw [show ((n : Nat) : Int) + (-1) = ((n - 1 : Nat) : Int) from by omega]
                refine M.run 1 (pc' := 204) (lv' := [some (vr o), some (vi ((t : Nat) : Int)), some (vi ((cl : Nat) : Int)), some (vi ((681 * t + 1 + 3 * cl : Nat) : Int)), some (vi ((681 * t + 73 : Nat) : Int)), some (vi ((n - 1 : Nat) : Int)), some (vi ((m : Nat) : Int)), some (vi ((i : Nat) : Int)), some (vi (f (681 * t + 73 + (2 * i)))), some (vi (f (681 * t + 73 + (2 * i) + 1)))]) (st' := [vr o]) rfl ?_
                refine M.get fl_X11_35 rfl (isM_o hMx) (kf := 21) (v := vr (am 21)) rfl ?_
                refine M.run 3 (pc' := 211) (lv' := [some (vr o), some (vi ((t : Nat) : Int)), some (vi ((cl : Nat) : Int)), some (vi ((681 * t + 1 + 3 * cl : Nat) : Int)), some (vi ((681 * t + 73 : Nat) : Int)), some (vi ((n - 1 : Nat) : Int)), some (vi ((m : Nat) : Int)), some (vi ((i : Nat) : Int)), some (vi (f (681 * t + 73 + (2 * i)))), some (vi (f (681 * t + 73 + (2 * i) + 1)))]) (st' := [vi (((n - 1 : Nat) : Int) - 1), vr (am 21)]) rfl ?_
                rw [show ((n - 1 : Nat) : Int) - 1 = ((n - 2 : Nat) : Int) from by omega]
                refine M.run 2 (pc' := 214) (lv' := [some (vr o), some (vi ((t : Nat) : Int)), some (vi ((cl : Nat) : Int)), some (vi ((681 * t + 1 + 3 * cl : Nat) : Int)), some (vi ((681 * t + 73 : Nat) : Int)), some (vi ((n - 1 : Nat) : Int)), some (vi ((m : Nat) : Int)), some (vi ((i : Nat) : Int)), some (vi (f (681 * t + 73 + (2 * i)))), some (vi (f (681 * t + 73 + (2 * i) + 1)))]) (st' := [vr o, vi (f (681 * t + 73 + (2 * i))), vi ((n - 2 : Nat) : Int), vr (am 21)]) rfl ?_
                refine M.get fl_X11_35 rfl (isM_o hMx) (kf := 21) (v := vr (am 21)) rfl ?_
                refine M.run 3 (pc' := 221) (lv' := [some (vr o), some (vi ((t : Nat) : Int)), some (vi ((cl : Nat) : Int)), some (vi ((681 * t + 1 + 3 * cl : Nat) : Int)), some (vi ((681 * t + 73 : Nat) : Int)), some (vi ((n - 1 : Nat) : Int)), some (vi ((m : Nat) : Int)), some (vi ((i : Nat) : Int)), some (vi (f (681 * t + 73 + (2 * i)))), some (vi (f (681 * t + 73 + (2 * i) + 1)))]) (st' := [vi (((n - 1 : Nat) : Int) - 1), vr (am 21), vi (f (681 * t + 73 + (2 * i))), vi ((n - 2 : Nat) : Int), vr (am 21)]) rfl ?_
                rw [show ((n - 1 : Nat) : Int) - 1 = ((n - 2 : Nat) : Int) from by omega]
                refine M.laldN (n - 2) rfl (isM_21 hMx) (by omega) (by decide) ?_
                refine M.run 1 (pc' := 223) (lv' := [some (vr o), some (vi ((t : Nat) : Int)), some (vi ((cl : Nat) : Int)), some (vi ((681 * t + 1 + 3 * cl : Nat) : Int)), some (vi ((681 * t + 73 : Nat) : Int)), some (vi ((n - 1 : Nat) : Int)), some (vi ((m : Nat) : Int)), some (vi ((i : Nat) : Int)), some (vi (f (681 * t + 73 + (2 * i)))), some (vi (f (681 * t + 73 + (2 * i) + 1)))]) (st' := [vr o, vl ((bx 21) (n - 2)), vi (f (681 * t + 73 + (2 * i))), vi ((n - 2 : Nat) : Int), vr (am 21)]) rfl ?_
                refine M.get fl_X11_35 rfl (isM_o hMx) (kf := 21) (v := vr (am 21)) rfl ?_
                refine M.run 1 (pc' := 228) (lv' := [some (vr o), some (vi ((t : Nat) : Int)), some (vi ((cl : Nat) : Int)), some (vi ((681 * t + 1 + 3 * cl : Nat) : Int)), some (vi ((681 * t + 73 : Nat) : Int)), some (vi ((n - 1 : Nat) : Int)), some (vi ((m : Nat) : Int)), some (vi ((i : Nat) : Int)), some (vi (f (681 * t + 73 + (2 * i)))), some (vi (f (681 * t + 73 + (2 * i) + 1)))]) (st' := [vi ((n - 1 : Nat) : Int), vr (am 21), vl ((bx 21) (n - 2)), vi (f (681 * t + 73 + (2 * i))), vi ((n - 2 : Nat) : Int), vr (am 21)]) rfl ?_
                refine M.laldN (n - 1) rfl (isM_21 hMx) (by omega) (by decide) ?_
                refine M.callS (kX11_two l G (f (681 * t + 73 + (2 * i))) ((bx 21) (n - 2)) ((bx 21) (n - 1)) (by omega) (by assumption) (by assumption)) cs_X11_257 cd_X11_two rfl (st := [vi ((n - 2 : Nat) : Int), vr (am 21)]) rfl (by decide) (by decide) rfl (Nat.zero_le _) (Nat.zero_le _) trivial (fun r17 w18 q19 => ?_)
                rw [q19.1, q19.2]
                refine M.lastN (n - 2) rfl (isM_21 hMx) (by omega) (by decide) ?_
                have hM22 := isM_setB (k := 21) (t := 1) (n := 330) hMx (by decide) (uN (bx 21) (n - 2) (twoI (f (681 * t + 73 + (2 * i))) ((bx 21) (n - 2)) ((bx 21) (n - 1))))
                generalize up ww (am 21) (Ar 1 330 (uN (bx 21) (n - 2) (twoI (f (681 * t + 73 + (2 * i))) ((bx 21) (n - 2)) ((bx 21) (n - 1))))) = w21 at hM22 ⊢
                refine M.run 3 (pc' := 38) (lv' := [some (vr o), some (vi ((t : Nat) : Int)), some (vi ((cl : Nat) : Int)), some (vi ((681 * t + 1 + 3 * cl : Nat) : Int)), some (vi ((681 * t + 73 : Nat) : Int)), some (vi ((n - 1 : Nat) : Int)), some (vi ((m : Nat) : Int)), some (vi (((i : Nat) : Int) + 1)), some (vi (f (681 * t + 73 + (2 * i)))), some (vi (f (681 * t + 73 + (2 * i) + 1)))]) (st' := []) rfl ?_
                refine M.fgt [false, false, false, false, false, false, false, false, true, true] ?_
                exact ih38 (uB bx 21 (uN (bx 21) (n - 2) (twoI (f (681 * t + 73 + (2 * i))) ((bx 21) (n - 2)) ((bx 21) (n - 1))))) w21 (n - 1) m (i + 1) hM22 (by first | exact hbx | exact fun k k1 k2 => (if_neg k1).trans (hbx k k1 k2) | exact fun k k1 k2 => (if_neg k2).trans (hbx k k1 k2)) hb2x hb20x hr2 hB2 (by omega) (by omega) (by omega)
            · skip
              obtain ⟨hn2, hS2⟩ := xst_5 hs2 (by omega) (by omega) (by omega)
              subst hS2
              have hvb1 : bd6 (bx 21 (n - 1)) := hB.1 (n - 1) (by show n - 1 < n; omega)
              refine M.run 1 (pc' := 167) (lv' := [some (vr o), some (vi ((t : Nat) : Int)), some (vi ((cl : Nat) : Int)), some (vi ((681 * t + 1 + 3 * cl : Nat) : Int)), some (vi ((681 * t + 73 : Nat) : Int)), some (vi ((n : Nat) : Int)), some (vi ((m : Nat) : Int)), some (vi ((i : Nat) : Int)), some (vi (f (681 * t + 73 + (2 * i)))), some (vi (f (681 * t + 73 + (2 * i) + 1)))]) (st' := [vr o]) rfl ?_
              refine M.get fl_X11_35 rfl (isM_o hMx) (kf := 21) (v := vr (am 21)) rfl ?_
              refine M.run 3 (pc' := 174) (lv' := [some (vr o), some (vi ((t : Nat) : Int)), some (vi ((cl : Nat) : Int)), some (vi ((681 * t + 1 + 3 * cl : Nat) : Int)), some (vi ((681 * t + 73 : Nat) : Int)), some (vi ((n : Nat) : Int)), some (vi ((m : Nat) : Int)), some (vi ((i : Nat) : Int)), some (vi (f (681 * t + 73 + (2 * i)))), some (vi (f (681 * t + 73 + (2 * i) + 1)))]) (st' := [vi (((n : Nat) : Int) - 1), vr (am 21)]) rfl ?_
              rw [show ((n : Nat) : Int) - 1 = ((n - 1 : Nat) : Int) from by omega]
              refine M.run 3 (pc' := 178) (lv' := [some (vr o), some (vi ((t : Nat) : Int)), some (vi ((cl : Nat) : Int)), some (vi ((681 * t + 1 + 3 * cl : Nat) : Int)), some (vi ((681 * t + 73 : Nat) : Int)), some (vi ((n : Nat) : Int)), some (vi ((m : Nat) : Int)), some (vi ((i : Nat) : Int)), some (vi (f (681 * t + 73 + (2 * i)))), some (vi (f (681 * t + 73 + (2 * i) + 1)))]) (st' := [vr o, vi (f (681 * t + 73 + (2 * i))), vr o, vi ((n - 1 : Nat) : Int), vr (am 21)]) rfl ?_
              refine M.get fl_X11_35 rfl (isM_o hMx) (kf := 21) (v := vr (am 21)) rfl ?_
              refine M.run 3 (pc' := 185) (lv' := [some (vr o), some (vi ((t : Nat) : Int)), some (vi ((cl : Nat) : Int)), some (vi ((681 * t + 1 + 3 * cl : Nat) : Int)), some (vi ((681 * t + 73 : Nat) : Int)), some (vi ((n : Nat) : Int)), some (vi ((m : Nat) : Int)), some (vi ((i : Nat) : Int)), some (vi (f (681 * t + 73 + (2 * i)))), some (vi (f (681 * t + 73 + (2 * i) + 1)))]) (st' := [vi (((n : Nat) : Int) - 1), vr (am 21), vi (f (681 * t + 73 + (2 * i))), vr o, vi ((n - 1 : Nat) : Int), vr (am 21)]) rfl ?_
              rw [show ((n : Nat) : Int) - 1 = ((n - 1 : Nat) : Int) from by omega]
              refine M.laldN (n - 1) rfl (isM_21 hMx) (by omega) (by decide) ?_
              refine M.callV (kX11_ofOne l G o am u a bx (f (681 * t + 73 + (2 * i))) ((bx 21) (n - 1)) (by omega) (by assumption) hk) cv_X11_253 cd_X11_ofOne rfl (st := [vi ((n - 1 : Nat) : Int), vr (am 21)]) rfl (isM_o hMx) (by decide) (by decide) rfl (Nat.zero_le _) (Nat.zero_le _) hMx (fun r23 w24 q25 => ?_)
              rw [q25.1, q25.2]
              refine M.lastN (n - 1) rfl (isM_21 hMx) (by omega) (by decide) ?_
              have hM28 := isM_setB (k := 21) (t := 1) (n := 330) hMx (by decide) (uN (bx 21) (n - 1) (oneI (ofA a) (f (681 * t + 73 + (2 * i))) ((bx 21) (n - 1))))
              generalize up ww (am 21) (Ar 1 330 (uN (bx 21) (n - 1) (oneI (ofA a) (f (681 * t + 73 + (2 * i))) ((bx 21) (n - 1))))) = w27 at hM28 ⊢
              refine M.run 3 (pc' := 38) (lv' := [some (vr o), some (vi ((t : Nat) : Int)), some (vi ((cl : Nat) : Int)), some (vi ((681 * t + 1 + 3 * cl : Nat) : Int)), some (vi ((681 * t + 73 : Nat) : Int)), some (vi ((n : Nat) : Int)), some (vi ((m : Nat) : Int)), some (vi (((i : Nat) : Int) + 1)), some (vi (f (681 * t + 73 + (2 * i)))), some (vi (f (681 * t + 73 + (2 * i) + 1)))]) (st' := []) rfl ?_
              refine M.fgt [false, false, false, false, false, false, false, false, true, true] ?_
              exact ih38 (uB bx 21 (uN (bx 21) (n - 1) (oneI (ofA a) (f (681 * t + 73 + (2 * i))) ((bx 21) (n - 1))))) w27 n m (i + 1) hM28 (by first | exact hbx | exact fun k k1 k2 => (if_neg k1).trans (hbx k k1 k2) | exact fun k k1 k2 => (if_neg k2).trans (hbx k k1 k2)) hb2x hb20x hr2 hB2 (by omega) (by omega) (by omega)
          · skip
            obtain ⟨hn2, hm1, hS2⟩ := xst_3 hs2 (by omega)
            subst hS2
            have htb1 : bx 22 (m - 1) = 0 ∨ bx 22 (m - 1) = 1 := hB.2 (m - 1) (by show m - 1 < m; omega)
            refine M.run 2 (pc' := 131) (lv' := [some (vr o), some (vi ((t : Nat) : Int)), some (vi ((cl : Nat) : Int)), some (vi ((681 * t + 1 + 3 * cl : Nat) : Int)), some (vi ((681 * t + 73 : Nat) : Int)), some (vi (((n : Nat) : Int) + (-1))), some (vi (((m : Nat) : Int) + (-1))), some (vi ((i : Nat) : Int)), some (vi (f (681 * t + 73 + (2 * i)))), some (vi (f (681 * t + 73 + (2 * i) + 1)))]) (st' := []) rfl ?_
            rw [show ((n : Nat) : Int) + (-1) = ((n - 1 : Nat) : Int) from by omega]
            rw [show ((m : Nat) : Int) + (-1) = ((m - 1 : Nat) : Int) from by omega]
            refine M.run 1 (pc' := 132) (lv' := [some (vr o), some (vi ((t : Nat) : Int)), some (vi ((cl : Nat) : Int)), some (vi ((681 * t + 1 + 3 * cl : Nat) : Int)), some (vi ((681 * t + 73 : Nat) : Int)), some (vi ((n - 1 : Nat) : Int)), some (vi ((m - 1 : Nat) : Int)), some (vi ((i : Nat) : Int)), some (vi (f (681 * t + 73 + (2 * i)))), some (vi (f (681 * t + 73 + (2 * i) + 1)))]) (st' := [vr o]) rfl ?_
            refine M.get fl_X11_39 rfl (isM_o hMx) (kf := 22) (v := vr (am 22)) rfl ?_
            refine M.run 1 (pc' := 137) (lv' := [some (vr o), some (vi ((t : Nat) : Int)), some (vi ((cl : Nat) : Int)), some (vi ((681 * t + 1 + 3 * cl : Nat) : Int)), some (vi ((681 * t + 73 : Nat) : Int)), some (vi ((n - 1 : Nat) : Int)), some (vi ((m - 1 : Nat) : Int)), some (vi ((i : Nat) : Int)), some (vi (f (681 * t + 73 + (2 * i)))), some (vi (f (681 * t + 73 + (2 * i) + 1)))]) (st' := [vi ((m - 1 : Nat) : Int), vr (am 22)]) rfl ?_
            refine M.zaldN (m - 1) rfl (isM_22 hMx) (by omega) (by decide) ?_
            refine M.if_ne (tgt := 349) rfl (qI (by omega)) (by decide) (fun h138 => ?_) (fun h138 => ?_)
            · skip
              rw [if_neg h138] at hr2 hB2
              refine M.run 2 (pc' := 38) (lv' := [some (vr o), some (vi ((t : Nat) : Int)), some (vi ((cl : Nat) : Int)), some (vi ((681 * t + 1 + 3 * cl : Nat) : Int)), some (vi ((681 * t + 73 : Nat) : Int)), some (vi ((n - 1 : Nat) : Int)), some (vi ((m - 1 : Nat) : Int)), some (vi (((i : Nat) : Int) + 1)), some (vi (f (681 * t + 73 + (2 * i)))), some (vi (f (681 * t + 73 + (2 * i) + 1)))]) (st' := []) rfl ?_
              refine M.fgt [false, false, false, false, false, false, false, false, true, true] ?_
              exact ih38 bx ww (n - 1) (m - 1) (i + 1) hMx (by first | exact hbx | exact fun k k1 k2 => (if_neg k1).trans (hbx k k1 k2) | exact fun k k1 k2 => (if_neg k2).trans (hbx k k1 k2)) hb2x hb20x hr2 hB2 (by omega) (by omega) (by omega)
            · skip
              rw [if_pos h138] at hr2 hB2
              refine M.run 1 (pc' := 142) (lv' := [some (vr o), some (vi ((t : Nat) : Int)), some (vi ((cl : Nat) : Int)), some (vi ((681 * t + 1 + 3 * cl : Nat) : Int)), some (vi ((681 * t + 73 : Nat) : Int)), some (vi ((n - 1 : Nat) : Int)), some (vi ((m - 1 : Nat) : Int)), some (vi ((i : Nat) : Int)), some (vi (f (681 * t + 73 + (2 * i)))), some (vi (f (681 * t + 73 + (2 * i) + 1)))]) (st' := [vr o]) rfl ?_
              refine M.get fl_X11_35 rfl (isM_o hMx) (kf := 21) (v := vr (am 21)) rfl ?_
              refine M.run 3 (pc' := 149) (lv' := [some (vr o), some (vi ((t : Nat) : Int)), some (vi ((cl : Nat) : Int)), some (vi ((681 * t + 1 + 3 * cl : Nat) : Int)), some (vi ((681 * t + 73 : Nat) : Int)), some (vi ((n - 1 : Nat) : Int)), some (vi ((m - 1 : Nat) : Int)), some (vi ((i : Nat) : Int)), some (vi (f (681 * t + 73 + (2 * i)))), some (vi (f (681 * t + 73 + (2 * i) + 1)))]) (st' := [vi (((n - 1 : Nat) : Int) - 1), vr (am 21)]) rfl ?_
              rw [show ((n - 1 : Nat) : Int) - 1 = ((n - 2 : Nat) : Int) from by omega]
              refine M.run 1 (pc' := 150) (lv' := [some (vr o), some (vi ((t : Nat) : Int)), some (vi ((cl : Nat) : Int)), some (vi ((681 * t + 1 + 3 * cl : Nat) : Int)), some (vi ((681 * t + 73 : Nat) : Int)), some (vi ((n - 1 : Nat) : Int)), some (vi ((m - 1 : Nat) : Int)), some (vi ((i : Nat) : Int)), some (vi (f (681 * t + 73 + (2 * i)))), some (vi (f (681 * t + 73 + (2 * i) + 1)))]) (st' := [vr o, vi ((n - 2 : Nat) : Int), vr (am 21)]) rfl ?_
              refine M.get fl_X11_35 rfl (isM_o hMx) (kf := 21) (v := vr (am 21)) rfl ?_
              refine M.run 1 (pc' := 155) (lv' := [some (vr o), some (vi ((t : Nat) : Int)), some (vi ((cl : Nat) : Int)), some (vi ((681 * t + 1 + 3 * cl : Nat) : Int)), some (vi ((681 * t + 73 : Nat) : Int)), some (vi ((n - 1 : Nat) : Int)), some (vi ((m - 1 : Nat) : Int)), some (vi ((i : Nat) : Int)), some (vi (f (681 * t + 73 + (2 * i)))), some (vi (f (681 * t + 73 + (2 * i) + 1)))]) (st' := [vi ((n - 1 : Nat) : Int), vr (am 21), vi ((n - 2 : Nat) : Int), vr (am 21)]) rfl ?_
              refine M.laldN (n - 1) rfl (isM_21 hMx) (by omega) (by decide) ?_
              refine M.lastN (n - 2) rfl (isM_21 hMx) (by omega) (by decide) ?_
              have hM30 := isM_setB (k := 21) (t := 1) (n := 330) hMx (by decide) (uN (bx 21) (n - 2) ((bx 21) (n - 1)))
              generalize up ww (am 21) (Ar 1 330 (uN (bx 21) (n - 2) ((bx 21) (n - 1)))) = w29 at hM30 ⊢
              refine M.run 3 (pc' := 38) (lv' := [some (vr o), some (vi ((t : Nat) : Int)), some (vi ((cl : Nat) : Int)), some (vi ((681 * t + 1 + 3 * cl : Nat) : Int)), some (vi ((681 * t + 73 : Nat) : Int)), some (vi ((n - 1 : Nat) : Int)), some (vi ((m - 1 : Nat) : Int)), some (vi (((i : Nat) : Int) + 1)), some (vi (f (681 * t + 73 + (2 * i)))), some (vi (f (681 * t + 73 + (2 * i) + 1)))]) (st' := []) rfl ?_
              refine M.fgt [false, false, false, false, false, false, false, false, true, true] ?_
              exact ih38 (uB bx 21 (uN (bx 21) (n - 2) ((bx 21) (n - 1)))) w29 (n - 1) (m - 1) (i + 1) hM30 (by first | exact hbx | exact fun k k1 k2 => (if_neg k1).trans (hbx k k1 k2) | exact fun k k1 k2 => (if_neg k2).trans (hbx k k1 k2)) hb2x hb20x hr2 hB2 (by omega) (by omega) (by omega)
        · skip
          refine M.run 1 (pc' := 88) (lv' := [some (vr o), some (vi ((t : Nat) : Int)), some (vi ((cl : Nat) : Int)), some (vi ((681 * t + 1 + 3 * cl : Nat) : Int)), some (vi ((681 * t + 73 : Nat) : Int)), some (vi ((n : Nat) : Int)), some (vi ((m : Nat) : Int)), some (vi ((i : Nat) : Int)), some (vi (f (681 * t + 73 + (2 * i)))), some (vi (f (681 * t + 73 + (2 * i) + 1)))]) (st' := [vr o]) rfl ?_
          refine M.get fl_X11_35 rfl (isM_o hMx) (kf := 21) (v := vr (am 21)) rfl ?_
          refine M.run 2 (pc' := 95) (lv' := [some (vr o), some (vi ((t : Nat) : Int)), some (vi ((cl : Nat) : Int)), some (vi ((681 * t + 1 + 3 * cl : Nat) : Int)), some (vi ((681 * t + 73 : Nat) : Int)), some (vi ((n : Nat) : Int)), some (vi ((m : Nat) : Int)), some (vi ((i : Nat) : Int)), some (vi (f (681 * t + 73 + (2 * i)))), some (vi (f (681 * t + 73 + (2 * i) + 1)))]) (st' := [vi (f (681 * t + 73 + (2 * i))), vi ((n : Nat) : Int), vr (am 21)]) rfl ?_
          refine M.if_ne (tgt := 104) rfl (qI (by omega)) (by decide) (fun h95 => ?_) (fun h95 => ?_)
          · skip
            have hS2 := xst_1 hs2 (by omega)
            subst hS2
            have hnv := hus i (by omega) (by omega) (by omega)
            have hnv1 := hnv.1
            have hnv2 := hnv.2
            refine M.run 1 (pc' := 105) (lv' := [some (vr o), some (vi ((t : Nat) : Int)), some (vi ((cl : Nat) : Int)), some (vi ((681 * t + 1 + 3 * cl : Nat) : Int)), some (vi ((681 * t + 73 : Nat) : Int)), some (vi ((n : Nat) : Int)), some (vi ((m : Nat) : Int)), some (vi ((i : Nat) : Int)), some (vi (f (681 * t + 73 + (2 * i)))), some (vi (f (681 * t + 73 + (2 * i) + 1)))]) (st' := [vr o, vi ((n : Nat) : Int), vr (am 21)]) rfl ?_
            refine M.get fl_X11_32 rfl (isM_o hMx) (kf := 20) (v := vr (am 20)) rfl ?_
            refine M.run 1 (pc' := 110) (lv' := [some (vr o), some (vi ((t : Nat) : Int)), some (vi ((cl : Nat) : Int)), some (vi ((681 * t + 1 + 3 * cl : Nat) : Int)), some (vi ((681 * t + 73 : Nat) : Int)), some (vi ((n : Nat) : Int)), some (vi ((m : Nat) : Int)), some (vi ((i : Nat) : Int)), some (vi (f (681 * t + 73 + (2 * i)))), some (vi (f (681 * t + 73 + (2 * i) + 1)))]) (st' := [vi (f (681 * t + 73 + (2 * i) + 1)), vr (am 20), vi ((n : Nat) : Int), vr (am 21)]) rfl ?_
            rw [show f (681 * t + 73 + (2 * i) + 1) = (((f (681 * t + 73 + (2 * i) + 1)).toNat : Nat) : Int) from (Int.toNat_of_nonneg (by omega)).symm]
            refine M.ialdN ((f (681 * t + 73 + (2 * i) + 1)).toNat) rfl ((isM_20 hMx).trans (congrArg (fun z => some (Ar 0 7 z)) hb20x)) (by omega) (by decide) ?_
            refine M.i2l rfl (qI (by omega)) ?_
            refine M.lastN (n) rfl (isM_21 hMx) (by omega) (by decide) ?_
            have hM32 := isM_setB (k := 21) (t := 1) (n := 330) hMx (by decide) (uN (bx 21) n (nm ((f (681 * t + 73 + (2 * i) + 1)).toNat)))
            generalize up ww (am 21) (Ar 1 330 (uN (bx 21) n (nm ((f (681 * t + 73 + (2 * i) + 1)).toNat)))) = w31 at hM32 ⊢
            refine M.run 4 (pc' := 38) (lv' := [some (vr o), some (vi ((t : Nat) : Int)), some (vi ((cl : Nat) : Int)), some (vi ((681 * t + 1 + 3 * cl : Nat) : Int)), some (vi ((681 * t + 73 : Nat) : Int)), some (vi (((n : Nat) : Int) + 1)), some (vi ((m : Nat) : Int)), some (vi (((i : Nat) : Int) + 1)), some (vi (f (681 * t + 73 + (2 * i)))), some (vi (((f (681 * t + 73 + (2 * i) + 1)).toNat : Nat) : Int))]) (st' := []) rfl ?_
            refine M.fgt [false, false, false, false, false, false, false, false, true, true] ?_
            exact ih38 (uB bx 21 (uN (bx 21) n (nm ((f (681 * t + 73 + (2 * i) + 1)).toNat)))) w31 (n + 1) m (i + 1) hM32 (by first | exact hbx | exact fun k k1 k2 => (if_neg k1).trans (hbx k k1 k2) | exact fun k k1 k2 => (if_neg k2).trans (hbx k k1 k2)) hb2x hb20x hr2 hB2 (by omega) (by omega) (by omega)
          · skip
            have hS2 := xst_0 hs2 (by omega)
            subst hS2
            refine M.run 1 (pc' := 100) (lv' := [some (vr o), some (vi ((t : Nat) : Int)), some (vi ((cl : Nat) : Int)), some (vi ((681 * t + 1 + 3 * cl : Nat) : Int)), some (vi ((681 * t + 73 : Nat) : Int)), some (vi ((n : Nat) : Int)), some (vi ((m : Nat) : Int)), some (vi ((i : Nat) : Int)), some (vi (f (681 * t + 73 + (2 * i)))), some (vi (f (681 * t + 73 + (2 * i) + 1)))]) (st' := [vi (f (681 * t + 73 + (2 * i) + 1)), vi ((n : Nat) : Int), vr (am 21)]) rfl ?_
            refine M.i2l rfl (qI (by omega)) ?_
            refine M.run 1 (pc' := 112) (lv' := [some (vr o), some (vi ((t : Nat) : Int)), some (vi ((cl : Nat) : Int)), some (vi ((681 * t + 1 + 3 * cl : Nat) : Int)), some (vi ((681 * t + 73 : Nat) : Int)), some (vi ((n : Nat) : Int)), some (vi ((m : Nat) : Int)), some (vi ((i : Nat) : Int)), some (vi (f (681 * t + 73 + (2 * i)))), some (vi (f (681 * t + 73 + (2 * i) + 1)))]) (st' := [vl (f (681 * t + 73 + (2 * i) + 1)), vi ((n : Nat) : Int), vr (am 21)]) rfl ?_
            refine M.lastN (n) rfl (isM_21 hMx) (by omega) (by decide) ?_
            have hM34 := isM_setB (k := 21) (t := 1) (n := 330) hMx (by decide) (uN (bx 21) n (f (681 * t + 73 + (2 * i) + 1)))
            generalize up ww (am 21) (Ar 1 330 (uN (bx 21) n (f (681 * t + 73 + (2 * i) + 1)))) = w33 at hM34 ⊢
            refine M.run 4 (pc' := 38) (lv' := [some (vr o), some (vi ((t : Nat) : Int)), some (vi ((cl : Nat) : Int)), some (vi ((681 * t + 1 + 3 * cl : Nat) : Int)), some (vi ((681 * t + 73 : Nat) : Int)), some (vi (((n : Nat) : Int) + 1)), some (vi ((m : Nat) : Int)), some (vi (((i : Nat) : Int) + 1)), some (vi (f (681 * t + 73 + (2 * i)))), some (vi (f (681 * t + 73 + (2 * i) + 1)))]) (st' := []) rfl ?_
            refine M.fgt [false, false, false, false, false, false, false, false, true, true] ?_
            exact ih38 (uB bx 21 (uN (bx 21) n (f (681 * t + 73 + (2 * i) + 1)))) w33 (n + 1) m (i + 1) hM34 (by first | exact hbx | exact fun k k1 k2 => (if_neg k1).trans (hbx k k1 k2) | exact fun k k1 k2 => (if_neg k2).trans (hbx k k1 k2)) hb2x hb20x hr2 hB2 (by omega) (by omega) (by omega)
  exact Lp38 _ b w 0 0 s hM (fun _ _ _ => rfl) hb2 hb20 hrn ⟨fun k hk => absurd hk (Nat.not_lt_zero _), fun k hk => absurd hk (Nat.not_lt_zero _)⟩ (by omega) (by omega) (Nat.lt_succ_self _)
