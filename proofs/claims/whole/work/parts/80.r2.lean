def gTk (L : List (Int × Int × Int)) (j : Nat) : Int × Int × Int := L.getD j (51, 0, 0)
theorem gTk_app {L M : List (Int × Int × Int)} {j : Nat} (h : j < L.length) : gTk (L ++ M) j = gTk L j := by
  show (L ++ M).getD j (51, 0, 0) = L.getD j (51, 0, 0)
  rw [List.getD_eq_getElem?_getD, List.getD_eq_getElem?_getD, List.getElem?_append_left h]
theorem gTk_last {L : List (Int × Int × Int)} {x : Int × Int × Int} : gTk (L ++ [x]) L.length = x := by
  show (L ++ [x]).getD L.length (51, 0, 0) = x
  rw [List.getD_eq_getElem?_getD, List.getElem?_append_right (Nat.le_refl _), Nat.sub_self]
  rfl
theorem gTk_o {L : List (Int × Int × Int)} {j : Nat} (h : L.length ≤ j) : gTk L j = (51, 0, 0) := by
  show L.getD j (51, 0, 0) = _
  rw [List.getD_eq_getElem?_getD, List.getElem?_eq_none h]
  rfl
def tkH (L : List (Int × Int × Int)) (fs fv fz : Nat → Int) : Prop := ∀ j : Nat, j < L.length → fs j = (gTk L j).1 ∧ fv j = (gTk L j).2.1 ∧ fz j = (gTk L j).2.2
theorem tkH_add {L : List (Int × Int × Int)} {fs fv fz : Nat → Int} {x y z : Int} (h : tkH L fs fv fz) : tkH (L ++ [(x, y, z)]) (uN fs L.length x) (uN fv L.length y) (uN fz L.length z) := fun j hj => by
  rw [List.length_append] at hj
  replace hj : j < L.length + 1 := hj
  by_cases e : j = L.length
  · subst e
    rw [uN_s, uN_s, uN_s, gTk_last]
    exact ⟨rfl, rfl, rfl⟩
  · rw [uN_o e, uN_o e, uN_o e, gTk_app (by omega)]
    exact h j (by omega)
/-- four cells apart -/
def ap4 (p q0 q1 q2 : Nat) : Prop := p ≠ q0 ∧ p ≠ q1 ∧ p ≠ q2 ∧ q0 ≠ q1 ∧ q0 ≠ q2 ∧ q1 ≠ q2
/-- the tokens' cells -/
def tkA (p q0 q1 q2 : Nat) (L : List (Int × Int × Int)) (w : Wo) : Prop := ∃ fs fv fz, lk w p = some (Ob 7 [vr q0, vr q1, vr q2, vi ((L.length : Nat) : Int)]) ∧ lk w q0 = some (Ar 0 301 fs) ∧ lk w q1 = some (Ar 0 301 fv) ∧ lk w q2 = some (Ar 0 301 fz) ∧ L.length ≤ 301 ∧ tkH L fs fv fz
/-- all else is as before -/
def FrK (p q0 q1 q2 : Nat) (w w' : Wo) : Prop := ∀ a : Nat, a ≠ p → a ≠ q0 → a ≠ q1 → a ≠ q2 → lk w' a = lk w a
theorem FrK.rf {p q0 q1 q2 : Nat} {w : Wo} : FrK p q0 q1 q2 w w := fun _ _ _ _ _ => rfl
theorem FrK.tr {p q0 q1 q2 : Nat} {w w1 w2 : Wo} (h : FrK p q0 q1 q2 w w1) (h2 : FrK p q0 q1 q2 w1 w2) : FrK p q0 q1 q2 w w2 := fun a a1 a2 a3 a4 => (h2 a a1 a2 a3 a4).trans (h a a1 a2 a3 a4)
theorem FrK.u {p q0 q1 q2 : Nat} {w w1 : Wo} (h : FrK p q0 q1 q2 w w1) (a : Nat) {c : Ce} (ha : a = p ∨ a = q0 ∨ a = q1 ∨ a = q2) : FrK p q0 q1 q2 w (up w1 a c) := fun b a1 a2 a3 a4 => (lk_up_n (by rintro rfl; rcases ha with e | e | e | e; exact a1 e; exact a2 e; exact a3 e; exact a4 e)).trans (h b a1 a2 a3 a4)
/-- the token at p -/
def tkT (b : Nat → Int) (e p : Nat) : Int × Int × Int := if isLt (b p) then (wdM b p (tkE b e p), 0, ((p : Nat) : Int)) else if isDg (b p) then (50, fgM b p (tkE b e p - p), ((p : Nat) : Int)) else (sgM (b p) (((tkE b e p : Nat) : Int) - ((p : Nat) : Int)), 0, ((p : Nat) : Int))
/-- the tokens from p on; what lies before nx is taken -/
def cutM (b : Nat → Int) (e : Nat) : Nat → Nat → Nat → List (Int × Int × Int)
  | 0, _, _ => [(51, 0, ((e : Nat) : Int))]
  | k + 1, p, nx => if p < nx ∨ b p = 32 ∨ b p = 10 then cutM b e k (p + 1) nx else tkT b e p :: cutM b e k (p + 1) (tkE b e p)
theorem cutM_s {b : Nat → Int} {e k p nx : Nat} (hk : 0 < k) (h : p < nx ∨ b p = 32 ∨ b p = 10) : cutM b e k p nx = cutM b e (k - 1) (p + 1) nx := by
  cases k with
  | zero => omega
  | succ k => exact if_pos h
theorem cutM_t {b : Nat → Int} {e k p nx : Nat} (hk : 0 < k) (h : ¬ (p < nx ∨ b p = 32 ∨ b p = 10)) : cutM b e k p nx = tkT b e p :: cutM b e (k - 1) (p + 1) (tkE b e p) := by
  cases k with
  | zero => omega
  | succ k => exact if_neg h
theorem cutM_len {b : Nat → Int} {e : Nat} : ∀ (k p nx : Nat), (cutM b e k p nx).length ≤ k + 1
  | 0, _, _ => Nat.le_refl _
  | k + 1, p, nx => by
    unfold cutM
    split
    · have := cutM_len (b := b) (e := e) k (p + 1) nx; omega
    · have := cutM_len (b := b) (e := e) k (p + 1) (tkE b e p)
      rw [List.length_cons]; omega
theorem tkE_d {b : Nat → Int} {e p : Nat} (h : ¬ isLt (b p)) (h2 : isDg (b p)) : ∀ i : Nat, p ≤ i → i < tkE b e p → isDg (b i) := fun i h3 h4 => by
  by_cases e1 : i = p
  · rw [e1]; exact h2
  · unfold tkE at h4
    rw [if_neg h, if_pos h2] at h4
    have h5 := of_decide_eq_true (tkR_f (f := tkF b 0) _ _ i (by omega) h4)
    omega
theorem app_c {α : Type} (A : List α) (x : α) (B : List α) : A ++ x :: B = (A ++ [x]) ++ B := by
  induction A with
  | nil => rfl
  | cons a A ih => exact congrArg (List.cons a) ih
def tkL (b : Nat → Int) (e : Nat) : List (Int × Int × Int) := cutM b e e 0 0

theorem sgM_b {x n : Int} : 30 ≤ sgM x n ∧ sgM x n ≤ 52 := by
  have h : ∀ (f k : Nat), f + k ≤ 11 → 30 ≤ sgF x f k ∧ sgF x f k ≤ 52 := by
    intro f
    induction f with
    | zero => intro k _; exact ⟨by show (30 : Int) ≤ 52; decide, by show (52 : Int) ≤ 52; decide⟩
    | succ f ih =>
      intro k hk
      unfold sgF
      split
      · omega
      · exact ih (k + 1) (by omega)
  unfold sgM
  split
  · split <;> omega
  · exact h 11 0 (by decide)
theorem wdM_b {b : Nat → Int} {p q : Nat} : 0 ≤ wdM b p q ∧ wdM b p q ≤ 300 := by
  have h : ∀ (f i v s : Nat), f + i ≤ 121 → v ≤ i → 0 ≤ wdF b p q f i v s ∧ wdF b p q f i v s ≤ 300 := by
    intro f
    induction f with
    | zero => intro i v s _ _; exact ⟨by show (0 : Int) ≤ 52; decide, by show (52 : Int) ≤ 300; decide⟩
    | succ f ih =>
      intro i v s hf hv
      unfold wdF
      split
      · split
        · omega
        · exact ih _ _ _ (by omega) (by omega)
      · exact ih _ _ _ (by omega) (by omega)
  exact h 121 0 0 0 (by decide) (by decide)

set_option maxHeartbeats 4000000 in
set_option maxRecDepth 100000 in
theorem kX8_add (l : Launch) (G : GT) (p q0 q1 q2 : Nat) (hap : ap4 p q0 q1 q2) (L : List (Int × Int × Int)) (hL3 : L.length ≤ 300) (x : Int) (y : Int) (z : Int) (hx : -2147483648 ≤ x ∧ x ≤ 2147483647) (hy : -2147483648 ≤ y ∧ y ≤ 2147483647) (hz : -2147483648 ≤ z ∧ z ≤ 2147483647) : Ctr l G yX8_add cX8_add 4 ((Option.none : Option Jvm.ClassFile.FieldType)) 1 0 0 [vr p, vi x, vi y, vi z] (fun w => tkA p q0 q1 q2 L w) (fun w r w' => r = none ∧ tkA p q0 q1 q2 (L ++ [(x, y, z)]) w' ∧ FrK p q0 q1 q2 w w') := by
  refine Ctr.of (t := tX8_add) (lv0 := [some (vr p), some (vi x), some (vi y), some (vi z)]) (by decide +kernel) tX8_add_ok rfl rfl (fun w g hP M => ?_)
  obtain ⟨hp_q0, hp_q1, hp_q2, hq0_q1, hq0_q2, hq1_q2⟩ := hap
  have hq0_p := hp_q0.symm
  have hq1_p := hp_q1.symm
  have hq2_p := hp_q2.symm
  have hq1_q0 := hq0_q1.symm
  have hq2_q0 := hq0_q2.symm
  have hq2_q1 := hq1_q2.symm
  obtain ⟨fs, fv, fz, hO, hA0, hA1, hA2, hL, hH⟩ := hP
  refine M.run 1 (pc' := 1) (lv' := [some (vr p), some (vi x), some (vi y), some (vi z)]) (st' := [vr p]) rfl ?_
  refine M.get fl_X8_30 rfl hO (kf := 3) (v := vi ((L.length : Nat) : Int)) rfl ?_
  refine M.if_lt (tgt := 17) rfl (qI (by omega)) (by decide) (fun h4 => ?_) (fun h4 => ?_)
  · skip
    omega
  · skip
    refine M.run 1 (pc' := 8) (lv' := [some (vr p), some (vi x), some (vi y), some (vi z)]) (st' := [vr p]) rfl ?_
    refine M.get fl_X8_30 rfl hO (kf := 3) (v := vi ((L.length : Nat) : Int)) rfl ?_
    refine M.run 1 (pc' := 14) (lv' := [some (vr p), some (vi x), some (vi y), some (vi z)]) (st' := [vi 300, vi ((L.length : Nat) : Int)]) rfl ?_
    refine M.icmp_le (tgt := 18) rfl (qI (by omega)) (qI (by decide)) (by decide) (fun h14 => ?_) (fun h14 => ?_)
    · skip
      refine M.run 1 (pc' := 19) (lv' := [some (vr p), some (vi x), some (vi y), some (vi z)]) (st' := [vr p]) rfl ?_
      refine M.get fl_X8_9 rfl hO (kf := 0) (v := vr q0) rfl ?_
      refine M.run 1 (pc' := 23) (lv' := [some (vr p), some (vi x), some (vi y), some (vi z)]) (st' := [vr p, vr q0]) rfl ?_
      refine M.get fl_X8_30 rfl hO (kf := 3) (v := vi ((L.length : Nat) : Int)) rfl ?_
      refine M.run 1 (pc' := 27) (lv' := [some (vr p), some (vi x), some (vi y), some (vi z)]) (st' := [vi x, vi ((L.length : Nat) : Int), vr q0]) rfl ?_
      refine M.iastN (L.length) rfl hA0 (by omega) (by decide) ?_
      have f2 : lk (up w q0 (Ar 0 301 (uN fs L.length x))) p = some (Ob 7 [vr q0, vr q1, vr q2, vi ((L.length : Nat) : Int)]) := (lk_up_n hp_q0).trans hO
      have f3 : lk (up w q0 (Ar 0 301 (uN fs L.length x))) q0 = some (Ar 0 301 (uN fs L.length x)) := lk_up_s hA0
      have f4 : lk (up w q0 (Ar 0 301 (uN fs L.length x))) q1 = some (Ar 0 301 fv) := (lk_up_n hq1_q0).trans hA1
      have f5 : lk (up w q0 (Ar 0 301 (uN fs L.length x))) q2 = some (Ar 0 301 fz) := (lk_up_n hq2_q0).trans hA2
      have fr6 : FrK p q0 q1 q2 w (up w q0 (Ar 0 301 (uN fs L.length x))) := FrK.rf.u q0 (Or.inr (Or.inl rfl))
      generalize up w q0 (Ar 0 301 (uN fs L.length x)) = w1 at f2 f3 f4 f5 fr6 ⊢
      refine M.run 1 (pc' := 29) (lv' := [some (vr p), some (vi x), some (vi y), some (vi z)]) (st' := [vr p]) rfl ?_
      refine M.get fl_X8_15 rfl f2 (kf := 1) (v := vr q1) rfl ?_
      refine M.run 1 (pc' := 33) (lv' := [some (vr p), some (vi x), some (vi y), some (vi z)]) (st' := [vr p, vr q1]) rfl ?_
      refine M.get fl_X8_30 rfl f2 (kf := 3) (v := vi ((L.length : Nat) : Int)) rfl ?_
      refine M.run 1 (pc' := 37) (lv' := [some (vr p), some (vi x), some (vi y), some (vi z)]) (st' := [vi y, vi ((L.length : Nat) : Int), vr q1]) rfl ?_
      refine M.iastN (L.length) rfl f4 (by omega) (by decide) ?_
      have f8 : lk (up w1 q1 (Ar 0 301 (uN fv L.length y))) p = some (Ob 7 [vr q0, vr q1, vr q2, vi ((L.length : Nat) : Int)]) := (lk_up_n hp_q1).trans f2
      have f9 : lk (up w1 q1 (Ar 0 301 (uN fv L.length y))) q0 = some (Ar 0 301 (uN fs L.length x)) := (lk_up_n hq0_q1).trans f3
      have f10 : lk (up w1 q1 (Ar 0 301 (uN fv L.length y))) q1 = some (Ar 0 301 (uN fv L.length y)) := lk_up_s f4
      have f11 : lk (up w1 q1 (Ar 0 301 (uN fv L.length y))) q2 = some (Ar 0 301 fz) := (lk_up_n hq2_q1).trans f5
      have fr12 : FrK p q0 q1 q2 w (up w1 q1 (Ar 0 301 (uN fv L.length y))) := fr6.u q1 (Or.inr (Or.inr (Or.inl rfl)))
      generalize up w1 q1 (Ar 0 301 (uN fv L.length y)) = w7 at f8 f9 f10 f11 fr12 ⊢
      refine M.run 1 (pc' := 39) (lv' := [some (vr p), some (vi x), some (vi y), some (vi z)]) (st' := [vr p]) rfl ?_
      refine M.get fl_X8_18 rfl f8 (kf := 2) (v := vr q2) rfl ?_
      refine M.run 1 (pc' := 43) (lv' := [some (vr p), some (vi x), some (vi y), some (vi z)]) (st' := [vr p, vr q2]) rfl ?_
      refine M.get fl_X8_30 rfl f8 (kf := 3) (v := vi ((L.length : Nat) : Int)) rfl ?_
      refine M.run 1 (pc' := 47) (lv' := [some (vr p), some (vi x), some (vi y), some (vi z)]) (st' := [vi z, vi ((L.length : Nat) : Int), vr q2]) rfl ?_
      refine M.iastN (L.length) rfl f11 (by omega) (by decide) ?_
      have f14 : lk (up w7 q2 (Ar 0 301 (uN fz L.length z))) p = some (Ob 7 [vr q0, vr q1, vr q2, vi ((L.length : Nat) : Int)]) := (lk_up_n hp_q2).trans f8
      have f15 : lk (up w7 q2 (Ar 0 301 (uN fz L.length z))) q0 = some (Ar 0 301 (uN fs L.length x)) := (lk_up_n hq0_q2).trans f9
      have f16 : lk (up w7 q2 (Ar 0 301 (uN fz L.length z))) q1 = some (Ar 0 301 (uN fv L.length y)) := (lk_up_n hq1_q2).trans f10
      have f17 : lk (up w7 q2 (Ar 0 301 (uN fz L.length z))) q2 = some (Ar 0 301 (uN fz L.length z)) := lk_up_s f11
      have fr18 : FrK p q0 q1 q2 w (up w7 q2 (Ar 0 301 (uN fz L.length z))) := fr12.u q2 (Or.inr (Or.inr (Or.inr rfl)))
      generalize up w7 q2 (Ar 0 301 (uN fz L.length z)) = w13 at f14 f15 f16 f17 fr18 ⊢
      refine M.run 2 (pc' := 50) (lv' := [some (vr p), some (vi x), some (vi y), some (vi z)]) (st' := [vr p, vr p]) rfl ?_
      refine M.get fl_X8_30 rfl f14 (kf := 3) (v := vi ((L.length : Nat) : Int)) rfl ?_
      refine M.run 2 (pc' := 55) (lv' := [some (vr p), some (vi x), some (vi y), some (vi z)]) (st' := [vi (((L.length : Nat) : Int) + 1), vr p]) rfl ?_
      refine M.put fl_X8_30 rfl f14 rfl rfl (Nat.le_of_ble_eq_true rfl) ?_
      have f20 : lk (up w13 p (Ob 7 ([vr q0, vr q1, vr q2, vi ((L.length : Nat) : Int)].set 3 (vi (((L.length : Nat) : Int) + 1))))) p = some (Ob 7 [vr q0, vr q1, vr q2, vi (((L.length : Nat) : Int) + 1)]) := lk_up_s f14
      have f21 : lk (up w13 p (Ob 7 ([vr q0, vr q1, vr q2, vi ((L.length : Nat) : Int)].set 3 (vi (((L.length : Nat) : Int) + 1))))) q0 = some (Ar 0 301 (uN fs L.length x)) := (lk_up_n hq0_p).trans f15
      have f22 : lk (up w13 p (Ob 7 ([vr q0, vr q1, vr q2, vi ((L.length : Nat) : Int)].set 3 (vi (((L.length : Nat) : Int) + 1))))) q1 = some (Ar 0 301 (uN fv L.length y)) := (lk_up_n hq1_p).trans f16
      have f23 : lk (up w13 p (Ob 7 ([vr q0, vr q1, vr q2, vi ((L.length : Nat) : Int)].set 3 (vi (((L.length : Nat) : Int) + 1))))) q2 = some (Ar 0 301 (uN fz L.length z)) := (lk_up_n hq2_p).trans f17
      have fr24 : FrK p q0 q1 q2 w (up w13 p (Ob 7 ([vr q0, vr q1, vr q2, vi ((L.length : Nat) : Int)].set 3 (vi (((L.length : Nat) : Int) + 1))))) := fr18.u p (Or.inl rfl)
      generalize up w13 p (Ob 7 ([vr q0, vr q1, vr q2, vi ((L.length : Nat) : Int)].set 3 (vi (((L.length : Nat) : Int) + 1)))) = w19 at f20 f21 f22 f23 fr24 ⊢
      exact M.vret rfl (Nat.zero_le _) (Nat.zero_le _) ⟨rfl, ⟨_, _, _, (by rw [List.length_append]; exact f20), f21, f22, f23, (by rw [List.length_append]; show L.length + 1 ≤ 301; omega), tkH_add hH⟩, fr24⟩
    · skip
      omega
set_option maxHeartbeats 4000000 in
set_option maxRecDepth 100000 in
theorem kX8_sort (l : Launch) (G : GT) (p q0 q1 q2 : Nat) (hap : ap4 p q0 q1 q2) (L : List (Int × Int × Int)) (i : Nat) (hi : i < 1000000) : Ctr l G yX8_sort cX8_sort 2 ((Option.some Jvm.ClassFile.FieldType.int)) 1 0 0 [vr p, vi ((i : Nat) : Int)] (fun w => tkA p q0 q1 q2 L w) (fun w r w' => r = some (vi ((gTk L i).1)) ∧ w' = w) := by
  refine Ctr.of (t := tX8_sort) (lv0 := [some (vr p), some (vi ((i : Nat) : Int))]) (by decide +kernel) tX8_sort_ok rfl rfl (fun w g hP M => ?_)
  obtain ⟨fs, fv, fz, hO, hA0, hA1, hA2, hL, hH⟩ := hP
  refine M.run 1 (pc' := 1) (lv' := [some (vr p), some (vi ((i : Nat) : Int))]) (st' := [vi ((i : Nat) : Int)]) rfl ?_
  refine M.if_lt (tgt := 30) rfl (qI (by omega)) (by decide) (fun h1 => ?_) (fun h1 => ?_)
  · skip
    omega
  · skip
    refine M.run 2 (pc' := 6) (lv' := [some (vr p), some (vi ((i : Nat) : Int))]) (st' := [vr p, vi ((i : Nat) : Int)]) rfl ?_
    refine M.get fl_X8_30 rfl hO (kf := 3) (v := vi ((L.length : Nat) : Int)) rfl ?_
    refine M.icmp_ge (tgt := 30) rfl (qI (by omega)) (qI (by omega)) (by decide) (fun h9 => ?_) (fun h9 => ?_)
    · skip
      refine M.run 1 (pc' := 32) (lv' := [some (vr p), some (vi ((i : Nat) : Int))]) (st' := [vi 51]) rfl ?_
      exact M.iret rfl (Nat.zero_le _) (Nat.zero_le _) ⟨reI (by rw [gTk_o (by omega)]), rfl⟩
    · skip
      refine M.run 2 (pc' := 14) (lv' := [some (vr p), some (vi ((i : Nat) : Int))]) (st' := [vr p, vi ((i : Nat) : Int)]) rfl ?_
      refine M.get fl_X8_9 rfl hO (kf := 0) (v := vr q0) rfl ?_
      refine M.alen rfl hA0 (by decide) ?_
      refine M.icmp_ge (tgt := 30) rfl (qI (by omega)) (qI (by omega)) (by decide) (fun h18 => ?_) (fun h18 => ?_)
      · skip
        refine M.run 1 (pc' := 32) (lv' := [some (vr p), some (vi ((i : Nat) : Int))]) (st' := [vi 51]) rfl ?_
        exact M.iret rfl (Nat.zero_le _) (Nat.zero_le _) ⟨reI (by rw [gTk_o (by omega)]), rfl⟩
      · skip
        refine M.run 1 (pc' := 22) (lv' := [some (vr p), some (vi ((i : Nat) : Int))]) (st' := [vr p]) rfl ?_
        refine M.get fl_X8_9 rfl hO (kf := 0) (v := vr q0) rfl ?_
        refine M.run 1 (pc' := 26) (lv' := [some (vr p), some (vi ((i : Nat) : Int))]) (st' := [vi ((i : Nat) : Int), vr q0]) rfl ?_
        refine M.ialdN (i) rfl hA0 (by omega) (by decide) ?_
        refine M.run 1 (pc' := 32) (lv' := [some (vr p), some (vi ((i : Nat) : Int))]) (st' := [vi (fs i)]) rfl ?_
        exact M.iret rfl (Nat.zero_le _) (Nat.zero_le _) ⟨reI (hH i (by omega)).1, rfl⟩
set_option maxHeartbeats 4000000 in
set_option maxRecDepth 100000 in
theorem kX8_value (l : Launch) (G : GT) (p q0 q1 q2 : Nat) (hap : ap4 p q0 q1 q2) (L : List (Int × Int × Int)) (i : Nat) (hi : i < 1000000) : Ctr l G yX8_value cX8_value 2 ((Option.some Jvm.ClassFile.FieldType.int)) 1 0 0 [vr p, vi ((i : Nat) : Int)] (fun w => tkA p q0 q1 q2 L w) (fun w r w' => r = some (vi ((gTk L i).2.1)) ∧ w' = w) := by
  refine Ctr.of (t := tX8_value) (lv0 := [some (vr p), some (vi ((i : Nat) : Int))]) (by decide +kernel) tX8_value_ok rfl rfl (fun w g hP M => ?_)
  obtain ⟨fs, fv, fz, hO, hA0, hA1, hA2, hL, hH⟩ := hP
  refine M.run 1 (pc' := 1) (lv' := [some (vr p), some (vi ((i : Nat) : Int))]) (st' := [vi ((i : Nat) : Int)]) rfl ?_
  refine M.if_lt (tgt := 30) rfl (qI (by omega)) (by decide) (fun h1 => ?_) (fun h1 => ?_)
  · skip
    omega
  · skip
    refine M.run 2 (pc' := 6) (lv' := [some (vr p), some (vi ((i : Nat) : Int))]) (st' := [vr p, vi ((i : Nat) : Int)]) rfl ?_
    refine M.get fl_X8_30 rfl hO (kf := 3) (v := vi ((L.length : Nat) : Int)) rfl ?_
    refine M.icmp_ge (tgt := 30) rfl (qI (by omega)) (qI (by omega)) (by decide) (fun h9 => ?_) (fun h9 => ?_)
    · skip
      refine M.run 1 (pc' := 31) (lv' := [some (vr p), some (vi ((i : Nat) : Int))]) (st' := [vi 0]) rfl ?_
      exact M.iret rfl (Nat.zero_le _) (Nat.zero_le _) ⟨reI (by rw [gTk_o (by omega)]), rfl⟩
    · skip
      refine M.run 2 (pc' := 14) (lv' := [some (vr p), some (vi ((i : Nat) : Int))]) (st' := [vr p, vi ((i : Nat) : Int)]) rfl ?_
      refine M.get fl_X8_15 rfl hO (kf := 1) (v := vr q1) rfl ?_
      refine M.alen rfl hA1 (by decide) ?_
      refine M.icmp_ge (tgt := 30) rfl (qI (by omega)) (qI (by omega)) (by decide) (fun h18 => ?_) (fun h18 => ?_)
      · skip
        refine M.run 1 (pc' := 31) (lv' := [some (vr p), some (vi ((i : Nat) : Int))]) (st' := [vi 0]) rfl ?_
        exact M.iret rfl (Nat.zero_le _) (Nat.zero_le _) ⟨reI (by rw [gTk_o (by omega)]), rfl⟩
      · skip
        refine M.run 1 (pc' := 22) (lv' := [some (vr p), some (vi ((i : Nat) : Int))]) (st' := [vr p]) rfl ?_
        refine M.get fl_X8_15 rfl hO (kf := 1) (v := vr q1) rfl ?_
        refine M.run 1 (pc' := 26) (lv' := [some (vr p), some (vi ((i : Nat) : Int))]) (st' := [vi ((i : Nat) : Int), vr q1]) rfl ?_
        refine M.ialdN (i) rfl hA1 (by omega) (by decide) ?_
        refine M.run 1 (pc' := 31) (lv' := [some (vr p), some (vi ((i : Nat) : Int))]) (st' := [vi (fv i)]) rfl ?_
        exact M.iret rfl (Nat.zero_le _) (Nat.zero_le _) ⟨reI (hH i (by omega)).2.1, rfl⟩
set_option maxHeartbeats 4000000 in
set_option maxRecDepth 100000 in
theorem kX8_place (l : Launch) (G : GT) (p q0 q1 q2 : Nat) (hap : ap4 p q0 q1 q2) (L : List (Int × Int × Int)) (i : Nat) (hi : i < 1000000) : Ctr l G yX8_place cX8_place 2 ((Option.some Jvm.ClassFile.FieldType.int)) 1 0 0 [vr p, vi ((i : Nat) : Int)] (fun w => tkA p q0 q1 q2 L w) (fun w r w' => r = some (vi ((gTk L i).2.2)) ∧ w' = w) := by
  refine Ctr.of (t := tX8_place) (lv0 := [some (vr p), some (vi ((i : Nat) : Int))]) (by decide +kernel) tX8_place_ok rfl rfl (fun w g hP M => ?_)
  obtain ⟨fs, fv, fz, hO, hA0, hA1, hA2, hL, hH⟩ := hP
  refine M.run 1 (pc' := 1) (lv' := [some (vr p), some (vi ((i : Nat) : Int))]) (st' := [vi ((i : Nat) : Int)]) rfl ?_
  refine M.if_lt (tgt := 30) rfl (qI (by omega)) (by decide) (fun h1 => ?_) (fun h1 => ?_)
  · skip
    omega
  · skip
    refine M.run 2 (pc' := 6) (lv' := [some (vr p), some (vi ((i : Nat) : Int))]) (st' := [vr p, vi ((i : Nat) : Int)]) rfl ?_
    refine M.get fl_X8_30 rfl hO (kf := 3) (v := vi ((L.length : Nat) : Int)) rfl ?_
    refine M.icmp_ge (tgt := 30) rfl (qI (by omega)) (qI (by omega)) (by decide) (fun h9 => ?_) (fun h9 => ?_)
    · skip
      refine M.run 1 (pc' := 31) (lv' := [some (vr p), some (vi ((i : Nat) : Int))]) (st' := [vi 0]) rfl ?_
      exact M.iret rfl (Nat.zero_le _) (Nat.zero_le _) ⟨reI (by rw [gTk_o (by omega)]), rfl⟩
    · skip
      refine M.run 2 (pc' := 14) (lv' := [some (vr p), some (vi ((i : Nat) : Int))]) (st' := [vr p, vi ((i : Nat) : Int)]) rfl ?_
      refine M.get fl_X8_18 rfl hO (kf := 2) (v := vr q2) rfl ?_
      refine M.alen rfl hA2 (by decide) ?_
      refine M.icmp_ge (tgt := 30) rfl (qI (by omega)) (qI (by omega)) (by decide) (fun h18 => ?_) (fun h18 => ?_)
      · skip
        refine M.run 1 (pc' := 31) (lv' := [some (vr p), some (vi ((i : Nat) : Int))]) (st' := [vi 0]) rfl ?_
        exact M.iret rfl (Nat.zero_le _) (Nat.zero_le _) ⟨reI (by rw [gTk_o (by omega)]), rfl⟩
      · skip
        refine M.run 1 (pc' := 22) (lv' := [some (vr p), some (vi ((i : Nat) : Int))]) (st' := [vr p]) rfl ?_
        refine M.get fl_X8_18 rfl hO (kf := 2) (v := vr q2) rfl ?_
        refine M.run 1 (pc' := 26) (lv' := [some (vr p), some (vi ((i : Nat) : Int))]) (st' := [vi ((i : Nat) : Int), vr q2]) rfl ?_
        refine M.ialdN (i) rfl hA2 (by omega) (by decide) ?_
        refine M.run 1 (pc' := 31) (lv' := [some (vr p), some (vi ((i : Nat) : Int))]) (st' := [vi (fz i)]) rfl ?_
        exact M.iret rfl (Nat.zero_le _) (Nat.zero_le _) ⟨reI (hH i (by omega)).2.2, rfl⟩
set_option maxHeartbeats 4000000 in
set_option maxRecDepth 100000 in
theorem kX8_cut (l : Launch) (G : GT) (p q0 q1 q2 : Nat) (hap : ap4 p q0 q1 q2) (pb : Nat) (hpb : pb ≠ p ∧ pb ≠ q0 ∧ pb ≠ q1 ∧ pb ≠ q2) (b : Nat → Int) (hb : ∀ k : Nat, k < 300 → 0 ≤ b k ∧ b k < 256) (t : Nat) (ht : t ≤ 300) (c : Int) (fs fv fz : Nat → Int) : Ctr l G yX8_cut cX8_cut 6 ((Option.none : Option Jvm.ClassFile.FieldType)) 7 0 0 [vr p, vr pb, vi ((t : Nat) : Int)] (fun w => (lk w p = some (Ob 7 [vr q0, vr q1, vr q2, vi c]) ∧ lk w q0 = some (Ar 0 301 fs) ∧ lk w q1 = some (Ar 0 301 fv) ∧ lk w q2 = some (Ar 0 301 fz)) ∧ lk w pb = some (Ar 0 300 b)) (fun w r w' => r = none ∧ tkA p q0 q1 q2 (tkL b t) w' ∧ FrK p q0 q1 q2 w w') := by
  refine Ctr.of (t := tX8_cut) (lv0 := [some (vr p), some (vr pb), some (vi ((t : Nat) : Int)), none, none, none]) (by decide +kernel) tX8_cut_ok rfl rfl (fun w g hP M => ?_)
  obtain ⟨hp_q0, hp_q1, hp_q2, hq0_q1, hq0_q2, hq1_q2⟩ := id hap
  have hq0_p := hp_q0.symm
  have hq1_p := hp_q1.symm
  have hq2_p := hp_q2.symm
  have hq1_q0 := hq0_q1.symm
  have hq2_q0 := hq0_q2.symm
  have hq2_q1 := hq1_q2.symm
  obtain ⟨⟨hO, hA0, hA1, hA2⟩, hP2⟩ := hP
  obtain ⟨hpb_p, hpb_q0, hpb_q1, hpb_q2⟩ := id hpb
  refine M.run 3 (pc' := 3) (lv' := [some (vr p), some (vr pb), some (vi ((t : Nat) : Int)), none, none, none]) (st' := [vr pb, vi ((t : Nat) : Int), vi 0]) rfl ?_
  refine M.alen rfl hP2 (by decide) ?_
  refine M.mmin cs_X8_21 rfl (qI (by omega)) (qI (by omega)) (by decide) (Nat.zero_le _) (Nat.zero_le _) rfl ?_
  refine M.mmax cs_X8_27 rfl (qI (by decide)) (qI (by omega)) (by decide) (Nat.zero_le _) (Nat.zero_le _) rfl ?_
  rw [show max 0 (min ((t : Nat) : Int) ((300 : Nat) : Int)) = ((t : Nat) : Int) from (by omega)]
  refine M.run 3 (pc' := 13) (lv' := [some (vr p), some (vr pb), some (vi ((t : Nat) : Int)), some (vi ((t : Nat) : Int)), none, none]) (st' := [vi 0, vr p]) rfl ?_
  refine M.put fl_X8_30 rfl hO rfl rfl (Nat.le_of_ble_eq_true rfl) ?_
  have f2 : lk (up w p (Ob 7 ([vr q0, vr q1, vr q2, vi c].set 3 (vi 0)))) p = some (Ob 7 [vr q0, vr q1, vr q2, vi 0]) := lk_up_s hO
  have f3 : lk (up w p (Ob 7 ([vr q0, vr q1, vr q2, vi c].set 3 (vi 0)))) q0 = some (Ar 0 301 fs) := (lk_up_n hq0_p).trans hA0
  have f4 : lk (up w p (Ob 7 ([vr q0, vr q1, vr q2, vi c].set 3 (vi 0)))) q1 = some (Ar 0 301 fv) := (lk_up_n hq1_p).trans hA1
  have f5 : lk (up w p (Ob 7 ([vr q0, vr q1, vr q2, vi c].set 3 (vi 0)))) q2 = some (Ar 0 301 fz) := (lk_up_n hq2_p).trans hA2
  have f6 : lk (up w p (Ob 7 ([vr q0, vr q1, vr q2, vi c].set 3 (vi 0)))) pb = some (Ar 0 300 b) := (lk_up_n hpb_p).trans hP2
  have fr7 : FrK p q0 q1 q2 w (up w p (Ob 7 ([vr q0, vr q1, vr q2, vi c].set 3 (vi 0)))) := FrK.rf.u p (Or.inl rfl)
  generalize up w p (Ob 7 ([vr q0, vr q1, vr q2, vi c].set 3 (vi 0))) = w1 at f2 f3 f4 f5 f6 fr7 ⊢
  have hK0 : tkA p q0 q1 q2 [] w1 := ⟨_, _, _, f2, f3, f4, f5, by decide, fun j hj => absurd hj (Nat.not_lt_zero j)⟩
  refine M.run 4 (pc' := 22) (lv' := [some (vr p), some (vr pb), some (vi ((t : Nat) : Int)), some (vi ((t : Nat) : Int)), some (vi 0), some (vi 0)]) (st' := []) rfl ?_
  have Lp22 : ∀ (N : Nat) (nx : Nat) (i : Nat) (Ld : List (Int × Int × Int)) (wa : Wo), (tkA p q0 q1 q2 Ld wa) → (FrK p q0 q1 q2 w wa) → (lk wa pb = some (Ar 0 300 b)) → (tkL b t = Ld ++ cutM b t (t - i) i nx) → (i ≤ t) → (Ld.length ≤ i) → (nx ≤ t) → t - i < N → g 0 0 wa 22 [some (vr p), some (vr pb), some (vi ((t : Nat) : Int)), some (vi ((t : Nat) : Int)), some (vi ((nx : Nat) : Int)), some (vi ((i : Nat) : Int))] [] := by
    intro N
    induction N with
    | zero => intro nx i Ld wa _ _ _ _ _ _ _ hN; exact absurd hN (Nat.not_lt_zero _)
    | succ N ih22 =>
      intro nx i Ld wa hKa hFa hBa hI hi hl hnx hN
      refine M.run 2 (pc' := 25) (lv' := [some (vr p), some (vr pb), some (vi ((t : Nat) : Int)), some (vi ((t : Nat) : Int)), some (vi ((nx : Nat) : Int)), some (vi ((i : Nat) : Int))]) (st' := [vi ((t : Nat) : Int), vi ((i : Nat) : Int)]) rfl ?_
      refine M.icmp_ge (tgt := 147) rfl (qI (by omega)) (qI (by omega)) (by decide) (fun h25 => ?_) (fun h25 => ?_)
      · skip
        refine M.run 4 (pc' := 152) (lv' := [some (vr p), some (vr pb), some (vi ((t : Nat) : Int)), some (vi ((t : Nat) : Int)), some (vi ((nx : Nat) : Int)), some (vi ((i : Nat) : Int))]) (st' := [vi ((t : Nat) : Int), vi 0, vi 51, vr p]) rfl ?_
        obtain ⟨_, _, _, hKo, _⟩ := id hKa
        refine M.callV (kX8_add l G p q0 q1 q2 hap Ld (by omega) 51 0 ((t : Nat) : Int) (by omega) (by omega) (by omega)) cv_X8_45 cd_X8_add rfl (st := []) rfl hKo (by decide) (by decide) rfl (Nat.zero_le _) (Nat.zero_le _) hKa (fun r9 w10 q11 => ?_)
        obtain ⟨q11r, hK8, q11f⟩ := q11
        rw [q11r]
        have hF8 : FrK p q0 q1 q2 w w10 := FrK.tr hFa q11f
        have hB8 : lk w10 pb = some (Ar 0 300 b) := (q11f pb hpb.1 hpb.2.1 hpb.2.2.1 hpb.2.2.2).trans hBa
        exact M.vret rfl (Nat.zero_le _) (Nat.zero_le _) ⟨rfl, (by rw [hI, show t - i = 0 by omega]; exact hK8), hF8⟩
      · skip
        refine M.run 2 (pc' := 32) (lv' := [some (vr p), some (vr pb), some (vi ((t : Nat) : Int)), some (vi ((t : Nat) : Int)), some (vi ((nx : Nat) : Int)), some (vi ((i : Nat) : Int))]) (st' := [vi ((nx : Nat) : Int), vi ((i : Nat) : Int)]) rfl ?_
        refine M.icmp_lt (tgt := 141) rfl (qI (by omega)) (qI (by omega)) (by decide) (fun h32 => ?_) (fun h32 => ?_)
        · skip
          refine M.run 2 (pc' := 22) (lv' := [some (vr p), some (vr pb), some (vi ((t : Nat) : Int)), some (vi ((t : Nat) : Int)), some (vi ((nx : Nat) : Int)), some (vi (((i : Nat) : Int) + 1))]) (st' := []) rfl ?_
          exact ih22 nx (i + 1) Ld wa hKa hFa hBa (by rw [hI, cutM_s (by omega) (by omega), show t - i - 1 = t - (i + 1) by omega]) (by omega) (by omega) (by omega) (by omega)
        · skip
          have hbi := hb i (by omega)
          refine M.run 2 (pc' := 38) (lv' := [some (vr p), some (vr pb), some (vi ((t : Nat) : Int)), some (vi ((t : Nat) : Int)), some (vi ((nx : Nat) : Int)), some (vi ((i : Nat) : Int))]) (st' := [vi ((i : Nat) : Int), vr pb]) rfl ?_
          refine M.ialdN (i) rfl hBa (by omega) (by decide) ?_
          refine M.run 1 (pc' := 41) (lv' := [some (vr p), some (vr pb), some (vi ((t : Nat) : Int)), some (vi ((t : Nat) : Int)), some (vi ((nx : Nat) : Int)), some (vi ((i : Nat) : Int))]) (st' := [vi 32, vi (b i)]) rfl ?_
          refine M.icmp_eq (tgt := 141) rfl (qI (by omega)) (qI (by decide)) (by decide) (fun h41 => ?_) (fun h41 => ?_)
          · skip
            refine M.run 2 (pc' := 22) (lv' := [some (vr p), some (vr pb), some (vi ((t : Nat) : Int)), some (vi ((t : Nat) : Int)), some (vi ((nx : Nat) : Int)), some (vi (((i : Nat) : Int) + 1))]) (st' := []) rfl ?_
            exact ih22 nx (i + 1) Ld wa hKa hFa hBa (by rw [hI, cutM_s (by omega) (by omega), show t - i - 1 = t - (i + 1) by omega]) (by omega) (by omega) (by omega) (by omega)
          · skip
            refine M.run 2 (pc' := 47) (lv' := [some (vr p), some (vr pb), some (vi ((t : Nat) : Int)), some (vi ((t : Nat) : Int)), some (vi ((nx : Nat) : Int)), some (vi ((i : Nat) : Int))]) (st' := [vi ((i : Nat) : Int), vr pb]) rfl ?_
            refine M.ialdN (i) rfl hBa (by omega) (by decide) ?_
            refine M.run 1 (pc' := 50) (lv' := [some (vr p), some (vr pb), some (vi ((t : Nat) : Int)), some (vi ((t : Nat) : Int)), some (vi ((nx : Nat) : Int)), some (vi ((i : Nat) : Int))]) (st' := [vi 10, vi (b i)]) rfl ?_
            refine M.icmp_ne (tgt := 56) rfl (qI (by omega)) (qI (by decide)) (by decide) (fun h50 => ?_) (fun h50 => ?_)
            · skip
              refine M.run 3 (pc' := 60) (lv' := [some (vr p), some (vr pb), some (vi ((t : Nat) : Int)), some (vi ((t : Nat) : Int)), some (vi ((nx : Nat) : Int)), some (vi ((i : Nat) : Int))]) (st' := [vi ((t : Nat) : Int), vi ((i : Nat) : Int), vr pb]) rfl ?_
              refine M.callS (kX8_tokenEnd l G pb b hb i t (by omega) (by omega)) cs_X8_34 cd_X8_tokenEnd rfl (st := []) rfl (by decide) (by decide) rfl (Nat.zero_le _) (Nat.zero_le _) hBa (fun r13 w14 q15 => ?_)
              rw [q15.1, q15.2]
              have hte := tkE_b (b := b) (e := t) (p := i) (by omega)
              refine M.run 3 (pc' := 68) (lv' := [some (vr p), some (vr pb), some (vi ((t : Nat) : Int)), some (vi ((t : Nat) : Int)), some (vi ((tkE b t i : Nat) : Int)), some (vi ((i : Nat) : Int))]) (st' := [vi ((i : Nat) : Int), vr pb]) rfl ?_
              refine M.ialdN (i) rfl hBa (by omega) (by decide) ?_
              refine M.callS (kX8_isLetter l G (b i) (by omega)) cs_X8_38 cd_X8_isLetter rfl (st := []) rfl (by decide) (by decide) rfl (Nat.zero_le _) (Nat.zero_le _) trivial (fun r17 w18 q19 => ?_)
              rw [q19.1, q19.2]
              refine M.if_eq (tgt := 93) rfl (inI_zb _) (by decide) (fun h72 => ?_) (fun h72 => ?_)
              · skip
                replace h72 := zb_fd h72
                refine M.run 2 (pc' := 96) (lv' := [some (vr p), some (vr pb), some (vi ((t : Nat) : Int)), some (vi ((t : Nat) : Int)), some (vi ((tkE b t i : Nat) : Int)), some (vi ((i : Nat) : Int))]) (st' := [vi ((i : Nat) : Int), vr pb]) rfl ?_
                refine M.ialdN (i) rfl hBa (by omega) (by decide) ?_
                refine M.callS (kX8_isDigit l G (b i) (by omega)) cs_X8_49 cd_X8_isDigit rfl (st := []) rfl (by decide) (by decide) rfl (Nat.zero_le _) (Nat.zero_le _) trivial (fun r21 w22 q23 => ?_)
                rw [q23.1, q23.2]
                refine M.if_eq (tgt := 122) rfl (inI_zb _) (by decide) (fun h100 => ?_) (fun h100 => ?_)
                · skip
                  replace h100 := zb_fd h100
                  refine M.run 3 (pc' := 126) (lv' := [some (vr p), some (vr pb), some (vi ((t : Nat) : Int)), some (vi ((t : Nat) : Int)), some (vi ((tkE b t i : Nat) : Int)), some (vi ((i : Nat) : Int))]) (st' := [vi ((i : Nat) : Int), vr pb, vr p]) rfl ?_
                  refine M.ialdN (i) rfl hBa (by omega) (by decide) ?_
                  refine M.run 3 (pc' := 132) (lv' := [some (vr p), some (vr pb), some (vi ((t : Nat) : Int)), some (vi ((t : Nat) : Int)), some (vi ((tkE b t i : Nat) : Int)), some (vi ((i : Nat) : Int))]) (st' := [vi (((tkE b t i : Nat) : Int) - ((i : Nat) : Int)), vi (b i), vr p]) rfl ?_
                  refine M.callS (kX8_signSort l G (b i) (((tkE b t i : Nat) : Int) - ((i : Nat) : Int)) (by omega) (by omega)) cs_X8_55 cd_X8_signSort rfl (st := [vr p]) rfl (by decide) (by decide) rfl (Nat.zero_le _) (Nat.zero_le _) trivial (fun r25 w26 q27 => ?_)
                  rw [q27.1, q27.2]
                  have hsb := sgM_b (x := b i) (n := ((tkE b t i : Nat) : Int) - ((i : Nat) : Int))
                  refine M.run 2 (pc' := 138) (lv' := [some (vr p), some (vr pb), some (vi ((t : Nat) : Int)), some (vi ((t : Nat) : Int)), some (vi ((tkE b t i : Nat) : Int)), some (vi ((i : Nat) : Int))]) (st' := [vi ((i : Nat) : Int), vi 0, vi (sgM (b i) (((tkE b t i : Nat) : Int) - ((i : Nat) : Int))), vr p]) rfl ?_
                  obtain ⟨_, _, _, hKo, _⟩ := id hKa
                  refine M.callV (kX8_add l G p q0 q1 q2 hap Ld (by omega) (sgM (b i) (((tkE b t i : Nat) : Int) - ((i : Nat) : Int))) 0 ((i : Nat) : Int) (by omega) (by omega) (by omega)) cv_X8_45 cd_X8_add rfl (st := []) rfl hKo (by decide) (by decide) rfl (Nat.zero_le _) (Nat.zero_le _) hKa (fun r30 w31 q32 => ?_)
                  obtain ⟨q32r, hK29, q32f⟩ := q32
                  rw [q32r]
                  have hF29 : FrK p q0 q1 q2 w w31 := FrK.tr hFa q32f
                  have hB29 : lk w31 pb = some (Ar 0 300 b) := (q32f pb hpb.1 hpb.2.1 hpb.2.2.1 hpb.2.2.2).trans hBa
                  have hTk : tkT b t i = ((sgM (b i) (((tkE b t i : Nat) : Int) - ((i : Nat) : Int))), 0, ((i : Nat) : Int)) := by unfold tkT; rw [if_neg h72]; exact if_neg h100
                  refine M.run 2 (pc' := 22) (lv' := [some (vr p), some (vr pb), some (vi ((t : Nat) : Int)), some (vi ((t : Nat) : Int)), some (vi ((tkE b t i : Nat) : Int)), some (vi (((i : Nat) : Int) + 1))]) (st' := []) rfl ?_
                  exact ih22 (tkE b t i) (i + 1) (Ld ++ [((sgM (b i) (((tkE b t i : Nat) : Int) - ((i : Nat) : Int))), 0, ((i : Nat) : Int))]) w31 hK29 hF29 hB29 (by rw [hI, cutM_t (by omega) (by omega), hTk, show t - i - 1 = t - (i + 1) by omega]; exact app_c _ _ _) (by omega) (by rw [List.length_append]; show Ld.length + 1 ≤ i + 1; omega) (by omega) (by omega)
                · skip
                  replace h100 := zb_td h100
                  refine M.run 5 (pc' := 111) (lv' := [some (vr p), some (vr pb), some (vi ((t : Nat) : Int)), some (vi ((t : Nat) : Int)), some (vi ((tkE b t i : Nat) : Int)), some (vi ((i : Nat) : Int))]) (st' := [vi ((tkE b t i : Nat) : Int), vi ((i : Nat) : Int), vr pb, vi 50, vr p]) rfl ?_
                  refine M.callS (kX8_figure l G pb b hb i (tkE b t i) (by omega) (by omega) (tkE_d h72 h100)) cs_X8_52 cd_X8_figure rfl (st := [vi 50, vr p]) rfl (by decide) (by decide) rfl (Nat.zero_le _) (Nat.zero_le _) hBa (fun r34 w35 q36 => ?_)
                  rw [q36.1, q36.2]
                  have hfb := fgM_b (b := b) (p := i) (tkE b t i - i) (fun j hj => (tkE_d (e := t) h72 h100 (i + j) (by omega) (by omega)).1)
                  refine M.run 1 (pc' := 116) (lv' := [some (vr p), some (vr pb), some (vi ((t : Nat) : Int)), some (vi ((t : Nat) : Int)), some (vi ((tkE b t i : Nat) : Int)), some (vi ((i : Nat) : Int))]) (st' := [vi ((i : Nat) : Int), vi (fgM b i (tkE b t i - i)), vi 50, vr p]) rfl ?_
                  obtain ⟨_, _, _, hKo, _⟩ := id hKa
                  refine M.callV (kX8_add l G p q0 q1 q2 hap Ld (by omega) 50 (fgM b i (tkE b t i - i)) ((i : Nat) : Int) (by omega) (by omega) (by omega)) cv_X8_45 cd_X8_add rfl (st := []) rfl hKo (by decide) (by decide) rfl (Nat.zero_le _) (Nat.zero_le _) hKa (fun r39 w40 q41 => ?_)
                  obtain ⟨q41r, hK38, q41f⟩ := q41
                  rw [q41r]
                  have hF38 : FrK p q0 q1 q2 w w40 := FrK.tr hFa q41f
                  have hB38 : lk w40 pb = some (Ar 0 300 b) := (q41f pb hpb.1 hpb.2.1 hpb.2.2.1 hpb.2.2.2).trans hBa
                  have hTk : tkT b t i = (50, (fgM b i (tkE b t i - i)), ((i : Nat) : Int)) := by unfold tkT; rw [if_neg h72]; exact if_pos h100
                  refine M.run 3 (pc' := 22) (lv' := [some (vr p), some (vr pb), some (vi ((t : Nat) : Int)), some (vi ((t : Nat) : Int)), some (vi ((tkE b t i : Nat) : Int)), some (vi (((i : Nat) : Int) + 1))]) (st' := []) rfl ?_
                  exact ih22 (tkE b t i) (i + 1) (Ld ++ [(50, (fgM b i (tkE b t i - i)), ((i : Nat) : Int))]) w40 hK38 hF38 hB38 (by rw [hI, cutM_t (by omega) (by omega), hTk, show t - i - 1 = t - (i + 1) by omega]; exact app_c _ _ _) (by omega) (by rw [List.length_append]; show Ld.length + 1 ≤ i + 1; omega) (by omega) (by omega)
              · skip
                replace h72 := zb_td h72
                refine M.run 4 (pc' := 81) (lv' := [some (vr p), some (vr pb), some (vi ((t : Nat) : Int)), some (vi ((t : Nat) : Int)), some (vi ((tkE b t i : Nat) : Int)), some (vi ((i : Nat) : Int))]) (st' := [vi ((tkE b t i : Nat) : Int), vi ((i : Nat) : Int), vr pb, vr p]) rfl ?_
                refine M.callS (kX8_wordSort l G pb b hb i (tkE b t i) (by omega) (by omega)) cs_X8_42 cd_X8_wordSort rfl (st := [vr p]) rfl (by decide) (by decide) rfl (Nat.zero_le _) (Nat.zero_le _) hBa (fun r43 w44 q45 => ?_)
                rw [q45.1, q45.2]
                have hwb := wdM_b (b := b) (p := i) (q := tkE b t i)
                refine M.run 2 (pc' := 87) (lv' := [some (vr p), some (vr pb), some (vi ((t : Nat) : Int)), some (vi ((t : Nat) : Int)), some (vi ((tkE b t i : Nat) : Int)), some (vi ((i : Nat) : Int))]) (st' := [vi ((i : Nat) : Int), vi 0, vi (wdM b i (tkE b t i)), vr p]) rfl ?_
                obtain ⟨_, _, _, hKo, _⟩ := id hKa
                refine M.callV (kX8_add l G p q0 q1 q2 hap Ld (by omega) (wdM b i (tkE b t i)) 0 ((i : Nat) : Int) (by omega) (by omega) (by omega)) cv_X8_45 cd_X8_add rfl (st := []) rfl hKo (by decide) (by decide) rfl (Nat.zero_le _) (Nat.zero_le _) hKa (fun r48 w49 q50 => ?_)
                obtain ⟨q50r, hK47, q50f⟩ := q50
                rw [q50r]
                have hF47 : FrK p q0 q1 q2 w w49 := FrK.tr hFa q50f
                have hB47 : lk w49 pb = some (Ar 0 300 b) := (q50f pb hpb.1 hpb.2.1 hpb.2.2.1 hpb.2.2.2).trans hBa
                have hTk : tkT b t i = ((wdM b i (tkE b t i)), 0, ((i : Nat) : Int)) := by unfold tkT; exact if_pos h72
                refine M.run 3 (pc' := 22) (lv' := [some (vr p), some (vr pb), some (vi ((t : Nat) : Int)), some (vi ((t : Nat) : Int)), some (vi ((tkE b t i : Nat) : Int)), some (vi (((i : Nat) : Int) + 1))]) (st' := []) rfl ?_
                exact ih22 (tkE b t i) (i + 1) (Ld ++ [((wdM b i (tkE b t i)), 0, ((i : Nat) : Int))]) w49 hK47 hF47 hB47 (by rw [hI, cutM_t (by omega) (by omega), hTk, show t - i - 1 = t - (i + 1) by omega]; exact app_c _ _ _) (by omega) (by rw [List.length_append]; show Ld.length + 1 ≤ i + 1; omega) (by omega) (by omega)
            · skip
              refine M.run 3 (pc' := 22) (lv' := [some (vr p), some (vr pb), some (vi ((t : Nat) : Int)), some (vi ((t : Nat) : Int)), some (vi ((nx : Nat) : Int)), some (vi (((i : Nat) : Int) + 1))]) (st' := []) rfl ?_
              exact ih22 nx (i + 1) Ld wa hKa hFa hBa (by rw [hI, cutM_s (by omega) (by omega), show t - i - 1 = t - (i + 1) by omega]) (by omega) (by omega) (by omega) (by omega)
  exact Lp22 _ 0 0 ([]) w1 hK0 fr7 f6 rfl (Nat.zero_le _) (Nat.le_refl _) (Nat.zero_le _) (Nat.lt_succ_self _)
