section QLOR
variable {l : Launch} {G : GT} {y : MethodName} {cc : ByteArray} {t : Tab} {nL : Nat} {ret : Option FieldType} {d mc ms : Nat} {Qp : Option AV → Wo → Prop} {g : gF}
variable {k n : Nat} {w : Wo} {pc : Nat} {lv : Lo} {st : List AV}
theorem lI_or {x z : Int} (hx : x = 0 ∨ x = 1) (hz : z = 0 ∨ z = 1) : lI x ||| lI z = lI (zb (decide (¬ x = 0 ∨ ¬ z = 0))) := by
  rcases hx with rfl | rfl <;> rcases hz with rfl | rfl <;> decide +kernel
theorem lI_and {x z : Int} (hx : x = 0 ∨ x = 1) (hz : z = 0 ∨ z = 1) : lI x &&& lI z = lI (zb (decide (¬ x = 0 ∧ ¬ z = 0))) := by
  rcases hx with rfl | rfl <;> rcases hz with rfl | rfl <;> decide +kernel
theorem Mach.lor1 {x z : Int} (M : Mach l G y cc t nL ret d mc ms Qp g) (hq : qlk t pc = some (.lor, 1)) (h1 : x = 0 ∨ x = 1) (h2 : z = 0 ∨ z = 1) (kk : g k n w (pc + 1) lv (vl (zb (decide (¬ x = 0 ∨ ¬ z = 0))) :: st)) : g k n w pc lv (vl z :: vl x :: st) := by
  obtain ⟨p, e, s, m, args, below, meth, c, A, hx, hb, ht, hml, hr', hlk, hown, hts, hnm, hA, hAB, hB, hK, hSt, rfl⟩ := M
  intro H locs ls hP hD hS hl
  refine lv_lor hx hb (qdec ht hq) ?_
  rw [lI_or h1 h2]
  exact kk H locs ls hP hD hS hl
theorem Mach.land1 {x z : Int} (M : Mach l G y cc t nL ret d mc ms Qp g) (hq : qlk t pc = some (.land, 1)) (h1 : x = 0 ∨ x = 1) (h2 : z = 0 ∨ z = 1) (kk : g k n w (pc + 1) lv (vl (zb (decide (¬ x = 0 ∧ ¬ z = 0))) :: st)) : g k n w pc lv (vl z :: vl x :: st) := by
  obtain ⟨p, e, s, m, args, below, meth, c, A, hx, hb, ht, hml, hr', hlk, hown, hts, hnm, hA, hAB, hB, hK, hSt, rfl⟩ := M
  intro H locs ls hP hD hS hl
  refine lv_land hx hb (qdec ht hq) ?_
  rw [lI_and h1 h2]
  exact kk H locs ls hP hD hS hl
theorem Mach.mmaxL {idx : Nat} {x z : Int} (M : Mach l G y cc t nL ret d mc ms Qp g) (hl : CLS y.cls idx yJ9_max_f86c9 2) (hq : qlk t pc = some (.invokestatic idx, 3)) (hx1 : inL x) (hz1 : inL z) (hd : 0 < d) (hk : k ≤ mc) (hn : n ≤ ms) (hcat : Nat.ble (stc st) 8 = true) (kk : g k n w (pc + 3) lv (vl (max x z) :: st)) : g k n w pc lv (vl z :: vl x :: st) := by
  obtain ⟨p, e, s, m, args, below, meth, c, A, hx, hb, ht, hml, hr', hlk, hown, hts, hnm, hA, hAB, hB, hK, hSt, rfl⟩ := M
  obtain ⟨g1, g2, g3, -⟩ := hl
  intro H locs ls hP hD hS hl2
  have hcat2 := Nat.le_of_ble_eq_true hcat
  refine va_mmax_long hx hb (hml.trans hl2.2.1.symm) hown (hts _ g1) (hts _ g2) (hts _ g3) (hts _ cd_J9_max_f86c9) (by show 1 ≤ d; omega) (by rw [stc_eq]; show stc st + 15 ≤ 64 * d; omega) hk hn (qdec ht hq) ?_
  have e1 := kk H locs ls hP hD hS hl2
  have e2 : lI (max x z) = if lI z < lI x then lI x else lI z := by
    by_cases h : z < x
    · rw [if_pos ((lI_lt hz1 hx1).mpr h)]; congr 1; omega
    · rw [if_neg (fun q => h ((lI_lt hz1 hx1).mp q))]; congr 1; omega
  rw [List.map_cons, show qv (vl (max x z)) = .long (lI (max x z)) from rfl, e2] at e1
  exact e1
theorem Mach.mminL {idx : Nat} {x z : Int} (M : Mach l G y cc t nL ret d mc ms Qp g) (hl : CLS y.cls idx yJ9_min_f86c9 2) (hq : qlk t pc = some (.invokestatic idx, 3)) (hx1 : inL x) (hz1 : inL z) (hd : 0 < d) (hk : k ≤ mc) (hn : n ≤ ms) (hcat : Nat.ble (stc st) 8 = true) (kk : g k n w (pc + 3) lv (vl (min x z) :: st)) : g k n w pc lv (vl z :: vl x :: st) := by
  obtain ⟨p, e, s, m, args, below, meth, c, A, hx, hb, ht, hml, hr', hlk, hown, hts, hnm, hA, hAB, hB, hK, hSt, rfl⟩ := M
  obtain ⟨g1, g2, g3, -⟩ := hl
  intro H locs ls hP hD hS hl2
  have hcat2 := Nat.le_of_ble_eq_true hcat
  refine va_mmin_long hx hb (hml.trans hl2.2.1.symm) hown (hts _ g1) (hts _ g2) (hts _ g3) (hts _ cd_J9_min_f86c9) (by show 1 ≤ d; omega) (by rw [stc_eq]; show stc st + 15 ≤ 64 * d; omega) hk hn (qdec ht hq) ?_
  have e1 := kk H locs ls hP hD hS hl2
  have e2 : lI (min x z) = if lI z < lI x then lI z else lI x := by
    by_cases h : z < x
    · rw [if_pos ((lI_lt hz1 hx1).mpr h)]; congr 1; omega
    · rw [if_neg (fun q => h ((lI_lt hz1 hx1).mp q))]; congr 1; omega
  rw [List.map_cons, show qv (vl (min x z)) = .long (lI (min x z)) from rfl, e2] at e1
  exact e1
end QLOR
theorem FrmT {p q : Nat} {w w1 w2 : Wo} (h : Frm p q w w1) (h2 : Frm p q w1 w2) : Frm p q w w2 := fun a h3 h4 => (h2 a h3 h4).trans (h a h3 h4)
/-- two numbers made one, in the class's orders -/
def twoC (o x y : Int) : Int :=
  if o = 14 then zb (decide (¬ x = 0 ∨ ¬ y = 0)) else if o = 15 then zb (decide (¬ x = 0 ∧ ¬ y = 0)) else if o = 30 then zb (decide (x < y)) else if o = 31 then zb (decide (y < x)) else if o = 32 then zb (decide (x = y))
  else if o = 33 then zb (decide (¬ x = y)) else if o = 34 then clipI (x + y) else if o = 35 then clipI (x - y) else if o = 36 then clipI (x * y) else if o = 37 then (if y = 0 then 0 else clipI (x.tdiv y)) else if o = 41 then zb (decide (x ≤ y)) else zb (decide (y ≤ x))
theorem clip_zb (b : Bool) : clipI (zb b) = zb b := by cases b <;> rfl
theorem clip_1 {p : Prop} {i : Decidable p} (h : p) : clipI 1 = zb (@decide p i) := by rw [decide_eq_true h]; rfl
theorem clip_0 {p : Prop} {i : Decidable p} (h : ¬ p) : clipI 0 = zb (@decide p i) := by rw [decide_eq_false h]; rfl

