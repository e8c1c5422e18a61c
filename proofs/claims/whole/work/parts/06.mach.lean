/-! worlds by address -/
def lk (w : Wo) (a : Nat) : Option Ce := (w.find? (fun q => q.1 == a)).map (fun q => q.2)
def up (w : Wo) (a : Nat) (c : Ce) : Wo := w.map (fun q => if q.1 = a then (a, c) else q)
def nw (w : Wo) (a : Nat) (c : Ce) : Wo := w ++ [(a, c)]
theorem lk_place {w : Wo} {a : Nat} {c : Ce} (h : lk w a = some c) : ∃ i : Nat, w[i]? = some (a, c) := by
  unfold lk at h
  cases hf : w.find? (fun q => q.1 == a) with
  | none => rw [hf] at h; cases h
  | some q =>
    rw [hf] at h
    cases h
    have h1 := List.find?_some hf
    obtain ⟨i, hi⟩ := List.getElem?_of_mem (List.mem_of_find?_eq_some hf)
    have h2 : q.1 = a := by simpa using h1
    exact ⟨i, by rw [hi, ← h2]⟩
theorem lk_nil (a : Nat) : lk [] a = none := rfl
theorem lk_cons (q : Nat × Ce) (w : Wo) (a : Nat) : lk (q :: w) a = if q.1 = a then some q.2 else lk w a := by
  unfold lk
  rw [List.find?_cons]
  by_cases h : q.1 = a
  · simp [h]
  · have hb : (q.1 == a) = false := by simpa using h
    simp [hb, h]
theorem lk_up (w : Wo) (a b : Nat) (c : Ce) : lk (up w a c) b = if b = a then (lk w a).map (fun _ => c) else lk w b := by
  induction w with
  | nil => simp [up, lk_nil]
  | cons q w ih =>
    have e : up (q :: w) a c = (if q.1 = a then (a, c) else q) :: up w a c := rfl
    rw [e, lk_cons, ih, lk_cons, lk_cons]
    by_cases h1 : q.1 = a
    · rw [if_pos h1]
      by_cases h2 : b = a
      · subst h2; simp [h1]
      · have h3 : ¬ a = b := fun z => h2 z.symm
        have h4 : ¬ q.1 = b := by rw [h1]; exact h3
        simp [h2, h3, h4]
    · rw [if_neg h1]
      by_cases h2 : b = a
      · subst h2; simp [h1]
      · simp [h2]
theorem lk_up_s {w : Wo} {a : Nat} {c0 c : Ce} (h : lk w a = some c0) : lk (up w a c) a = some c := by
  rw [lk_up, if_pos rfl, h]
  rfl
theorem lk_up_n {w : Wo} {a b : Nat} {c : Ce} (h : b ≠ a) : lk (up w a c) b = lk w b := by
  rw [lk_up, if_neg h]
theorem lk_nw (w : Wo) (a b : Nat) (c : Ce) : lk (nw w a c) b = match lk w b with
    | some x => some x
    | none => if a = b then some c else none := by
  unfold nw
  induction w with
  | nil =>
    rw [List.nil_append, lk_cons, lk_nil]
  | cons q w ih =>
    rw [List.cons_append, lk_cons, lk_cons, ih]
    by_cases h : q.1 = b
    · simp [h]
    · simp [h]
theorem lk_nw_s {w : Wo} {a : Nat} {c : Ce} (h : lk w a = none) : lk (nw w a c) a = some c := by
  rw [lk_nw, h]
  simp
theorem lk_nw_o {w : Wo} {a b : Nat} {c x : Ce} (h : lk w b = some x) : lk (nw w a c) b = some x := by
  rw [lk_nw, h]
theorem lk_nw_n {w : Wo} {a b : Nat} {c : Ce} (h : b ≠ a) : lk (nw w a c) b = lk w b := by
  rw [lk_nw]
  cases lk w b with
  | none => simp [Ne.symm h]
  | some x => rfl
section QW
variable {G : GT} {w : Wo} {A : Nat → Prop} {H : Heap}
theorem qm_place {a : Nat} {c : Ce} {i : Nat} (h : w[i]? = some (a, c)) : (w.map (qm G))[i]? = some (a, qc G c) := by
  rw [List.getElem?_map, h]
  rfl
theorem up_set {a i : Nat} {c0 c : Ce} (hD : va_D A (w.map (qm G))) (h : w[i]? = some (a, c0)) : (w.map (qm G)).set i (a, qc G c) = (up w a c).map (qm G) := by
  apply List.ext_getElem?
  intro k
  have hi := (List.getElem?_eq_some_iff.mp h).1
  by_cases hk : k = i
  · subst hk
    rw [List.getElem?_set_self (by simpa using hi)]
    unfold up
    rw [List.getElem?_map, List.getElem?_map, h]
    simp [qm]
  · rw [List.getElem?_set_ne (Ne.symm hk)]
    unfold up
    rw [List.getElem?_map, List.getElem?_map, List.getElem?_map]
    cases hq : w[k]? with
    | none => rfl
    | some q =>
      have hne : ¬ q.1 = a := fun z => hk (hD.1 k i (qm G q) (a, qc G c0) (by rw [List.getElem?_map, hq]; rfl) (qm_place h) z)
      simp [hne]
theorem nw_map {a : Nat} {c : Ce} : (w.map (qm G)) ++ [(a, qc G c)] = (nw w a c).map (qm G) := by
  unfold nw
  rw [List.map_append]
  rfl
theorem va_at_lt {D : va_G} {cl : List vw_C} (hP : va_P D cl (w.map (qm G)) H) {a : Nat} {c : Ce} (h : lk w a = some c) : a < H.size := by
  obtain ⟨i, hi⟩ := lk_place h
  exact (hP i _ (qm_place hi)).lt
theorem lk_fresh {D : va_G} {cl : List vw_C} (hP : va_P D cl (w.map (qm G)) H) : lk w H.size = none := by
  cases h : lk w H.size with
  | none => rfl
  | some c => exact absurd (va_at_lt hP h) (Nat.lt_irrefl _)
theorem Stq_kept {U t : State} (h : Stq G U) (hn : Nq G t) (hvm : U.vm.Alike t.vm) (hk : ∀ a : Nat, a < U.heap.size → ¬ gB G ≤ a → t.heap[a]? = U.heap[a]?) : Stq G t := by
  obtain ⟨h1, h2, h3, h4, _, h5, h6, h7⟩ := h
  exact ⟨(h1.moved hvm).kept hk, (h2.moved hvm).kept hk, (h3.moved hvm).kept hk, (h4.moved hvm).kept hk, hn, (h5.moved hvm).kept hk, (h6.moved hvm).kept hk, (h7.moved hvm).kept hk⟩
end QW
/-! the machine inside a method -/
abbrev gF : Type := Nat → Nat → Wo → Nat → Lo → List AV → Prop
def GG (l : Launch) (G : GT) (p : Program) (e : Env) (R : Room) (s : State) (m : MethodId) (args : Array Value) (below : List Frame) (meth : Method) (c : Code) (A : Nat → Prop) (nL : Nat) (Q : State → Prop) : gF :=
  fun k n w pc lv st => ∀ (H : Heap) (locs : List Loc) (ls : Array Slot), va_P (gD G) vwCl (w.map (qm G)) H → va_D A (w.map (qm G)) → va_S A s.heap H locs → Lh nL ls lv → W p l e R s m args below meth c H locs k n Q (F0 m pc ls (st.map qv))
def QQ (G : GT) (Qp : Option AV → Wo → Prop) (A : Nat → Prop) : Array Value → State → Outcome → State → Prop := fun _ st o t => (∃ r w', o = .returned (r.map qv) ∧ Qp r w' ∧ WU G w' t ∧ va_D A (w'.map (qm G))) ∧ va_F A st t
def Mach (l : Launch) (G : GT) (y : MethodName) (cc : ByteArray) (t : Tab) (nL : Nat) (ret : Option FieldType) (d mc ms : Nat) (Qp : Option AV → Wo → Prop) (g : gF) : Prop :=
  ∃ (p : Program) (e : Env) (s : State) (m : MethodId) (args : Array Value) (below : List Frame) (meth : Method) (c : Code) (A : Nat → Prop),
    p.tables.exec = Jvm.exec ∧ c.code = cc ∧ t.all (fun q => decide (decode cc q.1 = .ok q.2)) = true ∧ c.maxLocals = nL ∧ meth.sig.returnType = ret ∧ meth.locks = false ∧ s.vm.findClass y.cls = some m.cls ∧ (∀ w ∈ lw_g, w.before args s = true) ∧ meth.name = y.name ∧
    (∀ q : Nat, s.heap.size ≤ q → A q) ∧ (∀ q : Nat, A q → gB G ≤ q) ∧ gB G ≤ s.heap.size ∧ va_K (gD G) vwCl (tyq G) s ∧ Stq G s ∧
    g = GG l G p e (rmq d mc ms) s m args below meth c A nL (MQ below (QQ G Qp A) args s mc ms A)
theorem iI_toInt {a : Int} (h : inI a) : (iI a).toInt = a := Int32.toInt_ofInt_of_le (by have := h.1; omega) (by have := h.2; omega)
theorem lI_toInt {a : Int} (h : inL a) : (lI a).toInt = a := Int64.toInt_ofInt_of_le (by have := h.1; omega) (by have := h.2; omega)
theorem iI_lt {a b : Int} (ha : inI a) (hb : inI b) : iI a < iI b ↔ a < b := by rw [Int32.lt_iff_toInt_lt, iI_toInt ha, iI_toInt hb]
theorem iI_le {a b : Int} (ha : inI a) (hb : inI b) : iI a ≤ iI b ↔ a ≤ b := by rw [Int32.le_iff_toInt_le, iI_toInt ha, iI_toInt hb]
theorem iI_eq {a b : Int} (ha : inI a) (hb : inI b) : iI a = iI b ↔ a = b := by rw [← Int32.toInt_inj, iI_toInt ha, iI_toInt hb]
theorem iI_0 : iI 0 = 0 := rfl
theorem inI_0 : inI 0 := ⟨by decide, by decide⟩
section QROWS
variable {l : Launch} {G : GT} {y : MethodName} {cc : ByteArray} {t : Tab} {nL : Nat} {ret : Option FieldType} {d mc ms : Nat} {Qp : Option AV → Wo → Prop} {g : gF}
variable {k n : Nat} {w : Wo} {pc pc' tgt : Nat} {lv lv' : Lo} {st st' : List AV} {off x z : Int}
theorem qdec (ht : t.all (fun q => decide (decode cc q.1 = .ok q.2)) = true) {b : Instr × Nat} (h : qlk t pc = some b) : decode cc pc = .ok b := by
  have h1 := List.all_eq_true.mp ht _ (qlk_mem t h)
  exact of_decide_eq_true h1
theorem Mach.run (M : Mach l G y cc t nL ret d mc ms Qp g) (f : Nat) (hr : prun t f pc lv st = some (pc', lv', st')) (kk : g k n w pc' lv' st') : g k n w pc lv st := by
  obtain ⟨p, e, s, m, args, below, meth, c, A, hx, hb, ht, hml, hr', hlk, hown, hts, hnm, hA, hAB, hB, hK, hSt, rfl⟩ := M
  intro H locs ls hP hD hS hl
  exact prun_ok hx hb ht f hr hl (fun ls' h' => kk H locs ls' hP hD hS h')
theorem Mach.icmp_eq (M : Mach l G y cc t nL ret d mc ms Qp g) (hq : qlk t pc = some (.if_icmp .eq off, 3)) (hx1 : inI x) (hz1 : inI z) (ho : (pc : Int) + off = (tgt : Int)) (kt : x = z → g k n w tgt lv st) (kf : ¬ (x = z) → g k n w (pc + 3) lv st) : g k n w pc lv (vi z :: vi x :: st) := by
  obtain ⟨p, e, s, m, args, below, meth, c, A, hx, hb, ht, hml, hr', hlk, hown, hts, hnm, hA, hAB, hB, hK, hSt, rfl⟩ := M
  intro H locs ls hP hD hS hl
  exact lv_icmp_eq hx hb (qdec ht hq) ho (fun q => kt ((iI_eq hx1 hz1).mp q) H locs ls hP hD hS hl) (fun q => kf (fun z1 => q ((iI_eq hx1 hz1).mpr z1)) H locs ls hP hD hS hl)
theorem Mach.if_eq (M : Mach l G y cc t nL ret d mc ms Qp g) (hq : qlk t pc = some (.ifCond .eq off, 3)) (hx1 : inI x) (ho : (pc : Int) + off = (tgt : Int)) (kt : x = 0 → g k n w tgt lv st) (kf : ¬ (x = 0) → g k n w (pc + 3) lv st) : g k n w pc lv (vi x :: st) := by
  obtain ⟨p, e, s, m, args, below, meth, c, A, hx, hb, ht, hml, hr', hlk, hown, hts, hnm, hA, hAB, hB, hK, hSt, rfl⟩ := M
  intro H locs ls hP hD hS hl
  have hz1 : inI 0 := inI_0
  exact lv_if_eq hx hb (qdec ht hq) ho (fun q => kt ((iI_eq hx1 hz1).mp q) H locs ls hP hD hS hl) (fun q => kf (fun z1 => q ((iI_eq hx1 hz1).mpr z1)) H locs ls hP hD hS hl)
theorem Mach.icmp_ne (M : Mach l G y cc t nL ret d mc ms Qp g) (hq : qlk t pc = some (.if_icmp .ne off, 3)) (hx1 : inI x) (hz1 : inI z) (ho : (pc : Int) + off = (tgt : Int)) (kt : ¬ x = z → g k n w tgt lv st) (kf : x = z → g k n w (pc + 3) lv st) : g k n w pc lv (vi z :: vi x :: st) := by
  obtain ⟨p, e, s, m, args, below, meth, c, A, hx, hb, ht, hml, hr', hlk, hown, hts, hnm, hA, hAB, hB, hK, hSt, rfl⟩ := M
  intro H locs ls hP hD hS hl
  exact lv_icmp_ne hx hb (qdec ht hq) ho (fun q => kt (fun z1 => q ((iI_eq hx1 hz1).mpr z1)) H locs ls hP hD hS hl) (fun q => kf ((iI_eq hx1 hz1).mp q) H locs ls hP hD hS hl)
theorem Mach.if_ne (M : Mach l G y cc t nL ret d mc ms Qp g) (hq : qlk t pc = some (.ifCond .ne off, 3)) (hx1 : inI x) (ho : (pc : Int) + off = (tgt : Int)) (kt : ¬ x = 0 → g k n w tgt lv st) (kf : x = 0 → g k n w (pc + 3) lv st) : g k n w pc lv (vi x :: st) := by
  obtain ⟨p, e, s, m, args, below, meth, c, A, hx, hb, ht, hml, hr', hlk, hown, hts, hnm, hA, hAB, hB, hK, hSt, rfl⟩ := M
  intro H locs ls hP hD hS hl
  have hz1 : inI 0 := inI_0
  exact lv_if_ne hx hb (qdec ht hq) ho (fun q => kt (fun z1 => q ((iI_eq hx1 hz1).mpr z1)) H locs ls hP hD hS hl) (fun q => kf ((iI_eq hx1 hz1).mp q) H locs ls hP hD hS hl)
theorem Mach.icmp_lt (M : Mach l G y cc t nL ret d mc ms Qp g) (hq : qlk t pc = some (.if_icmp .lt off, 3)) (hx1 : inI x) (hz1 : inI z) (ho : (pc : Int) + off = (tgt : Int)) (kt : x < z → g k n w tgt lv st) (kf : ¬ (x < z) → g k n w (pc + 3) lv st) : g k n w pc lv (vi z :: vi x :: st) := by
  obtain ⟨p, e, s, m, args, below, meth, c, A, hx, hb, ht, hml, hr', hlk, hown, hts, hnm, hA, hAB, hB, hK, hSt, rfl⟩ := M
  intro H locs ls hP hD hS hl
  exact lv_icmp_lt hx hb (qdec ht hq) ho (fun q => kt ((iI_lt hx1 hz1).mp q) H locs ls hP hD hS hl) (fun q => kf (fun z1 => q ((iI_lt hx1 hz1).mpr z1)) H locs ls hP hD hS hl)
theorem Mach.if_lt (M : Mach l G y cc t nL ret d mc ms Qp g) (hq : qlk t pc = some (.ifCond .lt off, 3)) (hx1 : inI x) (ho : (pc : Int) + off = (tgt : Int)) (kt : x < 0 → g k n w tgt lv st) (kf : ¬ (x < 0) → g k n w (pc + 3) lv st) : g k n w pc lv (vi x :: st) := by
  obtain ⟨p, e, s, m, args, below, meth, c, A, hx, hb, ht, hml, hr', hlk, hown, hts, hnm, hA, hAB, hB, hK, hSt, rfl⟩ := M
  intro H locs ls hP hD hS hl
  have hz1 : inI 0 := inI_0
  exact lv_if_lt hx hb (qdec ht hq) ho (fun q => kt ((iI_lt hx1 hz1).mp q) H locs ls hP hD hS hl) (fun q => kf (fun z1 => q ((iI_lt hx1 hz1).mpr z1)) H locs ls hP hD hS hl)
theorem Mach.icmp_ge (M : Mach l G y cc t nL ret d mc ms Qp g) (hq : qlk t pc = some (.if_icmp .ge off, 3)) (hx1 : inI x) (hz1 : inI z) (ho : (pc : Int) + off = (tgt : Int)) (kt : z ≤ x → g k n w tgt lv st) (kf : ¬ (z ≤ x) → g k n w (pc + 3) lv st) : g k n w pc lv (vi z :: vi x :: st) := by
  obtain ⟨p, e, s, m, args, below, meth, c, A, hx, hb, ht, hml, hr', hlk, hown, hts, hnm, hA, hAB, hB, hK, hSt, rfl⟩ := M
  intro H locs ls hP hD hS hl
  exact lv_icmp_ge hx hb (qdec ht hq) ho (fun q => kt ((iI_le hz1 hx1).mp q) H locs ls hP hD hS hl) (fun q => kf (fun z1 => q ((iI_le hz1 hx1).mpr z1)) H locs ls hP hD hS hl)
theorem Mach.if_ge (M : Mach l G y cc t nL ret d mc ms Qp g) (hq : qlk t pc = some (.ifCond .ge off, 3)) (hx1 : inI x) (ho : (pc : Int) + off = (tgt : Int)) (kt : 0 ≤ x → g k n w tgt lv st) (kf : ¬ (0 ≤ x) → g k n w (pc + 3) lv st) : g k n w pc lv (vi x :: st) := by
  obtain ⟨p, e, s, m, args, below, meth, c, A, hx, hb, ht, hml, hr', hlk, hown, hts, hnm, hA, hAB, hB, hK, hSt, rfl⟩ := M
  intro H locs ls hP hD hS hl
  have hz1 : inI 0 := inI_0
  exact lv_if_ge hx hb (qdec ht hq) ho (fun q => kt ((iI_le hz1 hx1).mp q) H locs ls hP hD hS hl) (fun q => kf (fun z1 => q ((iI_le hz1 hx1).mpr z1)) H locs ls hP hD hS hl)
theorem Mach.icmp_gt (M : Mach l G y cc t nL ret d mc ms Qp g) (hq : qlk t pc = some (.if_icmp .gt off, 3)) (hx1 : inI x) (hz1 : inI z) (ho : (pc : Int) + off = (tgt : Int)) (kt : z < x → g k n w tgt lv st) (kf : ¬ (z < x) → g k n w (pc + 3) lv st) : g k n w pc lv (vi z :: vi x :: st) := by
  obtain ⟨p, e, s, m, args, below, meth, c, A, hx, hb, ht, hml, hr', hlk, hown, hts, hnm, hA, hAB, hB, hK, hSt, rfl⟩ := M
  intro H locs ls hP hD hS hl
  exact lv_icmp_gt hx hb (qdec ht hq) ho (fun q => kt ((iI_lt hz1 hx1).mp q) H locs ls hP hD hS hl) (fun q => kf (fun z1 => q ((iI_lt hz1 hx1).mpr z1)) H locs ls hP hD hS hl)
theorem Mach.if_gt (M : Mach l G y cc t nL ret d mc ms Qp g) (hq : qlk t pc = some (.ifCond .gt off, 3)) (hx1 : inI x) (ho : (pc : Int) + off = (tgt : Int)) (kt : 0 < x → g k n w tgt lv st) (kf : ¬ (0 < x) → g k n w (pc + 3) lv st) : g k n w pc lv (vi x :: st) := by
  obtain ⟨p, e, s, m, args, below, meth, c, A, hx, hb, ht, hml, hr', hlk, hown, hts, hnm, hA, hAB, hB, hK, hSt, rfl⟩ := M
  intro H locs ls hP hD hS hl
  have hz1 : inI 0 := inI_0
  exact lv_if_gt hx hb (qdec ht hq) ho (fun q => kt ((iI_lt hz1 hx1).mp q) H locs ls hP hD hS hl) (fun q => kf (fun z1 => q ((iI_lt hz1 hx1).mpr z1)) H locs ls hP hD hS hl)
theorem Mach.icmp_le (M : Mach l G y cc t nL ret d mc ms Qp g) (hq : qlk t pc = some (.if_icmp .le off, 3)) (hx1 : inI x) (hz1 : inI z) (ho : (pc : Int) + off = (tgt : Int)) (kt : x ≤ z → g k n w tgt lv st) (kf : ¬ (x ≤ z) → g k n w (pc + 3) lv st) : g k n w pc lv (vi z :: vi x :: st) := by
  obtain ⟨p, e, s, m, args, below, meth, c, A, hx, hb, ht, hml, hr', hlk, hown, hts, hnm, hA, hAB, hB, hK, hSt, rfl⟩ := M
  intro H locs ls hP hD hS hl
  exact lv_icmp_le hx hb (qdec ht hq) ho (fun q => kt ((iI_le hx1 hz1).mp q) H locs ls hP hD hS hl) (fun q => kf (fun z1 => q ((iI_le hx1 hz1).mpr z1)) H locs ls hP hD hS hl)
theorem Mach.if_le (M : Mach l G y cc t nL ret d mc ms Qp g) (hq : qlk t pc = some (.ifCond .le off, 3)) (hx1 : inI x) (ho : (pc : Int) + off = (tgt : Int)) (kt : x ≤ 0 → g k n w tgt lv st) (kf : ¬ (x ≤ 0) → g k n w (pc + 3) lv st) : g k n w pc lv (vi x :: st) := by
  obtain ⟨p, e, s, m, args, below, meth, c, A, hx, hb, ht, hml, hr', hlk, hown, hts, hnm, hA, hAB, hB, hK, hSt, rfl⟩ := M
  intro H locs ls hP hD hS hl
  have hz1 : inI 0 := inI_0
  exact lv_if_le hx hb (qdec ht hq) ho (fun q => kt ((iI_le hx1 hz1).mp q) H locs ls hP hD hS hl) (fun q => kf (fun z1 => q ((iI_le hx1 hz1).mpr z1)) H locs ls hP hD hS hl)
theorem WU_of {s : State} {A : Nat → Prop} {H : Heap} {t : State} {locs : List Loc} (hP : va_P (gD G) vwCl (w.map (qm G)) H) (hD : va_D A (w.map (qm G))) (hS : va_S A s.heap H locs) (hAB : ∀ q : Nat, A q → gB G ≤ q) (hB : gB G ≤ s.heap.size) (hK : va_K (gD G) vwCl (tyq G) s) (hSt : Stq G s) (ht : t.heap = H) (hW : s.WarmedH t.vm) : WU G w t := by
  refine ⟨by rw [ht]; exact hP, hD.weaken (fun _ q _ h => hAB q.1 h), by rw [ht]; exact Nat.le_trans hB hS.1, va_K.moved hW.alike hK, Stq_kept hSt (Nq_warm hW hSt.2.2.2.2.1) hW.alike (fun a h1 h2 => by rw [ht]; exact hS.2.1 a h1 (fun z => h2 (hAB a z)))⟩
theorem Mach.iret (M : Mach l G y cc t nL (some .int) d mc ms Qp g) (hq : qlk t pc = some (.ireturn, 1)) (hk : k ≤ mc) (hn : n ≤ ms) (h : Qp (some (vi z)) w) : g k n w pc lv [vi z] := by
  obtain ⟨p, e, s, m, args, below, meth, c, A, hx, hb, ht, hml, hr', hlk, hown, hts, hnm, hA, hAB, hB, hK, hSt, rfl⟩ := M
  intro H locs ls hP hD hS hl
  refine W.widen hk hn ?_
  exact W.iret hx hb hr' (fun t ht hW => ⟨⟨some (vi z), w, rfl, h, WU_of hP hD hS hAB hB hK hSt ht hW, hD⟩, hS.F ht⟩) hS.2.2 (qdec ht hq)
theorem Mach.lret (M : Mach l G y cc t nL (some .long) d mc ms Qp g) (hq : qlk t pc = some (.lreturn, 1)) (hk : k ≤ mc) (hn : n ≤ ms) (h : Qp (some (vl z)) w) : g k n w pc lv [vl z] := by
  obtain ⟨p, e, s, m, args, below, meth, c, A, hx, hb, ht, hml, hr', hlk, hown, hts, hnm, hA, hAB, hB, hK, hSt, rfl⟩ := M
  intro H locs ls hP hD hS hl
  refine W.widen hk hn ?_
  exact W.lret hx hb hr' (fun t ht hW => ⟨⟨some (vl z), w, rfl, h, WU_of hP hD hS hAB hB hK hSt ht hW, hD⟩, hS.F ht⟩) hS.2.2 (qdec ht hq)
theorem Mach.vret (M : Mach l G y cc t nL none d mc ms Qp g) (hq : qlk t pc = some (.return_, 1)) (hk : k ≤ mc) (hn : n ≤ ms) (h : Qp none w) : g k n w pc lv [] := by
  obtain ⟨p, e, s, m, args, below, meth, c, A, hx, hb, ht, hml, hr', hlk, hown, hts, hnm, hA, hAB, hB, hK, hSt, rfl⟩ := M
  intro H locs ls hP hD hS hl
  refine W.widen hk hn ?_
  exact W.vret hx hb hr' (fun t ht hW => ⟨⟨none, w, rfl, h, WU_of hP hD hS hAB hB hK hSt ht hW, hD⟩, hS.F ht⟩) hS.2.2 (qdec ht hq)
theorem Mach.zret (M : Mach l G y cc t nL (some .boolean) d mc ms Qp g) (hq : qlk t pc = some (.ireturn, 1)) (hz : z = 0 ∨ z = 1) (hk : k ≤ mc) (hn : n ≤ ms) (h : Qp (some (vi z)) w) : g k n w pc lv [vi z] := by
  obtain ⟨p, e, s, m, args, below, meth, c, A, hx, hb, ht, hml, hr', hlk, hown, hts, hnm, hA, hAB, hB, hK, hSt, rfl⟩ := M
  intro H locs ls hP hD hS hl
  refine W.widen hk hn ?_
  exact W.zret hx hb hr' (by rcases hz with rfl | rfl <;> rfl) (fun t ht hW => ⟨⟨some (vi z), w, rfl, h, WU_of hP hD hS hAB hB hK hSt ht hW, hD⟩, hS.F ht⟩) hS.2.2 (qdec ht hq)
theorem Mach.aret {C : String} {r : Option Nat} (M : Mach l G y cc t nL (some (.object C)) d mc ms Qp g) (hq : qlk t pc = some (.areturn, 1)) (hk : k ≤ mc) (hn : n ≤ ms) (h : Qp (some (.inr (.inr r))) w) : g k n w pc lv [.inr (.inr r)] := by
  obtain ⟨p, e, s, m, args, below, meth, c, A, hx, hb, ht, hml, hr', hlk, hown, hts, hnm, hA, hAB, hB, hK, hSt, rfl⟩ := M
  intro H locs ls hP hD hS hl
  refine W.widen hk hn ?_
  exact W.aret hx hb hr' (Or.inl ⟨_, rfl⟩) (by cases r with
    | none => exact Or.inl rfl
    | some a => exact Or.inr ⟨a, rfl⟩) (fun t ht hW => ⟨⟨some (.inr (.inr r)), w, rfl, h, WU_of hP hD hS hAB hB hK hSt ht hW, hD⟩, hS.F ht⟩) hS.2.2 (qdec ht hq)
end QROWS
