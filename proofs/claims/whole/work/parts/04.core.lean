/-! the abstract machine: values as Int, locals and stack as lists, the world as a list of cells by address -/
abbrev AV : Type := Int ⊕ (Int ⊕ Option Nat)
abbrev vi (z : Int) : AV := .inl z
abbrev vl (z : Int) : AV := .inr (.inl z)
abbrev vr (a : Nat) : AV := .inr (.inr (some a))
abbrev vn : AV := .inr (.inr none)
def iI (z : Int) : Int32 := Int32.ofInt z
def lI (z : Int) : Int64 := Int64.ofInt z
def qv : AV → Value
  | .inl z => .int (iI z)
  | .inr (.inl z) => .long (lI z)
  | .inr (.inr r) => va_rf r
abbrev Ce : Type := (Nat × List AV) ⊕ (Nat × Nat × (Nat → Int))
abbrev Ob (ci : Nat) (fs : List AV) : Ce := .inl (ci, fs)
abbrev Ar (t n : Nat) (f : Nat → Int) : Ce := .inr (t, n, f)
abbrev Wo : Type := List (Nat × Ce)
/-- what is the same for all: classes and slots, classes of arrays, the first address of ours, the two static arrays, the two texts and their bytes -/
abbrev GT : Type := va_G × (Nat → ClassId) × Nat × Nat × Nat × (Nat → Nat) × (Nat → Nat)
abbrev gD (G : GT) : va_G := G.1
abbrev gA (G : GT) : Nat → ClassId := G.2.1
abbrev gB (G : GT) : Nat := G.2.2.1
abbrev gN (G : GT) : Nat := G.2.2.2.1
abbrev gT (G : GT) : Nat := G.2.2.2.2.1
abbrev gS (G : GT) : Nat → Nat := G.2.2.2.2.2.1
abbrev gV (G : GT) : Nat → Nat := G.2.2.2.2.2.2
def qar (t n : Nat) (f : Nat → Int) : vp_A := match t with
  | 1 => (n, .inr (.inl (fun k => lI (f k))))
  | 0 => (n, .inl (fun k => iI (f k)))
  | 2 => (n, .inl (fun k => iI (f k)))
  | _ => (n, .inr (.inr (.inr (.inr (fun k => if f k < 0 then none else some (f k).toNat)))))
def qc (G : GT) : Ce → va_E
  | .inl (ci, fs) => .inr (ci, fs.map qv)
  | .inr (t, n, f) => .inl (gA G t, qar t n f)
def qm (G : GT) (q : Nat × Ce) : Nat × va_E := (q.1, qc G q.2)
def tyq (G : GT) : List (ClassId × FieldType) := [(gA G 0, .int), (gA G 1, .long), (gA G 2, .boolean), (gA G 3, .object "LongCarrier$Text"), (gA G 4, .object "LongCarrier$State")]
def tcq : Nat → Int := fun k => ([8, 0, 1, 2, 7, 6] : List Int).getD k 0
/-- the reader's link to the row of no orders -/
abbrev ncW : Cond := .fieldLinkNest "LongCarrier$Reader" 25 "LongCarrier" "NO_CODE" "[I" "LongCarrier"
/-- the texts' bytes -/
def stL : List (List Int) := [[108, 111, 115, 101, 115, 32, 119, 97, 105, 116, 115, 32, 98, 108, 111, 99, 107, 32, 111, 112, 101, 110, 32, 99, 97, 110, 99, 101, 108, 32, 100, 97, 121, 32, 111, 102, 32, 98, 121, 32, 99, 108, 97, 105, 109, 101, 100, 32, 99, 111, 109, 101, 32, 105, 102, 32, 116, 104, 101, 110, 32, 101, 108, 115, 101, 32, 101, 110, 100, 32, 111, 114, 32, 97, 110, 100, 32, 110, 111, 116, 32, 99, 108, 111, 99, 107, 32, 115, 117, 110, 32, 107, 105, 110, 100, 32, 110, 117, 109, 98, 101, 114, 32, 100, 101, 108, 97, 121, 32, 98, 121, 116, 101, 115, 32, 116, 114, 105, 101, 100, 32], [60, 62, 61, 35, 43, 45, 42, 47, 40, 41, 59]]
def Nq (G : GT) (U : State) : Prop := va_Nw ncW U ∧ vk_R "LongCarrier$Tokens" 70 "loses waits block open cancel day of by claimed come if then else end or and not clock sun kind number delay bytes tried " (gS G 0) U ∧ vk_R "LongCarrier$Tokens" 58 "<>=#+-*/();" (gS G 1) U ∧ va_Nw (.castable "[I" "java/lang/Cloneable") U
theorem Nq_warm {G : GT} {s U : State} (hW : s.WarmedH U.vm) (h : Nq G s) : Nq G U := ⟨va_Nw.warmF hW h.1, vk_R.warm hW h.2.1, vk_R.warm hW h.2.2.1, va_Nw.warmC hW h.2.2.2⟩
theorem Nq_same {G : GT} {u U : State} (hv : U.vm = u.vm) (h : Nq G u) : Nq G U := ⟨va_Nw.same rfl hv.symm h.1, vk_R.same hv h.2.1, vk_R.same hv h.2.2.1, va_Nw.same rfl hv.symm h.2.2.2⟩
def Stq (G : GT) (U : State) : Prop :=
  va_Z "LongCarrier" "NO_CODE" "[I" (.ref (gN G)) (fun q => gB G ≤ q) U U.heap ∧ va_T .int (gN G) 0 (fun _ => .null) (fun q => gB G ≤ q) U U.heap ∧
  va_Z "LongCarrier" "TIMER_COLUMNS" "[I" (.ref (gT G)) (fun q => gB G ≤ q) U U.heap ∧ va_T .int (gT G) 6 (fun k => .int (iI (tcq k))) (fun q => gB G ≤ q) U U.heap ∧ Nq G U ∧
  vk_S 2 [121, 11] (stL.map (fun x => x.map iI)) (gS G) (gV G) (fun q => gB G ≤ q) U U.heap ∧ va_Z "java/lang/String" "COMPACT_STRINGS" "Z" (.int 1) (fun q => gB G ≤ q) U U.heap ∧ va_Zq "jdk/internal/util/Preconditions" "SIOOBE_FORMATTER" "Ljava/util/function/BiFunction;" (fun q => gB G ≤ q) U U.heap
def WU (G : GT) (w : Wo) (U : State) : Prop :=
  va_P (gD G) vwCl (w.map (qm G)) U.heap ∧ va_D (fun q => gB G ≤ q) (w.map (qm G)) ∧ gB G ≤ U.heap.size ∧ va_K (gD G) vwCl (tyq G) U ∧ Stq G U
abbrev rmq (d mc ms : Nat) : Room := { frames := d, cells := mc, slots := ms, locals := 64 * d }
/-- a method's contract in these words -/
def Ctr (l : Launch) (G : GT) (y : MethodName) (cc : ByteArray) (maxL : Nat) (ret : Option FieldType) (d mc ms : Nat) (av : List AV) (P : Wo → Prop) (Q : Wo → Option AV → Wo → Prop) : Prop :=
  ∀ (w : Wo) (sz : Nat), P w → Met l y (.code y cc maxL ret :: lw_g) (rmq d mc ms) (va_Pc (av.map qv) (fun U => U.heap.size = sz ∧ WU G w U))
    (fun _ st o t => (∃ r w', o = .returned (r.map qv) ∧ Q w r w' ∧ WU G w' t ∧ va_D (va_A (w.map (qm G)) sz) (w'.map (qm G))) ∧ va_F (va_A (w.map (qm G)) sz) st t) mc ms (va_A (w.map (qm G)) sz)
abbrev Tab : Type := List (Nat × Instr × Nat)
abbrev Lo : Type := List (Option AV)
def qlk : Tab → Nat → Option (Instr × Nat)
  | [], _ => none
  | (a, b) :: t, pc => bif Nat.beq a pc then some b else qlk t pc
theorem qlk_mem : ∀ (t : Tab) {pc : Nat} {b : Instr × Nat}, qlk t pc = some b → (pc, b) ∈ t
  | [], pc, b, h => by cases h
  | (a, c) :: t, pc, b, h => by
    unfold qlk at h
    cases hab : Nat.beq a pc with
    | true =>
      rw [hab] at h
      cases h
      rw [Nat.eq_of_beq_eq_true hab]
      exact List.mem_cons_self
    | false =>
      rw [hab] at h
      exact List.mem_cons_of_mem _ (qlk_mem t h)
def qp : Nat → Lo → List (Nat × Value)
  | _, [] => []
  | i, none :: t => qp (i + 1) t
  | i, some v :: t => (i, qv v) :: qp (i + 1) t
theorem qp_mem : ∀ (lv : Lo) (i : Nat) (q : Nat × Value), q ∈ qp i lv ↔ ∃ (j : Nat) (v : AV), lv[j]? = some (some v) ∧ q = (i + j, qv v)
  | [], i, q => by simp [qp]
  | none :: t, i, q => by
    rw [show qp i (none :: t) = qp (i + 1) t from rfl, qp_mem t (i + 1) q]
    constructor
    · rintro ⟨j, v, h1, h2⟩
      exact ⟨j + 1, v, h1, by rw [h2]; congr 1; omega⟩
    · rintro ⟨j, v, h1, h2⟩
      cases j with
      | zero => cases h1
      | succ j => exact ⟨j, v, h1, by rw [h2]; congr 1; omega⟩
  | some x :: t, i, q => by
    rw [show qp i (some x :: t) = (i, qv x) :: qp (i + 1) t from rfl, List.mem_cons, qp_mem t (i + 1) q]
    constructor
    · rintro (h | ⟨j, v, h1, h2⟩)
      · exact ⟨0, x, rfl, h⟩
      · exact ⟨j + 1, v, h1, by rw [h2]; congr 1; omega⟩
    · rintro ⟨j, v, h1, h2⟩
      cases j with
      | zero => cases h1; exact Or.inl h2
      | succ j => exact Or.inr ⟨j, v, h1, by rw [h2]; congr 1; omega⟩
def Lh (nL : Nat) (ls : Array Slot) (lv : Lo) : Prop := lv.length = nL ∧ lv_has ls nL (qp 0 lv)
theorem Lh_at {nL : Nat} {ls : Array Slot} {lv : Lo} (h : Lh nL ls lv) {i : Nat} {v : AV} (hi : lv[i]? = some (some v)) : ls[i]? = some (.val (qv v)) :=
  h.2.2.2 (i, qv v) ((qp_mem lv 0 _).mpr ⟨i, v, hi, by simp⟩)
def isL : AV → Bool
  | .inr (.inl _) => true
  | _ => false
theorem qv_cat (v : AV) : (qv v).category = if isL v = true then 2 else 1 := by
  rcases v with z | z | r
  · rfl
  · rfl
  · cases r <;> rfl
def clr (lv : Lo) (i : Nat) : Lo := match i with
  | 0 => lv
  | j + 1 => match lv[j]? with
    | some (some v) => bif isL v then lv.set j none else lv
    | _ => lv
def sto (lv : Lo) (i : Nat) (v : AV) : Lo := (clr lv i).set i (some v)
def stl (lv : Lo) (i : Nat) (v : AV) : Lo := ((clr lv i).set i (some v)).set (i + 1) none
theorem clr_len (lv : Lo) (i : Nat) : (clr lv i).length = lv.length := by
  unfold clr
  split
  · rfl
  · split
    · rename_i v _
      cases isL v <;> simp
    · rfl
theorem clr_get {lv : Lo} {i j : Nat} {v : AV} (h : (clr lv i)[j]? = some (some v)) : lv[j]? = some (some v) ∧ ¬ (j + 1 = i ∧ isL v = true) := by
  unfold clr at h
  split at h
  · exact ⟨h, by omega⟩
  · rename_i i
    split at h
    · rename_i u hu
      cases hL : isL u with
      | true =>
        rw [hL] at h
        simp only [cond_true] at h
        by_cases hij : i = j
        · subst hij
          rw [List.getElem?_set_self (List.getElem?_eq_some_iff.mp hu).1] at h
          cases h
        · rw [List.getElem?_set_ne hij] at h
          exact ⟨h, by omega⟩
      | false =>
        rw [hL] at h
        simp only [cond_false] at h
        refine ⟨h, fun ⟨e, q⟩ => ?_⟩
        have : j = i := by omega
        subst this
        rw [hu] at h
        cases h
        rw [hL] at q
        cases q
    · rename_i hu
      refine ⟨h, fun ⟨e, q⟩ => ?_⟩
      have : j = i := by omega
      subst this
      exact hu v h
theorem Lh_sto {nL : Nat} {ls ls' : Array Slot} {lv : Lo} {i : Nat} {v : AV} (h : Lh nL ls lv) (hl : lv_has ls' nL ((i, qv v) :: (qp 0 lv).filter (fun q => !(q.1 == i) && !(q.1 + 1 == i && q.2.category == 2)))) (hi : i < nL) : Lh nL ls' (sto lv i v) := by
  refine ⟨by unfold sto; rw [List.length_set, clr_len]; exact h.1, hl.1, hl.2.1, fun q hq => hl.2.2 q ?_⟩
  obtain ⟨j, u, h1, rfl⟩ := (qp_mem _ 0 q).mp hq
  unfold sto at h1
  by_cases hij : i = j
  · subst hij
    rw [List.getElem?_set_self (by rw [clr_len, h.1]; exact hi)] at h1
    cases h1
    simp
  · rw [List.getElem?_set_ne hij] at h1
    obtain ⟨g1, g2⟩ := clr_get h1
    refine List.mem_cons_of_mem _ (List.mem_filter.mpr ⟨(qp_mem lv 0 _).mpr ⟨j, u, g1, rfl⟩, ?_⟩)
    have hc := qv_cat u
    simp only [Nat.zero_add]
    by_cases hL : isL u = true
    · rw [if_pos hL] at hc
      rw [hc]
      have : ¬ j + 1 = i := fun z => g2 ⟨z, hL⟩
      simp [this]
      omega
    · rw [if_neg hL] at hc
      rw [hc]
      simp
      omega
