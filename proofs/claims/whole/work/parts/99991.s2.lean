/-! the start: classes, arrays, statics, texts -/
theorem arr_in {args : Array Value} {s : State} {ty : FieldType} (h : (Cond.arrayClass ty).before args s = true) : ∃ cA : ClassId, ArrOfT s cA ty ∧ s.vm.findClass ("[" ++ ty.toString) = some cA := by
  obtain ⟨c, k, comp, h1, h2, h3⟩ := Cond.arrayClass_spec (args := args) (first := s) (o := none) (s := s) (idx := []) h
  exact ⟨c, fun n z => ⟨fun k h => (by cases h), k, h2, comp, h3⟩, h1⟩
theorem arq_in {s : State} {C : String} (h : va_AO C s) : ∃ cA : ClassId, ArrOfT s cA (.object C) ∧ va_RA s (cA, (.object C : FieldType)).1 (.object C) := by
  obtain ⟨comp, c, k, h1, h2, h3, h4, h5⟩ := Cond.arrayOver_spec (args := #[]) (first := s) (o := none) (s := s) (idx := []) h
  exact ⟨c, fun n z => ⟨fun k h => (by cases h), k, h3, comp, h4⟩, k, comp, h3, h4, h1, h5⟩
set_option maxHeartbeats 4000000 in
theorem K_of {args : Array Value} {s : State} (hts : ∀ w ∈ lw_g, w.before args s = true) (hao : AOs s) : ∃ (D : va_G) (cA : Nat → ClassId), va_K D vwCl [(cA 0, .int), (cA 1, .long), (cA 2, .boolean), (cA 3, .object "LongCarrier$Text"), (cA 4, .object "LongCarrier$State")] s := by
  obtain ⟨c1, i1, k1⟩ := u_known (C := RX1) (T := TX1) (N := 4) (n := 4) hts inX1 (hts _ wd_i_RX1)
  obtain ⟨c2, i2, k2⟩ := u_known (C := RX2) (T := TX2) (N := 7) (n := 7) hts inX2 (hts _ wd_i_RX2)
  obtain ⟨c3, i3, k3⟩ := u_known (C := RX3) (T := TX3) (N := 11) (n := 11) hts inX3 (hts _ wd_i_RX3)
  obtain ⟨c4, i4, k4⟩ := u_known (C := RX4) (T := TX4) (N := 3) (n := 3) hts inX4 (hts _ wd_i_RX4)
  obtain ⟨c5, i5, k5⟩ := u_known (C := RX5) (T := TX5) (N := 5) (n := 5) hts inX5 (hts _ wd_i_RX5)
  obtain ⟨c6, i6, k6⟩ := u_known (C := RX6) (T := TX6) (N := 11) (n := 11) hts inX6 (hts _ wd_i_RX6)
  obtain ⟨c7, i7, k7⟩ := u_known (C := RX7) (T := TX7) (N := 3) (n := 3) hts inX7 (hts _ wd_i7)
  obtain ⟨c8, i8, k8⟩ := u_known (C := RX8) (T := TX8) (N := 4) (n := 4) hts inX8 (hts _ wd_i_RX8)
  obtain ⟨c9, i9, k9⟩ := u_known (C := RX9) (T := TX9) (N := 15) (n := 15) hts inX9 (hts _ wd_i_RX9)
  obtain ⟨c10, i10, k10⟩ := u_known (C := RX10) (T := TX10) (N := 11) (n := 11) hts inX10 (hts _ wd_i_RX10)
  obtain ⟨c11, i11, k11⟩ := u_known (C := RX11) (T := TX11) (N := 25) (n := 25) hts inX11 (hts _ wd_i_RX11)
  obtain ⟨a0, x0, y0⟩ := arr_in (hts _ wd_ai)
  obtain ⟨a1, x1, y1⟩ := arr_in (hts _ wd_al)
  obtain ⟨a2, x2, y2⟩ := arr_in (hts _ wd_az)
  obtain ⟨a3, x3, y3⟩ := arq_in hao.1
  obtain ⟨a4, x4, y4⟩ := arq_in hao.2
  refine ⟨(fun c => match c with | 0 => c1 | 1 => c2 | 2 => c3 | 3 => c4 | 4 => c5 | 5 => c6 | 6 => c7 | 7 => c8 | 8 => c9 | 9 => c10 | _ => c11, fun c => match c with | 0 => i1 | 1 => i2 | 2 => i3 | 3 => i4 | 4 => i5 | 5 => i6 | 6 => i7 | 7 => i8 | 8 => i9 | 9 => i10 | _ => i11), fun c => match c with | 0 => a0 | 1 => a1 | 2 => a2 | 3 => a3 | _ => a4, fun c q hq => ?_, fun c q hq => ?_⟩
  · match c, hq with
    | 0, hq => cases hq; exact k1
    | 1, hq => cases hq; exact k2
    | 2, hq => cases hq; exact k3
    | 3, hq => cases hq; exact k4
    | 4, hq => cases hq; exact k5
    | 5, hq => cases hq; exact k6
    | 6, hq => cases hq; exact k7
    | 7, hq => cases hq; exact k8
    | 8, hq => cases hq; exact k9
    | 9, hq => cases hq; exact k10
    | 10, hq => cases hq; exact k11
    | n + 11, hq => exact absurd (List.getElem?_eq_some_iff.mp hq).1 (by show ¬ n + 11 < 11; omega)
  · match c, hq with
    | 0, hq => cases hq; exact ⟨x0, y0⟩
    | 1, hq => cases hq; exact ⟨x1, y1⟩
    | 2, hq => cases hq; exact ⟨x2, y2⟩
    | 3, hq => cases hq; exact ⟨x3, y3⟩
    | 4, hq => cases hq; exact ⟨x4, y4⟩
    | n + 5, hq => exact absurd (List.getElem?_eq_some_iff.mp hq).1 (by show ¬ n + 5 < 5; omega)
abbrev Fg : List Cond := flatC (Jvm.Cond.and given_1 narrow_1)
def tmS (i : Nat) : Term := if i = 0 then .string "LongCarrier$Tokens" 70 else .string "LongCarrier$Tokens" 58
def byS : List (List Int32) := stL.map (fun x => x.map iI)
set_option maxRecDepth 100000 in
theorem st_ex : ∀ i : Nat, i < 2 → Cond.exactly (tmS i) "java/lang/String" ∈ Fg := by decide +kernel
set_option maxRecDepth 100000 in
theorem st_co : ∀ i : Nat, i < 2 → Cond.eq (.field (tmS i) "java/lang/String" "coder" "B") (.int 0) ∈ Fg := by decide +kernel
set_option maxRecDepth 100000 in
theorem st_ar : ∀ i : Nat, i < 2 → Cond.arrayOf (.field (tmS i) "java/lang/String" "value" "[B") .byte ∈ Fg := by decide +kernel
set_option maxRecDepth 100000 in
theorem st_le : ∀ i : Nat, i < 2 → Cond.eq (.length (.field (tmS i) "java/lang/String" "value" "[B")) (.int (Int32.ofNat (([121, 11] : List Nat).getD i 0))) ∈ Fg := by decide +kernel
set_option maxRecDepth 100000 in
theorem st_el : ∀ i : Nat, i < 2 → ∀ j : Nat, j < ([121, 11] : List Nat).getD i 0 → Cond.eq (.elem (.field (tmS i) "java/lang/String" "value" "[B") (.int (Int32.ofNat j))) (.int ((byS.getD i []).getD j 0)) ∈ Fg := by decide +kernel
set_option maxRecDepth 100000 in
theorem st_ne : ∀ i : Nat, i < 2 → ∀ j : Nat, j < 2 → i ≠ j → Cond.not (Cond.eq (tmS i) (tmS j)) ∈ Fg ∨ Cond.not (Cond.eq (tmS j) (tmS i)) ∈ Fg := by decide +kernel
set_option maxRecDepth 100000 in
theorem tm_el : ∀ j : Nat, j < 6 → Cond.eq (.elem (.static "LongCarrier" "TIMER_COLUMNS" "[I") (.int (Int32.ofNat j))) (.int (iI (tcq j))) ∈ Fg := by decide +kernel
set_option maxRecDepth 100000 in
theorem tm_ar : Cond.arrayOf (.static "LongCarrier" "TIMER_COLUMNS" "[I") .int ∈ Fg ∧ Cond.eq (.length (.static "LongCarrier" "TIMER_COLUMNS" "[I")) (.int (Int32.ofNat 6)) ∈ Fg := by decide +kernel
set_option maxRecDepth 100000 in
theorem nc_ar : Cond.arrayOf (.static "LongCarrier" "NO_CODE" "[I") .int ∈ Fg ∧ Cond.eq (.length (.static "LongCarrier" "NO_CODE" "[I")) (.int (Int32.ofNat 0)) ∈ Fg := by decide +kernel
set_option maxRecDepth 100000 in
theorem cs_in : Cond.eq (.static "java/lang/String" "COMPACT_STRINGS" "Z") (.int 1) ∈ Fg ∧ Cond.isRef (.static "jdk/internal/util/Preconditions" "SIOOBE_FORMATTER" "Ljava/util/function/BiFunction;") ∈ Fg := by decide +kernel
set_option maxRecDepth 100000 in
theorem lt_nc : Cond.laysStatic "LongCarrier" "NO_CODE" "[I" ∈ lw_tbl := List.mem_of_getElem? (i := 409) (by decide +kernel)
set_option maxRecDepth 100000 in
theorem lt_tc : Cond.laysStatic "LongCarrier" "TIMER_COLUMNS" "[I" ∈ lw_tbl := List.mem_of_getElem? (i := 1077) (by decide +kernel)
set_option maxRecDepth 100000 in
theorem lt_cs : Cond.laysStatic "java/lang/String" "COMPACT_STRINGS" "Z" ∈ lw_tbl := List.mem_of_getElem? (i := 554) (by decide +kernel)
set_option maxRecDepth 100000 in
theorem lt_si : Cond.laysStatic "jdk/internal/util/Preconditions" "SIOOBE_FORMATTER" "Ljava/util/function/BiFunction;" ∈ lw_tbl := List.mem_of_getElem? (i := 570) (by decide +kernel)
set_option maxRecDepth 100000 in
theorem lt_i0 : Cond.initialized "LongCarrier" ∈ lw_tbl := List.mem_of_getElem? (i := 124) (by decide +kernel)
set_option maxRecDepth 100000 in
theorem lt_i1 : Cond.initialized "java/lang/String" ∈ lw_tbl := List.mem_of_getElem? (i := 135) (by decide +kernel)
set_option maxRecDepth 100000 in
theorem lt_i2 : Cond.initialized "jdk/internal/util/Preconditions" ∈ lw_tbl := List.mem_of_getElem? (i := 137) (by decide +kernel)
set_option maxRecDepth 100000 in
theorem lt_r0 : Cond.stringRef "LongCarrier$Tokens" 70 "loses waits block open cancel day of by claimed come if then else end or and not clock sun kind number delay bytes tried " ∈ lw_tbl := List.mem_of_getElem? (i := 544) (by decide +kernel)
set_option maxRecDepth 100000 in
theorem lt_r1 : Cond.stringRef "LongCarrier$Tokens" 58 "<>=#+-*/();" ∈ lw_tbl := List.mem_of_getElem? (i := 606) (by decide +kernel)
set_option maxRecDepth 100000 in
theorem lt_ca : Cond.castable "[I" "java/lang/Cloneable" ∈ lw_tbl := List.mem_of_getElem? (i := 683) (by decide +kernel)
set_option maxRecDepth 100000 in
theorem lt_fn : ncW ∈ lw_tbl := List.mem_of_getElem? (i := 408) (by decide +kernel)
set_option maxRecDepth 100000 in
theorem lt_ao3 : Cond.arrayOver (.object "LongCarrier$Text") ∈ lw_tbl := List.mem_of_getElem? (i := 165) (by decide +kernel)
set_option maxRecDepth 100000 in
theorem lt_ao4 : Cond.arrayOver (.object "LongCarrier$State") ∈ lw_tbl := List.mem_of_getElem? (i := 311) (by decide +kernel)
set_option maxHeartbeats 4000000 in
theorem Stq_of {args : Array Value} {s : State} (D : va_G) (cA : Nat → ClassId) (hts : ∀ w ∈ lw_tbl, w.before args s = true) (hg : ∀ w ∈ Fg, w.before args s = true) : ∃ (tN tT : Nat) (aK aV : Nat → Nat), Stq (D, cA, s.heap.size, tN, tT, aK, aV) s := by
  have hA : ∀ a : Nat, a < s.heap.size → ¬ (fun q => s.heap.size ≤ q) a := fun a h z => by
    have z2 : s.heap.size ≤ a := z
    omega
  obtain ⟨tN, n1, n2⟩ := va_Tof (N := 0) (f := fun _ => .null) (A := fun q => s.heap.size ≤ q) (by decide) (hg _ nc_ar.1) (va_eqt (hg _ nc_ar.2)) (fun j hj => absurd hj (Nat.not_lt_zero _)) hA
  obtain ⟨tT, t1, t2⟩ := va_Tof (N := 6) (f := fun k => .int (iI (tcq k))) (A := fun q => s.heap.size ≤ q) (by decide) (hg _ tm_ar.1) (va_eqt (hg _ tm_ar.2)) (fun j hj => va_eqt (hg _ (tm_el j hj))) hA
  obtain ⟨aK, aV, s1, s2⟩ := vk_Sof (N := 2) (tm := tmS) (len := [121, 11]) (byt := byS) (A := fun q => s.heap.size ≤ q) (by decide) (fun i hi => hg _ (st_ex i hi)) (fun i hi => hg _ (st_co i hi)) (fun i hi => hg _ (st_ar i hi)) (fun i hi => hg _ (st_le i hi)) (fun i hi j hj => hg _ (st_el i hi j hj)) (fun i j hi hj hne => (st_ne i hi j hj hne).imp (fun z => hg _ z) (fun z => hg _ z)) hA
  refine ⟨tN, tT, aK, aV, va_Zof (hts _ lt_nc) (hts _ lt_i0) n1 hA, n2, va_Zof (hts _ lt_tc) (hts _ lt_i0) t1 hA, t2, ⟨va_Nw.of rfl (hts _ lt_fn), vk_R.of (hts _ lt_r0) (s2 0 (by decide)), vk_R.of (hts _ lt_r1) (s2 1 (by decide)), va_Nw.of rfl (hts _ lt_ca)⟩, s1, va_Zof (hts _ lt_cs) (hts _ lt_i1) (va_eqt (hg _ cs_in.1)) hA, va_Zqof (hts _ lt_si) (hts _ lt_i2) (hg _ cs_in.2) hA⟩
