def FLk (own : String) (idx ci kf : Nat) (fin : Bool) (ty : FieldType) : Prop := ∃ (C : String) (T : u_T) (N : Nat) (ty0 : Nat → FieldType), vwCl[ci]? = some (C, T, N) ∧ (∀ w ∈ u_ws C T N, w ∈ lw_g) ∧ kf < N ∧ Cond.fieldLink own idx (T kf).1 (T kf).2.1 (T kf).2.2.1 ∈ lw_g ∧ (T kf).2.2.2 = fin ∧ (T kf).1 = C ∧ parseFieldDescriptor (T kf).2.2.1 = some ty ∧ (∀ k, k < N → parseFieldDescriptor (T k).2.2.1 = some (ty0 k)) ∧ (∀ a, a < N → ∀ b, b < N → a ≠ b → (T a).2.1 ≠ (T b).2.1)
def yOk (y : MethodName) (n : Nat) : Prop := y.cls ≠ "java/lang/invoke/MethodHandle" ∧ y.cls ≠ "java/lang/invoke/VarHandle" ∧ (parseMethodDescriptor y.desc).map (fun d => d.parameters.length) = some n
abbrev CLV (own : String) (idx ci : Nat) (y : MethodName) (n : Nat) : Prop := ∃ (T : u_T) (N : Nat), vwCl[ci]? = some (y.cls, T, N) ∧ Cond.methodLink own idx y ∈ lw_g ∧ Cond.instanceMethod y ∈ lw_g ∧ Cond.selects y.cls y y ∈ lw_g ∧ Cond.initialized y.cls ∈ lw_g ∧ (y.cls ≠ "java/lang/invoke/MethodHandle" ∧ y.cls ≠ "java/lang/invoke/VarHandle" ∧ (parseMethodDescriptor y.desc).map (fun d => d.parameters.length) = some n)
abbrev CLS (own : String) (idx : Nat) (y : MethodName) (n : Nat) : Prop := Cond.methodLink own idx y ∈ lw_g ∧ Cond.static y ∈ lw_g ∧ Cond.initialized y.cls ∈ lw_g ∧ (y.cls ≠ "java/lang/invoke/MethodHandle" ∧ y.cls ≠ "java/lang/invoke/VarHandle" ∧ (parseMethodDescriptor y.desc).map (fun d => d.parameters.length) = some n)
abbrev CLI (own : String) (idx : Nat) (y : MethodName) (n : Nat) : Prop := Cond.methodLink own idx y ∈ lw_g ∧ Cond.instanceMethod y ∈ lw_g ∧ Cond.initialized y.cls ∈ lw_g ∧ (y.name = "<init>" ∧ y.cls ≠ "java/lang/invoke/MethodHandle" ∧ y.cls ≠ "java/lang/invoke/VarHandle" ∧ (parseMethodDescriptor y.desc).map (fun d => d.parameters.length) = some n)
set_option maxRecDepth 20000 in
theorem fl_X10_12 : FLk RX10 12 9 0 true (.object "LongCarrier$Standing") := ⟨RX10, TX10, 11, tyX10, rfl, inX10, Nat.le_of_ble_eq_true rfl, lw_g_in (List.mem_of_getElem? (i := 446) (by decide +kernel)) rfl, rfl, rfl, by decide +kernel, tyX10_ok, nmX10⟩
set_option maxRecDepth 20000 in
theorem fl_X10_16 : FLk RX10 16 9 1 true (.object "LongCarrier$Standing") := ⟨RX10, TX10, 11, tyX10, rfl, inX10, Nat.le_of_ble_eq_true rfl, lw_g_in (List.mem_of_getElem? (i := 447) (by decide +kernel)) rfl, rfl, rfl, by decide +kernel, tyX10_ok, nmX10⟩
set_option maxRecDepth 20000 in
theorem fl_X10_19 : FLk RX10 19 4 0 true (.object "LongCarrier$Told") := ⟨RX5, TX5, 5, tyX5, rfl, inX5, Nat.le_of_ble_eq_true rfl, lw_g_in (List.mem_of_getElem? (i := 313) (by decide +kernel)) rfl, rfl, rfl, by decide +kernel, tyX5_ok, nmX5⟩
set_option maxRecDepth 20000 in
theorem fl_X10_23 : FLk RX10 23 9 2 true (.object "LongCarrier$Told") := ⟨RX10, TX10, 11, tyX10, rfl, inX10, Nat.le_of_ble_eq_true rfl, lw_g_in (List.mem_of_getElem? (i := 448) (by decide +kernel)) rfl, rfl, rfl, by decide +kernel, tyX10_ok, nmX10⟩
set_option maxRecDepth 20000 in
theorem fl_X10_24 : FLk RX10 24 4 1 true (.object "LongCarrier$State") := ⟨RX5, TX5, 5, tyX5, rfl, inX5, Nat.le_of_ble_eq_true rfl, lw_g_in (List.mem_of_getElem? (i := 315) (by decide +kernel)) rfl, rfl, rfl, by decide +kernel, tyX5_ok, nmX5⟩
set_option maxRecDepth 20000 in
theorem fl_X10_28 : FLk RX10 28 9 3 true (.object "LongCarrier$State") := ⟨RX10, TX10, 11, tyX10, rfl, inX10, Nat.le_of_ble_eq_true rfl, lw_g_in (List.mem_of_getElem? (i := 449) (by decide +kernel)) rfl, rfl, rfl, by decide +kernel, tyX10_ok, nmX10⟩
set_option maxRecDepth 20000 in
theorem fl_X10_34 : FLk RX10 34 9 4 true (.object "LongCarrier$Engine") := ⟨RX10, TX10, 11, tyX10, rfl, inX10, Nat.le_of_ble_eq_true rfl, lw_g_in (List.mem_of_getElem? (i := 450) (by decide +kernel)) rfl, rfl, rfl, by decide +kernel, tyX10_ok, nmX10⟩
set_option maxRecDepth 20000 in
theorem fl_X10_41 : FLk RX10 41 9 5 true (.object "LongCarrier$Engine") := ⟨RX10, TX10, 11, tyX10, rfl, inX10, Nat.le_of_ble_eq_true rfl, lw_g_in (List.mem_of_getElem? (i := 451) (by decide +kernel)) rfl, rfl, rfl, by decide +kernel, tyX10_ok, nmX10⟩
set_option maxRecDepth 20000 in
theorem fl_X10_47 : FLk RX10 47 9 6 true (.object "LongCarrier$Reader") := ⟨RX10, TX10, 11, tyX10, rfl, inX10, Nat.le_of_ble_eq_true rfl, lw_g_in (List.mem_of_getElem? (i := 452) (by decide +kernel)) rfl, rfl, rfl, by decide +kernel, tyX10_ok, nmX10⟩
set_option maxRecDepth 20000 in
theorem fl_X10_51 : FLk RX10 51 9 7 true (.array .int) := ⟨RX10, TX10, 11, tyX10, rfl, inX10, Nat.le_of_ble_eq_true rfl, lw_g_in (List.mem_of_getElem? (i := 453) (by decide +kernel)) rfl, rfl, rfl, by decide +kernel, tyX10_ok, nmX10⟩
set_option maxRecDepth 20000 in
theorem fl_X10_55 : FLk RX10 55 9 9 false .int := ⟨RX10, TX10, 11, tyX10, rfl, inX10, Nat.le_of_ble_eq_true rfl, lw_g_in (List.mem_of_getElem? (i := 455) (by decide +kernel)) rfl, rfl, rfl, by decide +kernel, tyX10_ok, nmX10⟩
set_option maxRecDepth 20000 in
theorem fl_X10_59 : FLk RX10 59 9 10 false .int := ⟨RX10, TX10, 11, tyX10, rfl, inX10, Nat.le_of_ble_eq_true rfl, lw_g_in (List.mem_of_getElem? (i := 456) (by decide +kernel)) rfl, rfl, rfl, by decide +kernel, tyX10_ok, nmX10⟩
set_option maxRecDepth 20000 in
theorem fl_X10_68 : FLk RX10 68 8 3 false .int := ⟨RX9, TX9, 15, tyX9, rfl, inX9, Nat.le_of_ble_eq_true rfl, lw_g_in (List.mem_of_getElem? (i := 171) (by decide +kernel)) rfl, rfl, rfl, by decide +kernel, tyX9_ok, nmX9⟩
set_option maxRecDepth 20000 in
theorem fl_X10_71 : FLk RX10 71 8 4 false .int := ⟨RX9, TX9, 15, tyX9, rfl, inX9, Nat.le_of_ble_eq_true rfl, lw_g_in (List.mem_of_getElem? (i := 173) (by decide +kernel)) rfl, rfl, rfl, by decide +kernel, tyX9_ok, nmX9⟩
set_option maxRecDepth 20000 in
theorem fl_X10_74 : FLk RX10 74 8 5 false .int := ⟨RX9, TX9, 15, tyX9, rfl, inX9, Nat.le_of_ble_eq_true rfl, lw_g_in (List.mem_of_getElem? (i := 175) (by decide +kernel)) rfl, rfl, rfl, by decide +kernel, tyX9_ok, nmX9⟩
set_option maxRecDepth 20000 in
theorem fl_X10_77 : FLk RX10 77 8 6 false .int := ⟨RX9, TX9, 15, tyX9, rfl, inX9, Nat.le_of_ble_eq_true rfl, lw_g_in (List.mem_of_getElem? (i := 178) (by decide +kernel)) rfl, rfl, rfl, by decide +kernel, tyX9_ok, nmX9⟩
set_option maxRecDepth 20000 in
theorem fl_X10_80 : FLk RX10 80 8 7 false .int := ⟨RX9, TX9, 15, tyX9, rfl, inX9, Nat.le_of_ble_eq_true rfl, lw_g_in (List.mem_of_getElem? (i := 181) (by decide +kernel)) rfl, rfl, rfl, by decide +kernel, tyX9_ok, nmX9⟩
set_option maxRecDepth 20000 in
theorem fl_X10_83 : FLk RX10 83 8 8 false .int := ⟨RX9, TX9, 15, tyX9, rfl, inX9, Nat.le_of_ble_eq_true rfl, lw_g_in (List.mem_of_getElem? (i := 184) (by decide +kernel)) rfl, rfl, rfl, by decide +kernel, tyX9_ok, nmX9⟩
set_option maxRecDepth 20000 in
theorem fl_X10_86 : FLk RX10 86 9 8 false .int := ⟨RX10, TX10, 11, tyX10, rfl, inX10, Nat.le_of_ble_eq_true rfl, lw_g_in (List.mem_of_getElem? (i := 454) (by decide +kernel)) rfl, rfl, rfl, by decide +kernel, tyX10_ok, nmX10⟩
set_option maxRecDepth 20000 in
theorem fl_X10_93 : FLk RX10 93 8 9 false .int := ⟨RX9, TX9, 15, tyX9, rfl, inX9, Nat.le_of_ble_eq_true rfl, lw_g_in (List.mem_of_getElem? (i := 187) (by decide +kernel)) rfl, rfl, rfl, by decide +kernel, tyX9_ok, nmX9⟩
set_option maxRecDepth 20000 in
theorem fl_X10_100 : FLk RX10 100 2 9 false .int := ⟨RX3, TX3, 11, tyX3, rfl, inX3, Nat.le_of_ble_eq_true rfl, lw_g_in (List.mem_of_getElem? (i := 420) (by decide +kernel)) rfl, rfl, rfl, by decide +kernel, tyX3_ok, nmX3⟩
set_option maxRecDepth 20000 in
theorem fl_X10_101 : FLk RX10 101 2 10 false .int := ⟨RX3, TX3, 11, tyX3, rfl, inX3, Nat.le_of_ble_eq_true rfl, lw_g_in (List.mem_of_getElem? (i := 422) (by decide +kernel)) rfl, rfl, rfl, by decide +kernel, tyX3_ok, nmX3⟩
set_option maxRecDepth 20000 in
theorem fl_X10_106 : FLk RX10 106 8 11 false .int := ⟨RX9, TX9, 15, tyX9, rfl, inX9, Nat.le_of_ble_eq_true rfl, lw_g_in (List.mem_of_getElem? (i := 190) (by decide +kernel)) rfl, rfl, rfl, by decide +kernel, tyX9_ok, nmX9⟩
set_option maxRecDepth 20000 in
theorem fl_X10_109 : FLk RX10 109 8 12 false .int := ⟨RX9, TX9, 15, tyX9, rfl, inX9, Nat.le_of_ble_eq_true rfl, lw_g_in (List.mem_of_getElem? (i := 192) (by decide +kernel)) rfl, rfl, rfl, by decide +kernel, tyX9_ok, nmX9⟩
set_option maxRecDepth 20000 in
theorem fl_X10_134 : FLk RX10 134 5 0 false .int := ⟨RX6, TX6, 11, tyX6, rfl, inX6, Nat.le_of_ble_eq_true rfl, lw_g_in (List.mem_of_getElem? (i := 258) (by decide +kernel)) rfl, rfl, rfl, by decide +kernel, tyX6_ok, nmX6⟩
set_option maxRecDepth 20000 in
theorem fl_X10_137 : FLk RX10 137 5 3 false .int := ⟨RX6, TX6, 11, tyX6, rfl, inX6, Nat.le_of_ble_eq_true rfl, lw_g_in (List.mem_of_getElem? (i := 267) (by decide +kernel)) rfl, rfl, rfl, by decide +kernel, tyX6_ok, nmX6⟩
set_option maxRecDepth 20000 in
theorem fl_X10_173 : FLk RX10 173 5 2 false .int := ⟨RX6, TX6, 11, tyX6, rfl, inX6, Nat.le_of_ble_eq_true rfl, lw_g_in (List.mem_of_getElem? (i := 264) (by decide +kernel)) rfl, rfl, rfl, by decide +kernel, tyX6_ok, nmX6⟩
set_option maxRecDepth 20000 in
theorem fl_X10_192 : FLk RX10 192 5 5 true (.object "LongCarrier$Rows") := ⟨RX6, TX6, 11, tyX6, rfl, inX6, Nat.le_of_ble_eq_true rfl, lw_g_in (List.mem_of_getElem? (i := 274) (by decide +kernel)) rfl, rfl, rfl, by decide +kernel, tyX6_ok, nmX6⟩
set_option maxRecDepth 20000 in
theorem fl_X10_234 : FLk RX10 234 5 8 true (.object "LongCarrier$Rows") := ⟨RX6, TX6, 11, tyX6, rfl, inX6, Nat.le_of_ble_eq_true rfl, lw_g_in (List.mem_of_getElem? (i := 281) (by decide +kernel)) rfl, rfl, rfl, by decide +kernel, tyX6_ok, nmX6⟩
set_option maxRecDepth 20000 in
theorem fl_X10_237 : FLk RX10 237 5 9 true (.object "LongCarrier$Rows") := ⟨RX6, TX6, 11, tyX6, rfl, inX6, Nat.le_of_ble_eq_true rfl, lw_g_in (List.mem_of_getElem? (i := 284) (by decide +kernel)) rfl, rfl, rfl, by decide +kernel, tyX6_ok, nmX6⟩
set_option maxRecDepth 20000 in
theorem fl_X10_240 : FLk RX10 240 3 2 false .int := ⟨RX4, TX4, 3, tyX4, rfl, inX4, Nat.le_of_ble_eq_true rfl, lw_g_in (List.mem_of_getElem? (i := 247) (by decide +kernel)) rfl, rfl, rfl, by decide +kernel, tyX4_ok, nmX4⟩
set_option maxRecDepth 20000 in
theorem fl_X10_246 : FLk RX10 246 5 1 false .int := ⟨RX6, TX6, 11, tyX6, rfl, inX6, Nat.le_of_ble_eq_true rfl, lw_g_in (List.mem_of_getElem? (i := 262) (by decide +kernel)) rfl, rfl, rfl, by decide +kernel, tyX6_ok, nmX6⟩
set_option maxRecDepth 20000 in
theorem fl_X10_249 : FLk RX10 249 5 4 false .int := ⟨RX6, TX6, 11, tyX6, rfl, inX6, Nat.le_of_ble_eq_true rfl, lw_g_in (List.mem_of_getElem? (i := 270) (by decide +kernel)) rfl, rfl, rfl, by decide +kernel, tyX6_ok, nmX6⟩
set_option maxRecDepth 20000 in
theorem fl_X10_252 : FLk RX10 252 5 10 true (.object "LongCarrier$Rows") := ⟨RX6, TX6, 11, tyX6, rfl, inX6, Nat.le_of_ble_eq_true rfl, lw_g_in (List.mem_of_getElem? (i := 287) (by decide +kernel)) rfl, rfl, rfl, by decide +kernel, tyX6_ok, nmX6⟩
set_option maxRecDepth 20000 in
theorem fl_X10_255 : FLk RX10 255 8 0 false .int := ⟨RX9, TX9, 15, tyX9, rfl, inX9, Nat.le_of_ble_eq_true rfl, lw_g_in (List.mem_of_getElem? (i := 167) (by decide +kernel)) rfl, rfl, rfl, by decide +kernel, tyX9_ok, nmX9⟩
set_option maxRecDepth 20000 in
theorem fl_X10_258 : FLk RX10 258 4 4 false .int := ⟨RX5, TX5, 5, tyX5, rfl, inX5, Nat.le_of_ble_eq_true rfl, lw_g_in (List.mem_of_getElem? (i := 319) (by decide +kernel)) rfl, rfl, rfl, by decide +kernel, tyX5_ok, nmX5⟩
set_option maxRecDepth 20000 in
theorem fl_X10_276 : FLk RX10 276 0 1 true (.object "LongCarrier$State") := ⟨RX1, TX1, 4, tyX1, rfl, inX1, Nat.le_of_ble_eq_true rfl, lw_g_in (List.mem_of_getElem? (i := 367) (by decide +kernel)) rfl, rfl, rfl, by decide +kernel, tyX1_ok, nmX1⟩
set_option maxRecDepth 20000 in
theorem fl_X10_284 : FLk RX10 284 0 3 false .boolean := ⟨RX1, TX1, 4, tyX1, rfl, inX1, Nat.le_of_ble_eq_true rfl, lw_g_in (List.mem_of_getElem? (i := 371) (by decide +kernel)) rfl, rfl, rfl, by decide +kernel, tyX1_ok, nmX1⟩
set_option maxRecDepth 20000 in
theorem fl_X10_304 : FLk RX10 304 0 2 true (.object "LongCarrier$Law") := ⟨RX1, TX1, 4, tyX1, rfl, inX1, Nat.le_of_ble_eq_true rfl, lw_g_in (List.mem_of_getElem? (i := 369) (by decide +kernel)) rfl, rfl, rfl, by decide +kernel, tyX1_ok, nmX1⟩
set_option maxRecDepth 20000 in
theorem fl_X1_9 : FLk RX1 9 0 0 true (.object "LongCarrier$Told") := ⟨RX1, TX1, 4, tyX1, rfl, inX1, Nat.le_of_ble_eq_true rfl, lw_g_in (List.mem_of_getElem? (i := 365) (by decide +kernel)) rfl, rfl, rfl, by decide +kernel, tyX1_ok, nmX1⟩
set_option maxRecDepth 20000 in
theorem fl_X1_15 : FLk RX1 15 0 1 true (.object "LongCarrier$State") := ⟨RX1, TX1, 4, tyX1, rfl, inX1, Nat.le_of_ble_eq_true rfl, lw_g_in (List.mem_of_getElem? (i := 366) (by decide +kernel)) rfl, rfl, rfl, by decide +kernel, tyX1_ok, nmX1⟩
set_option maxRecDepth 20000 in
theorem fl_X1_24 : FLk RX1 24 0 2 true (.object "LongCarrier$Law") := ⟨RX1, TX1, 4, tyX1, rfl, inX1, Nat.le_of_ble_eq_true rfl, lw_g_in (List.mem_of_getElem? (i := 368) (by decide +kernel)) rfl, rfl, rfl, by decide +kernel, tyX1_ok, nmX1⟩
set_option maxRecDepth 20000 in
theorem fl_X1_28 : FLk RX1 28 0 3 false .boolean := ⟨RX1, TX1, 4, tyX1, rfl, inX1, Nat.le_of_ble_eq_true rfl, lw_g_in (List.mem_of_getElem? (i := 370) (by decide +kernel)) rfl, rfl, rfl, by decide +kernel, tyX1_ok, nmX1⟩
set_option maxRecDepth 20000 in
theorem fl_X1_38 : FLk RX1 38 3 2 false .int := ⟨RX4, TX4, 3, tyX4, rfl, inX4, Nat.le_of_ble_eq_true rfl, lw_g_in (List.mem_of_getElem? (i := 246) (by decide +kernel)) rfl, rfl, rfl, by decide +kernel, tyX4_ok, nmX4⟩
set_option maxRecDepth 20000 in
theorem fl_X1_50 : FLk RX1 50 5 5 true (.object "LongCarrier$Rows") := ⟨RX6, TX6, 11, tyX6, rfl, inX6, Nat.le_of_ble_eq_true rfl, lw_g_in (List.mem_of_getElem? (i := 272) (by decide +kernel)) rfl, rfl, rfl, by decide +kernel, tyX6_ok, nmX6⟩
set_option maxRecDepth 20000 in
theorem fl_X1_58 : FLk RX1 58 5 10 true (.object "LongCarrier$Rows") := ⟨RX6, TX6, 11, tyX6, rfl, inX6, Nat.le_of_ble_eq_true rfl, lw_g_in (List.mem_of_getElem? (i := 286) (by decide +kernel)) rfl, rfl, rfl, by decide +kernel, tyX6_ok, nmX6⟩
set_option maxRecDepth 20000 in
theorem fl_X1_61 : FLk RX1 61 5 0 false .int := ⟨RX6, TX6, 11, tyX6, rfl, inX6, Nat.le_of_ble_eq_true rfl, lw_g_in (List.mem_of_getElem? (i := 255) (by decide +kernel)) rfl, rfl, rfl, by decide +kernel, tyX6_ok, nmX6⟩
set_option maxRecDepth 20000 in
theorem fl_X1_100 : FLk RX1 100 5 8 true (.object "LongCarrier$Rows") := ⟨RX6, TX6, 11, tyX6, rfl, inX6, Nat.le_of_ble_eq_true rfl, lw_g_in (List.mem_of_getElem? (i := 280) (by decide +kernel)) rfl, rfl, rfl, by decide +kernel, tyX6_ok, nmX6⟩
set_option maxRecDepth 20000 in
theorem fl_X1_116 : FLk RX1 116 5 1 false .int := ⟨RX6, TX6, 11, tyX6, rfl, inX6, Nat.le_of_ble_eq_true rfl, lw_g_in (List.mem_of_getElem? (i := 260) (by decide +kernel)) rfl, rfl, rfl, by decide +kernel, tyX6_ok, nmX6⟩
set_option maxRecDepth 20000 in
theorem fl_X1_128 : FLk RX1 128 8 7 false .int := ⟨RX9, TX9, 15, tyX9, rfl, inX9, Nat.le_of_ble_eq_true rfl, lw_g_in (List.mem_of_getElem? (i := 182) (by decide +kernel)) rfl, rfl, rfl, by decide +kernel, tyX9_ok, nmX9⟩
set_option maxRecDepth 20000 in
theorem fl_X1_138 : FLk RX1 138 5 6 true (.object "LongCarrier$Rows") := ⟨RX6, TX6, 11, tyX6, rfl, inX6, Nat.le_of_ble_eq_true rfl, lw_g_in (List.mem_of_getElem? (i := 276) (by decide +kernel)) rfl, rfl, rfl, by decide +kernel, tyX6_ok, nmX6⟩
set_option maxRecDepth 20000 in
theorem fl_X1_145 : FLk RX1 145 5 9 true (.object "LongCarrier$Rows") := ⟨RX6, TX6, 11, tyX6, rfl, inX6, Nat.le_of_ble_eq_true rfl, lw_g_in (List.mem_of_getElem? (i := 283) (by decide +kernel)) rfl, rfl, rfl, by decide +kernel, tyX6_ok, nmX6⟩
set_option maxRecDepth 20000 in
theorem fl_X1_158 : FLk RX1 158 5 7 true (.object "LongCarrier$Rows") := ⟨RX6, TX6, 11, tyX6, rfl, inX6, Nat.le_of_ble_eq_true rfl, lw_g_in (List.mem_of_getElem? (i := 278) (by decide +kernel)) rfl, rfl, rfl, by decide +kernel, tyX6_ok, nmX6⟩
set_option maxRecDepth 20000 in
theorem fl_X1_161 : FLk RX1 161 5 3 false .int := ⟨RX6, TX6, 11, tyX6, rfl, inX6, Nat.le_of_ble_eq_true rfl, lw_g_in (List.mem_of_getElem? (i := 266) (by decide +kernel)) rfl, rfl, rfl, by decide +kernel, tyX6_ok, nmX6⟩
set_option maxRecDepth 20000 in
theorem fl_X1_176 : FLk RX1 176 5 4 false .int := ⟨RX6, TX6, 11, tyX6, rfl, inX6, Nat.le_of_ble_eq_true rfl, lw_g_in (List.mem_of_getElem? (i := 269) (by decide +kernel)) rfl, rfl, rfl, by decide +kernel, tyX6_ok, nmX6⟩
set_option maxRecDepth 20000 in
theorem fl_X1_179 : FLk RX1 179 8 6 false .int := ⟨RX9, TX9, 15, tyX9, rfl, inX9, Nat.le_of_ble_eq_true rfl, lw_g_in (List.mem_of_getElem? (i := 179) (by decide +kernel)) rfl, rfl, rfl, by decide +kernel, tyX9_ok, nmX9⟩
set_option maxRecDepth 20000 in
theorem fl_X1_195 : FLk RX1 195 8 8 false .int := ⟨RX9, TX9, 15, tyX9, rfl, inX9, Nat.le_of_ble_eq_true rfl, lw_g_in (List.mem_of_getElem? (i := 185) (by decide +kernel)) rfl, rfl, rfl, by decide +kernel, tyX9_ok, nmX9⟩
set_option maxRecDepth 20000 in
theorem fl_X2_9 : FLk RX2 9 1 0 true (.object "LongCarrier$Told") := ⟨RX2, TX2, 7, tyX2, rfl, inX2, Nat.le_of_ble_eq_true rfl, lw_g_in (List.mem_of_getElem? (i := 343) (by decide +kernel)) rfl, rfl, rfl, by decide +kernel, tyX2_ok, nmX2⟩
set_option maxRecDepth 20000 in
theorem fl_X2_15 : FLk RX2 15 1 1 true (.object "LongCarrier$State") := ⟨RX2, TX2, 7, tyX2, rfl, inX2, Nat.le_of_ble_eq_true rfl, lw_g_in (List.mem_of_getElem? (i := 344) (by decide +kernel)) rfl, rfl, rfl, by decide +kernel, tyX2_ok, nmX2⟩
set_option maxRecDepth 20000 in
theorem fl_X2_19 : FLk RX2 19 1 2 true (.array .int) := ⟨RX2, TX2, 7, tyX2, rfl, inX2, Nat.le_of_ble_eq_true rfl, lw_g_in (List.mem_of_getElem? (i := 345) (by decide +kernel)) rfl, rfl, rfl, by decide +kernel, tyX2_ok, nmX2⟩
set_option maxRecDepth 20000 in
theorem fl_X2_23 : FLk RX2 23 6 0 true (.array .int) := ⟨RX7, TX7, 3, tyX7, rfl, inX7, Nat.le_of_ble_eq_true rfl, lw_g_in (List.mem_of_getElem? (i := 709) (by decide +kernel)) rfl, rfl, rfl, by decide +kernel, tyX7_ok, nmX7⟩
set_option maxRecDepth 20000 in
theorem fl_X2_41 : FLk RX2 41 6 1 true (.array .int) := ⟨RX7, TX7, 3, tyX7, rfl, inX7, Nat.le_of_ble_eq_true rfl, lw_g_in (List.mem_of_getElem? (i := 711) (by decide +kernel)) rfl, rfl, rfl, by decide +kernel, tyX7_ok, nmX7⟩
set_option maxRecDepth 20000 in
theorem fl_X2_44 : FLk RX2 44 8 6 false .int := ⟨RX9, TX9, 15, tyX9, rfl, inX9, Nat.le_of_ble_eq_true rfl, lw_g_in (List.mem_of_getElem? (i := 177) (by decide +kernel)) rfl, rfl, rfl, by decide +kernel, tyX9_ok, nmX9⟩
set_option maxRecDepth 20000 in
theorem fl_X2_50 : FLk RX2 50 1 4 false .int := ⟨RX2, TX2, 7, tyX2, rfl, inX2, Nat.le_of_ble_eq_true rfl, lw_g_in (List.mem_of_getElem? (i := 347) (by decide +kernel)) rfl, rfl, rfl, by decide +kernel, tyX2_ok, nmX2⟩
set_option maxRecDepth 20000 in
theorem fl_X2_53 : FLk RX2 53 1 5 false .int := ⟨RX2, TX2, 7, tyX2, rfl, inX2, Nat.le_of_ble_eq_true rfl, lw_g_in (List.mem_of_getElem? (i := 348) (by decide +kernel)) rfl, rfl, rfl, by decide +kernel, tyX2_ok, nmX2⟩
set_option maxRecDepth 20000 in
theorem fl_X2_56 : FLk RX2 56 1 6 false .int := ⟨RX2, TX2, 7, tyX2, rfl, inX2, Nat.le_of_ble_eq_true rfl, lw_g_in (List.mem_of_getElem? (i := 349) (by decide +kernel)) rfl, rfl, rfl, by decide +kernel, tyX2_ok, nmX2⟩
set_option maxRecDepth 20000 in
theorem fl_X2_59 : FLk RX2 59 1 3 false .int := ⟨RX2, TX2, 7, tyX2, rfl, inX2, Nat.le_of_ble_eq_true rfl, lw_g_in (List.mem_of_getElem? (i := 346) (by decide +kernel)) rfl, rfl, rfl, by decide +kernel, tyX2_ok, nmX2⟩
set_option maxRecDepth 20000 in
theorem fl_X2_84 : FLk RX2 84 5 5 true (.object "LongCarrier$Rows") := ⟨RX6, TX6, 11, tyX6, rfl, inX6, Nat.le_of_ble_eq_true rfl, lw_g_in (List.mem_of_getElem? (i := 273) (by decide +kernel)) rfl, rfl, rfl, by decide +kernel, tyX6_ok, nmX6⟩
set_option maxRecDepth 20000 in
theorem fl_X2_100 : FLk RX2 100 5 0 false .int := ⟨RX6, TX6, 11, tyX6, rfl, inX6, Nat.le_of_ble_eq_true rfl, lw_g_in (List.mem_of_getElem? (i := 257) (by decide +kernel)) rfl, rfl, rfl, by decide +kernel, tyX6_ok, nmX6⟩
set_option maxRecDepth 20000 in
theorem fl_X2_103 : FLk RX2 103 5 1 false .int := ⟨RX6, TX6, 11, tyX6, rfl, inX6, Nat.le_of_ble_eq_true rfl, lw_g_in (List.mem_of_getElem? (i := 261) (by decide +kernel)) rfl, rfl, rfl, by decide +kernel, tyX6_ok, nmX6⟩
set_option maxRecDepth 20000 in
theorem fl_X3_12 : FLk RX3 12 2 0 true (.object "LongCarrier$Tokens") := ⟨RX3, TX3, 11, tyX3, rfl, inX3, Nat.le_of_ble_eq_true rfl, lw_g_in (List.mem_of_getElem? (i := 410) (by decide +kernel)) rfl, rfl, rfl, by decide +kernel, tyX3_ok, nmX3⟩
set_option maxRecDepth 20000 in
theorem fl_X3_18 : FLk RX3 18 2 1 true (.array .int) := ⟨RX3, TX3, 11, tyX3, rfl, inX3, Nat.le_of_ble_eq_true rfl, lw_g_in (List.mem_of_getElem? (i := 411) (by decide +kernel)) rfl, rfl, rfl, by decide +kernel, tyX3_ok, nmX3⟩
set_option maxRecDepth 20000 in
theorem fl_X3_22 : FLk RX3 22 2 2 true (.array .int) := ⟨RX3, TX3, 11, tyX3, rfl, inX3, Nat.le_of_ble_eq_true rfl, lw_g_in (List.mem_of_getElem? (i := 412) (by decide +kernel)) rfl, rfl, rfl, by decide +kernel, tyX3_ok, nmX3⟩
set_option maxRecDepth 20000 in
theorem fl_X3_28 : FLk RX3 28 2 7 false (.array .int) := ⟨RX3, TX3, 11, tyX3, rfl, inX3, Nat.le_of_ble_eq_true rfl, lw_g_in (List.mem_of_getElem? (i := 417) (by decide +kernel)) rfl, rfl, rfl, by decide +kernel, tyX3_ok, nmX3⟩
set_option maxRecDepth 20000 in
theorem fl_X3_31 : FLk RX3 31 2 8 false (.array .int) := ⟨RX3, TX3, 11, tyX3, rfl, inX3, Nat.le_of_ble_eq_true rfl, lw_g_in (List.mem_of_getElem? (i := 418) (by decide +kernel)) rfl, rfl, rfl, by decide +kernel, tyX3_ok, nmX3⟩
set_option maxRecDepth 20000 in
theorem fl_X3_38 : FLk RX3 38 2 5 false .int := ⟨RX3, TX3, 11, tyX3, rfl, inX3, Nat.le_of_ble_eq_true rfl, lw_g_in (List.mem_of_getElem? (i := 415) (by decide +kernel)) rfl, rfl, rfl, by decide +kernel, tyX3_ok, nmX3⟩
set_option maxRecDepth 20000 in
theorem fl_X3_42 : FLk RX3 42 2 4 false .int := ⟨RX3, TX3, 11, tyX3, rfl, inX3, Nat.le_of_ble_eq_true rfl, lw_g_in (List.mem_of_getElem? (i := 414) (by decide +kernel)) rfl, rfl, rfl, by decide +kernel, tyX3_ok, nmX3⟩
set_option maxRecDepth 20000 in
theorem fl_X3_45 : FLk RX3 45 2 9 false .int := ⟨RX3, TX3, 11, tyX3, rfl, inX3, Nat.le_of_ble_eq_true rfl, lw_g_in (List.mem_of_getElem? (i := 419) (by decide +kernel)) rfl, rfl, rfl, by decide +kernel, tyX3_ok, nmX3⟩
set_option maxRecDepth 20000 in
theorem fl_X3_48 : FLk RX3 48 2 10 false .int := ⟨RX3, TX3, 11, tyX3, rfl, inX3, Nat.le_of_ble_eq_true rfl, lw_g_in (List.mem_of_getElem? (i := 421) (by decide +kernel)) rfl, rfl, rfl, by decide +kernel, tyX3_ok, nmX3⟩
set_option maxRecDepth 20000 in
theorem fl_X3_83 : FLk RX3 83 2 6 false .int := ⟨RX3, TX3, 11, tyX3, rfl, inX3, Nat.le_of_ble_eq_true rfl, lw_g_in (List.mem_of_getElem? (i := 416) (by decide +kernel)) rfl, rfl, rfl, by decide +kernel, tyX3_ok, nmX3⟩
set_option maxRecDepth 20000 in
theorem fl_X3_86 : FLk RX3 86 2 3 false .int := ⟨RX3, TX3, 11, tyX3, rfl, inX3, Nat.le_of_ble_eq_true rfl, lw_g_in (List.mem_of_getElem? (i := 413) (by decide +kernel)) rfl, rfl, rfl, by decide +kernel, tyX3_ok, nmX3⟩
set_option maxRecDepth 20000 in
theorem fl_X4_15 : FLk RX4 15 3 0 true .int := ⟨RX4, TX4, 3, tyX4, rfl, inX4, Nat.le_of_ble_eq_true rfl, lw_g_in (List.mem_of_getElem? (i := 242) (by decide +kernel)) rfl, rfl, rfl, by decide +kernel, tyX4_ok, nmX4⟩
set_option maxRecDepth 20000 in
theorem fl_X4_21 : FLk RX4 21 3 1 true (.array .int) := ⟨RX4, TX4, 3, tyX4, rfl, inX4, Nat.le_of_ble_eq_true rfl, lw_g_in (List.mem_of_getElem? (i := 243) (by decide +kernel)) rfl, rfl, rfl, by decide +kernel, tyX4_ok, nmX4⟩
set_option maxRecDepth 20000 in
theorem fl_X4_25 : FLk RX4 25 3 2 false .int := ⟨RX4, TX4, 3, tyX4, rfl, inX4, Nat.le_of_ble_eq_true rfl, lw_g_in (List.mem_of_getElem? (i := 245) (by decide +kernel)) rfl, rfl, rfl, by decide +kernel, tyX4_ok, nmX4⟩
set_option maxRecDepth 20000 in
theorem fl_X5_12 : FLk RX5 12 4 0 true (.object "LongCarrier$Told") := ⟨RX5, TX5, 5, tyX5, rfl, inX5, Nat.le_of_ble_eq_true rfl, lw_g_in (List.mem_of_getElem? (i := 312) (by decide +kernel)) rfl, rfl, rfl, by decide +kernel, tyX5_ok, nmX5⟩
set_option maxRecDepth 20000 in
theorem fl_X5_21 : FLk RX5 21 4 1 true (.object "LongCarrier$State") := ⟨RX5, TX5, 5, tyX5, rfl, inX5, Nat.le_of_ble_eq_true rfl, lw_g_in (List.mem_of_getElem? (i := 314) (by decide +kernel)) rfl, rfl, rfl, by decide +kernel, tyX5_ok, nmX5⟩
set_option maxRecDepth 20000 in
theorem fl_X5_25 : FLk RX5 25 4 2 true (.array (.object "LongCarrier$State")) := ⟨RX5, TX5, 5, tyX5, rfl, inX5, Nat.le_of_ble_eq_true rfl, lw_g_in (List.mem_of_getElem? (i := 316) (by decide +kernel)) rfl, rfl, rfl, by decide +kernel, tyX5_ok, nmX5⟩
set_option maxRecDepth 20000 in
theorem fl_X5_29 : FLk RX5 29 4 3 false .int := ⟨RX5, TX5, 5, tyX5, rfl, inX5, Nat.le_of_ble_eq_true rfl, lw_g_in (List.mem_of_getElem? (i := 317) (by decide +kernel)) rfl, rfl, rfl, by decide +kernel, tyX5_ok, nmX5⟩
set_option maxRecDepth 20000 in
theorem fl_X5_33 : FLk RX5 33 4 4 false .int := ⟨RX5, TX5, 5, tyX5, rfl, inX5, Nat.le_of_ble_eq_true rfl, lw_g_in (List.mem_of_getElem? (i := 318) (by decide +kernel)) rfl, rfl, rfl, by decide +kernel, tyX5_ok, nmX5⟩
set_option maxRecDepth 20000 in
theorem fl_X6_9 : FLk RX6 9 5 2 false .int := ⟨RX6, TX6, 11, tyX6, rfl, inX6, Nat.le_of_ble_eq_true rfl, lw_g_in (List.mem_of_getElem? (i := 263) (by decide +kernel)) rfl, rfl, rfl, by decide +kernel, tyX6_ok, nmX6⟩
set_option maxRecDepth 20000 in
theorem fl_X6_20 : FLk RX6 20 5 5 true (.object "LongCarrier$Rows") := ⟨RX6, TX6, 11, tyX6, rfl, inX6, Nat.le_of_ble_eq_true rfl, lw_g_in (List.mem_of_getElem? (i := 271) (by decide +kernel)) rfl, rfl, rfl, by decide +kernel, tyX6_ok, nmX6⟩
set_option maxRecDepth 20000 in
theorem fl_X6_24 : FLk RX6 24 3 2 false .int := ⟨RX4, TX4, 3, tyX4, rfl, inX4, Nat.le_of_ble_eq_true rfl, lw_g_in (List.mem_of_getElem? (i := 244) (by decide +kernel)) rfl, rfl, rfl, by decide +kernel, tyX4_ok, nmX4⟩
set_option maxRecDepth 20000 in
theorem fl_X6_27 : FLk RX6 27 5 6 true (.object "LongCarrier$Rows") := ⟨RX6, TX6, 11, tyX6, rfl, inX6, Nat.le_of_ble_eq_true rfl, lw_g_in (List.mem_of_getElem? (i := 275) (by decide +kernel)) rfl, rfl, rfl, by decide +kernel, tyX6_ok, nmX6⟩
set_option maxRecDepth 20000 in
theorem fl_X6_30 : FLk RX6 30 5 7 true (.object "LongCarrier$Rows") := ⟨RX6, TX6, 11, tyX6, rfl, inX6, Nat.le_of_ble_eq_true rfl, lw_g_in (List.mem_of_getElem? (i := 277) (by decide +kernel)) rfl, rfl, rfl, by decide +kernel, tyX6_ok, nmX6⟩
set_option maxRecDepth 20000 in
theorem fl_X6_33 : FLk RX6 33 5 8 true (.object "LongCarrier$Rows") := ⟨RX6, TX6, 11, tyX6, rfl, inX6, Nat.le_of_ble_eq_true rfl, lw_g_in (List.mem_of_getElem? (i := 279) (by decide +kernel)) rfl, rfl, rfl, by decide +kernel, tyX6_ok, nmX6⟩
set_option maxRecDepth 20000 in
theorem fl_X6_36 : FLk RX6 36 5 9 true (.object "LongCarrier$Rows") := ⟨RX6, TX6, 11, tyX6, rfl, inX6, Nat.le_of_ble_eq_true rfl, lw_g_in (List.mem_of_getElem? (i := 282) (by decide +kernel)) rfl, rfl, rfl, by decide +kernel, tyX6_ok, nmX6⟩
set_option maxRecDepth 20000 in
theorem fl_X6_39 : FLk RX6 39 5 10 true (.object "LongCarrier$Rows") := ⟨RX6, TX6, 11, tyX6, rfl, inX6, Nat.le_of_ble_eq_true rfl, lw_g_in (List.mem_of_getElem? (i := 285) (by decide +kernel)) rfl, rfl, rfl, by decide +kernel, tyX6_ok, nmX6⟩
set_option maxRecDepth 20000 in
theorem fl_X6_45 : FLk RX6 45 5 0 false .int := ⟨RX6, TX6, 11, tyX6, rfl, inX6, Nat.le_of_ble_eq_true rfl, lw_g_in (List.mem_of_getElem? (i := 256) (by decide +kernel)) rfl, rfl, rfl, by decide +kernel, tyX6_ok, nmX6⟩
set_option maxRecDepth 20000 in
theorem fl_X6_48 : FLk RX6 48 5 1 false .int := ⟨RX6, TX6, 11, tyX6, rfl, inX6, Nat.le_of_ble_eq_true rfl, lw_g_in (List.mem_of_getElem? (i := 259) (by decide +kernel)) rfl, rfl, rfl, by decide +kernel, tyX6_ok, nmX6⟩
set_option maxRecDepth 20000 in
theorem fl_X6_51 : FLk RX6 51 5 3 false .int := ⟨RX6, TX6, 11, tyX6, rfl, inX6, Nat.le_of_ble_eq_true rfl, lw_g_in (List.mem_of_getElem? (i := 265) (by decide +kernel)) rfl, rfl, rfl, by decide +kernel, tyX6_ok, nmX6⟩
set_option maxRecDepth 20000 in
theorem fl_X6_54 : FLk RX6 54 5 4 false .int := ⟨RX6, TX6, 11, tyX6, rfl, inX6, Nat.le_of_ble_eq_true rfl, lw_g_in (List.mem_of_getElem? (i := 268) (by decide +kernel)) rfl, rfl, rfl, by decide +kernel, tyX6_ok, nmX6⟩
set_option maxRecDepth 20000 in
theorem fl_X7_9 : FLk RX7 9 6 0 true (.array .int) := ⟨RX7, TX7, 3, tyX7, rfl, inX7, Nat.le_of_ble_eq_true rfl, lw_g_in (List.mem_of_getElem? (i := 708) (by decide +kernel)) rfl, rfl, rfl, by decide +kernel, tyX7_ok, nmX7⟩
set_option maxRecDepth 20000 in
theorem fl_X7_15 : FLk RX7 15 6 1 true (.array .int) := ⟨RX7, TX7, 3, tyX7, rfl, inX7, Nat.le_of_ble_eq_true rfl, lw_g_in (List.mem_of_getElem? (i := 710) (by decide +kernel)) rfl, rfl, rfl, by decide +kernel, tyX7_ok, nmX7⟩
set_option maxRecDepth 20000 in
theorem fl_X7_18 : FLk RX7 18 6 2 true (.array .int) := ⟨RX7, TX7, 3, tyX7, rfl, inX7, Nat.le_of_ble_eq_true rfl, lw_g_in (List.mem_of_getElem? (i := 712) (by decide +kernel)) rfl, rfl, rfl, by decide +kernel, tyX7_ok, nmX7⟩
set_option maxRecDepth 20000 in
theorem fl_X8_9 : FLk RX8 9 7 0 true (.array .int) := ⟨RX8, TX8, 4, tyX8, rfl, inX8, Nat.le_of_ble_eq_true rfl, lw_g_in (List.mem_of_getElem? (i := 395) (by decide +kernel)) rfl, rfl, rfl, by decide +kernel, tyX8_ok, nmX8⟩
set_option maxRecDepth 20000 in
theorem fl_X8_15 : FLk RX8 15 7 1 true (.array .int) := ⟨RX8, TX8, 4, tyX8, rfl, inX8, Nat.le_of_ble_eq_true rfl, lw_g_in (List.mem_of_getElem? (i := 396) (by decide +kernel)) rfl, rfl, rfl, by decide +kernel, tyX8_ok, nmX8⟩
set_option maxRecDepth 20000 in
theorem fl_X8_18 : FLk RX8 18 7 2 true (.array .int) := ⟨RX8, TX8, 4, tyX8, rfl, inX8, Nat.le_of_ble_eq_true rfl, lw_g_in (List.mem_of_getElem? (i := 397) (by decide +kernel)) rfl, rfl, rfl, by decide +kernel, tyX8_ok, nmX8⟩
set_option maxRecDepth 20000 in
theorem fl_X8_30 : FLk RX8 30 7 3 false .int := ⟨RX8, TX8, 4, tyX8, rfl, inX8, Nat.le_of_ble_eq_true rfl, lw_g_in (List.mem_of_getElem? (i := 398) (by decide +kernel)) rfl, rfl, rfl, by decide +kernel, tyX8_ok, nmX8⟩
set_option maxRecDepth 20000 in
theorem fl_X9_9 : FLk RX9 9 8 1 true (.array .int) := ⟨RX9, TX9, 15, tyX9, rfl, inX9, Nat.le_of_ble_eq_true rfl, lw_g_in (List.mem_of_getElem? (i := 168) (by decide +kernel)) rfl, rfl, rfl, by decide +kernel, tyX9_ok, nmX9⟩
set_option maxRecDepth 20000 in
theorem fl_X9_15 : FLk RX9 15 8 2 true (.array .int) := ⟨RX9, TX9, 15, tyX9, rfl, inX9, Nat.le_of_ble_eq_true rfl, lw_g_in (List.mem_of_getElem? (i := 169) (by decide +kernel)) rfl, rfl, rfl, by decide +kernel, tyX9_ok, nmX9⟩
set_option maxRecDepth 20000 in
theorem fl_X9_18 : FLk RX9 18 8 3 false .int := ⟨RX9, TX9, 15, tyX9, rfl, inX9, Nat.le_of_ble_eq_true rfl, lw_g_in (List.mem_of_getElem? (i := 170) (by decide +kernel)) rfl, rfl, rfl, by decide +kernel, tyX9_ok, nmX9⟩
set_option maxRecDepth 20000 in
theorem fl_X9_22 : FLk RX9 22 8 4 false .int := ⟨RX9, TX9, 15, tyX9, rfl, inX9, Nat.le_of_ble_eq_true rfl, lw_g_in (List.mem_of_getElem? (i := 172) (by decide +kernel)) rfl, rfl, rfl, by decide +kernel, tyX9_ok, nmX9⟩
set_option maxRecDepth 20000 in
theorem fl_X9_25 : FLk RX9 25 8 5 false .int := ⟨RX9, TX9, 15, tyX9, rfl, inX9, Nat.le_of_ble_eq_true rfl, lw_g_in (List.mem_of_getElem? (i := 174) (by decide +kernel)) rfl, rfl, rfl, by decide +kernel, tyX9_ok, nmX9⟩
set_option maxRecDepth 20000 in
theorem fl_X9_28 : FLk RX9 28 8 6 false .int := ⟨RX9, TX9, 15, tyX9, rfl, inX9, Nat.le_of_ble_eq_true rfl, lw_g_in (List.mem_of_getElem? (i := 176) (by decide +kernel)) rfl, rfl, rfl, by decide +kernel, tyX9_ok, nmX9⟩
set_option maxRecDepth 20000 in
theorem fl_X9_31 : FLk RX9 31 8 7 false .int := ⟨RX9, TX9, 15, tyX9, rfl, inX9, Nat.le_of_ble_eq_true rfl, lw_g_in (List.mem_of_getElem? (i := 180) (by decide +kernel)) rfl, rfl, rfl, by decide +kernel, tyX9_ok, nmX9⟩
set_option maxRecDepth 20000 in
theorem fl_X9_34 : FLk RX9 34 8 8 false .int := ⟨RX9, TX9, 15, tyX9, rfl, inX9, Nat.le_of_ble_eq_true rfl, lw_g_in (List.mem_of_getElem? (i := 183) (by decide +kernel)) rfl, rfl, rfl, by decide +kernel, tyX9_ok, nmX9⟩
set_option maxRecDepth 20000 in
theorem fl_X9_39 : FLk RX9 39 8 10 true (.array (.object "LongCarrier$Text")) := ⟨RX9, TX9, 15, tyX9, rfl, inX9, Nat.le_of_ble_eq_true rfl, lw_g_in (List.mem_of_getElem? (i := 188) (by decide +kernel)) rfl, rfl, rfl, by decide +kernel, tyX9_ok, nmX9⟩
set_option maxRecDepth 20000 in
theorem fl_X9_43 : FLk RX9 43 8 11 false .int := ⟨RX9, TX9, 15, tyX9, rfl, inX9, Nat.le_of_ble_eq_true rfl, lw_g_in (List.mem_of_getElem? (i := 189) (by decide +kernel)) rfl, rfl, rfl, by decide +kernel, tyX9_ok, nmX9⟩
set_option maxRecDepth 20000 in
theorem fl_X9_46 : FLk RX9 46 8 13 true (.array .int) := ⟨RX9, TX9, 15, tyX9, rfl, inX9, Nat.le_of_ble_eq_true rfl, lw_g_in (List.mem_of_getElem? (i := 193) (by decide +kernel)) rfl, rfl, rfl, by decide +kernel, tyX9_ok, nmX9⟩
set_option maxRecDepth 20000 in
theorem fl_X9_49 : FLk RX9 49 8 14 true (.array .int) := ⟨RX9, TX9, 15, tyX9, rfl, inX9, Nat.le_of_ble_eq_true rfl, lw_g_in (List.mem_of_getElem? (i := 194) (by decide +kernel)) rfl, rfl, rfl, by decide +kernel, tyX9_ok, nmX9⟩
set_option maxRecDepth 20000 in
theorem fl_X9_52 : FLk RX9 52 8 0 false .int := ⟨RX9, TX9, 15, tyX9, rfl, inX9, Nat.le_of_ble_eq_true rfl, lw_g_in (List.mem_of_getElem? (i := 166) (by decide +kernel)) rfl, rfl, rfl, by decide +kernel, tyX9_ok, nmX9⟩
set_option maxRecDepth 20000 in
theorem fl_X9_59 : FLk RX9 59 8 9 false .int := ⟨RX9, TX9, 15, tyX9, rfl, inX9, Nat.le_of_ble_eq_true rfl, lw_g_in (List.mem_of_getElem? (i := 186) (by decide +kernel)) rfl, rfl, rfl, by decide +kernel, tyX9_ok, nmX9⟩
set_option maxRecDepth 20000 in
theorem fl_X9_66 : FLk RX9 66 8 12 false .int := ⟨RX9, TX9, 15, tyX9, rfl, inX9, Nat.le_of_ble_eq_true rfl, lw_g_in (List.mem_of_getElem? (i := 191) (by decide +kernel)) rfl, rfl, rfl, by decide +kernel, tyX9_ok, nmX9⟩
set_option maxRecDepth 20000 in
theorem fl_X11_7 : FLk RX11 7 10 0 true (.array .int) := ⟨RX11, TX11, 25, tyX11, rfl, inX11, Nat.le_of_ble_eq_true rfl, lw_g_in (List.mem_of_getElem? (i := 1271) (by decide +kernel)) rfl, rfl, rfl, by decide +kernel, tyX11_ok, nmX11⟩
set_option maxRecDepth 20000 in
theorem fl_X11_13 : FLk RX11 13 10 1 true (.array .int) := ⟨RX11, TX11, 25, tyX11, rfl, inX11, Nat.le_of_ble_eq_true rfl, lw_g_in (List.mem_of_getElem? (i := 1272) (by decide +kernel)) rfl, rfl, rfl, by decide +kernel, tyX11_ok, nmX11⟩
set_option maxRecDepth 20000 in
theorem fl_X11_16 : FLk RX11 16 10 2 true (.array .int) := ⟨RX11, TX11, 25, tyX11, rfl, inX11, Nat.le_of_ble_eq_true rfl, lw_g_in (List.mem_of_getElem? (i := 1273) (by decide +kernel)) rfl, rfl, rfl, by decide +kernel, tyX11_ok, nmX11⟩
set_option maxRecDepth 20000 in
theorem fl_X11_19 : FLk RX11 19 10 3 true (.array .int) := ⟨RX11, TX11, 25, tyX11, rfl, inX11, Nat.le_of_ble_eq_true rfl, lw_g_in (List.mem_of_getElem? (i := 1274) (by decide +kernel)) rfl, rfl, rfl, by decide +kernel, tyX11_ok, nmX11⟩
set_option maxRecDepth 20000 in
theorem fl_X11_22 : FLk RX11 22 10 5 false .int := ⟨RX11, TX11, 25, tyX11, rfl, inX11, Nat.le_of_ble_eq_true rfl, lw_g_in (List.mem_of_getElem? (i := 1276) (by decide +kernel)) rfl, rfl, rfl, by decide +kernel, tyX11_ok, nmX11⟩
set_option maxRecDepth 20000 in
theorem fl_X11_26 : FLk RX11 26 10 6 false .int := ⟨RX11, TX11, 25, tyX11, rfl, inX11, Nat.le_of_ble_eq_true rfl, lw_g_in (List.mem_of_getElem? (i := 1277) (by decide +kernel)) rfl, rfl, rfl, by decide +kernel, tyX11_ok, nmX11⟩
set_option maxRecDepth 20000 in
theorem fl_X11_29 : FLk RX11 29 10 15 true (.array .int) := ⟨RX11, TX11, 25, tyX11, rfl, inX11, Nat.le_of_ble_eq_true rfl, lw_g_in (List.mem_of_getElem? (i := 1286) (by decide +kernel)) rfl, rfl, rfl, by decide +kernel, tyX11_ok, nmX11⟩
set_option maxRecDepth 20000 in
theorem fl_X11_32 : FLk RX11 32 10 20 true (.array .int) := ⟨RX11, TX11, 25, tyX11, rfl, inX11, Nat.le_of_ble_eq_true rfl, lw_g_in (List.mem_of_getElem? (i := 1291) (by decide +kernel)) rfl, rfl, rfl, by decide +kernel, tyX11_ok, nmX11⟩
set_option maxRecDepth 20000 in
theorem fl_X11_35 : FLk RX11 35 10 21 true (.array .long) := ⟨RX11, TX11, 25, tyX11, rfl, inX11, Nat.le_of_ble_eq_true rfl, lw_g_in (List.mem_of_getElem? (i := 1292) (by decide +kernel)) rfl, rfl, rfl, by decide +kernel, tyX11_ok, nmX11⟩
set_option maxRecDepth 20000 in
theorem fl_X11_39 : FLk RX11 39 10 22 true (.array .boolean) := ⟨RX11, TX11, 25, tyX11, rfl, inX11, Nat.le_of_ble_eq_true rfl, lw_g_in (List.mem_of_getElem? (i := 1293) (by decide +kernel)) rfl, rfl, rfl, by decide +kernel, tyX11_ok, nmX11⟩
set_option maxRecDepth 20000 in
theorem fl_X11_43 : FLk RX11 43 10 24 true (.array .int) := ⟨RX11, TX11, 25, tyX11, rfl, inX11, Nat.le_of_ble_eq_true rfl, lw_g_in (List.mem_of_getElem? (i := 1295) (by decide +kernel)) rfl, rfl, rfl, by decide +kernel, tyX11_ok, nmX11⟩
set_option maxRecDepth 20000 in
theorem fl_X11_75 : FLk RX11 75 10 4 false .int := ⟨RX11, TX11, 25, tyX11, rfl, inX11, Nat.le_of_ble_eq_true rfl, lw_g_in (List.mem_of_getElem? (i := 1275) (by decide +kernel)) rfl, rfl, rfl, by decide +kernel, tyX11_ok, nmX11⟩
set_option maxRecDepth 20000 in
theorem fl_X11_82 : FLk RX11 82 10 7 false .int := ⟨RX11, TX11, 25, tyX11, rfl, inX11, Nat.le_of_ble_eq_true rfl, lw_g_in (List.mem_of_getElem? (i := 1278) (by decide +kernel)) rfl, rfl, rfl, by decide +kernel, tyX11_ok, nmX11⟩
set_option maxRecDepth 20000 in
theorem fl_X11_88 : FLk RX11 88 10 8 false .int := ⟨RX11, TX11, 25, tyX11, rfl, inX11, Nat.le_of_ble_eq_true rfl, lw_g_in (List.mem_of_getElem? (i := 1279) (by decide +kernel)) rfl, rfl, rfl, by decide +kernel, tyX11_ok, nmX11⟩
set_option maxRecDepth 20000 in
theorem fl_X11_91 : FLk RX11 91 10 9 false .int := ⟨RX11, TX11, 25, tyX11, rfl, inX11, Nat.le_of_ble_eq_true rfl, lw_g_in (List.mem_of_getElem? (i := 1280) (by decide +kernel)) rfl, rfl, rfl, by decide +kernel, tyX11_ok, nmX11⟩
set_option maxRecDepth 20000 in
theorem fl_X11_98 : FLk RX11 98 10 10 false .int := ⟨RX11, TX11, 25, tyX11, rfl, inX11, Nat.le_of_ble_eq_true rfl, lw_g_in (List.mem_of_getElem? (i := 1281) (by decide +kernel)) rfl, rfl, rfl, by decide +kernel, tyX11_ok, nmX11⟩
set_option maxRecDepth 20000 in
theorem fl_X11_105 : FLk RX11 105 10 11 false .long := ⟨RX11, TX11, 25, tyX11, rfl, inX11, Nat.le_of_ble_eq_true rfl, lw_g_in (List.mem_of_getElem? (i := 1282) (by decide +kernel)) rfl, rfl, rfl, by decide +kernel, tyX11_ok, nmX11⟩
set_option maxRecDepth 20000 in
theorem fl_X11_130 : FLk RX11 130 10 12 false .int := ⟨RX11, TX11, 25, tyX11, rfl, inX11, Nat.le_of_ble_eq_true rfl, lw_g_in (List.mem_of_getElem? (i := 1283) (by decide +kernel)) rfl, rfl, rfl, by decide +kernel, tyX11_ok, nmX11⟩
set_option maxRecDepth 20000 in
theorem fl_X11_133 : FLk RX11 133 10 13 false .int := ⟨RX11, TX11, 25, tyX11, rfl, inX11, Nat.le_of_ble_eq_true rfl, lw_g_in (List.mem_of_getElem? (i := 1284) (by decide +kernel)) rfl, rfl, rfl, by decide +kernel, tyX11_ok, nmX11⟩
set_option maxRecDepth 20000 in
theorem fl_X11_140 : FLk RX11 140 10 14 false .int := ⟨RX11, TX11, 25, tyX11, rfl, inX11, Nat.le_of_ble_eq_true rfl, lw_g_in (List.mem_of_getElem? (i := 1285) (by decide +kernel)) rfl, rfl, rfl, by decide +kernel, tyX11_ok, nmX11⟩
set_option maxRecDepth 20000 in
theorem fl_X11_143 : FLk RX11 143 10 16 false .int := ⟨RX11, TX11, 25, tyX11, rfl, inX11, Nat.le_of_ble_eq_true rfl, lw_g_in (List.mem_of_getElem? (i := 1287) (by decide +kernel)) rfl, rfl, rfl, by decide +kernel, tyX11_ok, nmX11⟩
set_option maxRecDepth 20000 in
theorem fl_X11_153 : FLk RX11 153 10 17 false .int := ⟨RX11, TX11, 25, tyX11, rfl, inX11, Nat.le_of_ble_eq_true rfl, lw_g_in (List.mem_of_getElem? (i := 1288) (by decide +kernel)) rfl, rfl, rfl, by decide +kernel, tyX11_ok, nmX11⟩
set_option maxRecDepth 20000 in
theorem fl_X11_172 : FLk RX11 172 10 18 false .boolean := ⟨RX11, TX11, 25, tyX11, rfl, inX11, Nat.le_of_ble_eq_true rfl, lw_g_in (List.mem_of_getElem? (i := 1289) (by decide +kernel)) rfl, rfl, rfl, by decide +kernel, tyX11_ok, nmX11⟩
set_option maxRecDepth 20000 in
theorem fl_X11_230 : FLk RX11 230 10 19 false .int := ⟨RX11, TX11, 25, tyX11, rfl, inX11, Nat.le_of_ble_eq_true rfl, lw_g_in (List.mem_of_getElem? (i := 1290) (by decide +kernel)) rfl, rfl, rfl, by decide +kernel, tyX11_ok, nmX11⟩
set_option maxRecDepth 20000 in
theorem fl_X11_362 : FLk RX11 362 10 23 false .boolean := ⟨RX11, TX11, 25, tyX11, rfl, inX11, Nat.le_of_ble_eq_true rfl, lw_g_in (List.mem_of_getElem? (i := 1294) (by decide +kernel)) rfl, rfl, rfl, by decide +kernel, tyX11_ok, nmX11⟩
set_option maxRecDepth 20000 in
theorem cd_X10_init : Cond.code yX10_init cX10_init 1 ((Option.none : Option Jvm.ClassFile.FieldType)) ∈ lw_g := lw_g_in (List.mem_of_getElem? (i := 148) (by decide +kernel)) rfl
set_option maxRecDepth 20000 in
theorem cd_X10_about : Cond.code yX10_about cX10_about 2 ((Option.some Jvm.ClassFile.FieldType.int)) ∈ lw_g := lw_g_in (List.mem_of_getElem? (i := 1089) (by decide +kernel)) rfl
set_option maxRecDepth 20000 in
theorem cd_X10_back : Cond.code yX10_back cX10_back 1 ((Option.some Jvm.ClassFile.FieldType.int)) ∈ lw_g := lw_g_in (List.mem_of_getElem? (i := 1261) (by decide +kernel)) rfl
set_option maxRecDepth 20000 in
theorem cd_X10_block : Cond.code yX10_block cX10_block 3 ((Option.some Jvm.ClassFile.FieldType.int)) ∈ lw_g := lw_g_in (List.mem_of_getElem? (i := 483) (by decide +kernel)) rfl
set_option maxRecDepth 20000 in
theorem cd_X10_book : Cond.code yX10_book cX10_book 3 ((Option.some Jvm.ClassFile.FieldType.int)) ∈ lw_g := lw_g_in (List.mem_of_getElem? (i := 1085) (by decide +kernel)) rfl
set_option maxRecDepth 20000 in
theorem cd_X10_busiest : Cond.code yX10_busiest cX10_busiest 5 ((Option.some Jvm.ClassFile.FieldType.int)) ∈ lw_g := lw_g_in (List.mem_of_getElem? (i := 1114) (by decide +kernel)) rfl
set_option maxRecDepth 20000 in
theorem cd_X10_by : Cond.code yX10_by cX10_by 2 ((Option.some Jvm.ClassFile.FieldType.boolean)) ∈ lw_g := lw_g_in (List.mem_of_getElem? (i := 732) (by decide +kernel)) rfl
set_option maxRecDepth 20000 in
theorem cd_X10_cancel : Cond.code yX10_cancel cX10_cancel 3 ((Option.some Jvm.ClassFile.FieldType.boolean)) ∈ lw_g := lw_g_in (List.mem_of_getElem? (i := 847) (by decide +kernel)) rfl
set_option maxRecDepth 20000 in
theorem cd_X10_claims : Cond.code yX10_claims cX10_claims 4 ((Option.some Jvm.ClassFile.FieldType.int)) ∈ lw_g := lw_g_in (List.mem_of_getElem? (i := 1025) (by decide +kernel)) rfl
set_option maxRecDepth 20000 in
theorem cd_X10_come : Cond.code yX10_come cX10_come 4 ((Option.some Jvm.ClassFile.FieldType.int)) ∈ lw_g := lw_g_in (List.mem_of_getElem? (i := 1057) (by decide +kernel)) rfl
set_option maxRecDepth 20000 in
theorem cd_X10_commonDivisor : Cond.code yX10_commonDivisor cX10_commonDivisor 11 ((Option.some Jvm.ClassFile.FieldType.long)) ∈ lw_g := lw_g_in (List.mem_of_getElem? (i := 1240) (by decide +kernel)) rfl
set_option maxRecDepth 20000 in
theorem cd_X10_day : Cond.code yX10_day cX10_day 3 ((Option.some Jvm.ClassFile.FieldType.int)) ∈ lw_g := lw_g_in (List.mem_of_getElem? (i := 859) (by decide +kernel)) rfl
set_option maxRecDepth 20000 in
theorem cd_X10_delay : Cond.code yX10_delay cX10_delay 2 ((Option.some Jvm.ClassFile.FieldType.boolean)) ∈ lw_g := lw_g_in (List.mem_of_getElem? (i := 495) (by decide +kernel)) rfl
set_option maxRecDepth 20000 in
theorem cd_X10_drawYear : Cond.code yX10_drawYear cX10_drawYear 4 ((Option.none : Option Jvm.ClassFile.FieldType)) ∈ lw_g := lw_g_in (List.mem_of_getElem? (i := 1001) (by decide +kernel)) rfl
set_option maxRecDepth 20000 in
theorem cd_X10_end : Cond.code yX10_end cX10_end 2 ((Option.some Jvm.ClassFile.FieldType.int)) ∈ lw_g := lw_g_in (List.mem_of_getElem? (i := 515) (by decide +kernel)) rfl
set_option maxRecDepth 20000 in
theorem cd_X10_fault : Cond.code yX10_fault cX10_fault 2 ((Option.some Jvm.ClassFile.FieldType.int)) ∈ lw_g := lw_g_in (List.mem_of_getElem? (i := 728) (by decide +kernel)) rfl
set_option maxRecDepth 20000 in
theorem cd_X10_feed : Cond.code yX10_feed cX10_feed 6 ((Option.some Jvm.ClassFile.FieldType.int)) ∈ lw_g := lw_g_in (List.mem_of_getElem? (i := 507) (by decide +kernel)) rfl
set_option maxRecDepth 20000 in
theorem cd_X10_feedFour : Cond.code yX10_feedFour cX10_feedFour 3 ((Option.none : Option Jvm.ClassFile.FieldType)) ∈ lw_g := lw_g_in (List.mem_of_getElem? (i := 511) (by decide +kernel)) rfl
set_option maxRecDepth 20000 in
theorem cd_X10_flight : Cond.code yX10_flight cX10_flight 3 ((Option.some Jvm.ClassFile.FieldType.int)) ∈ lw_g := lw_g_in (List.mem_of_getElem? (i := 1071) (by decide +kernel)) rfl
set_option maxRecDepth 20000 in
theorem cd_X10_foretold : Cond.code yX10_foretold cX10_foretold 6 ((Option.some Jvm.ClassFile.FieldType.int)) ∈ lw_g := lw_g_in (List.mem_of_getElem? (i := 1160) (by decide +kernel)) rfl
set_option maxRecDepth 20000 in
theorem cd_X10_gaps : Cond.code yX10_gaps cX10_gaps 4 ((Option.some Jvm.ClassFile.FieldType.int)) ∈ lw_g := lw_g_in (List.mem_of_getElem? (i := 1052) (by decide +kernel)) rfl
set_option maxRecDepth 20000 in
theorem cd_X10_honest : Cond.code yX10_honest cX10_honest 2 ((Option.some Jvm.ClassFile.FieldType.boolean)) ∈ lw_g := lw_g_in (List.mem_of_getElem? (i := 1122) (by decide +kernel)) rfl
set_option maxRecDepth 20000 in
theorem cd_X10_ideal : Cond.code yX10_ideal cX10_ideal 3 ((Option.some Jvm.ClassFile.FieldType.int)) ∈ lw_g := lw_g_in (List.mem_of_getElem? (i := 1174) (by decide +kernel)) rfl
set_option maxRecDepth 20000 in
theorem cd_X10_idle : Cond.code yX10_idle cX10_idle 1 ((Option.some Jvm.ClassFile.FieldType.boolean)) ∈ lw_g := lw_g_in (List.mem_of_getElem? (i := 1102) (by decide +kernel)) rfl
set_option maxRecDepth 20000 in
theorem cd_X10_image : Cond.code yX10_image cX10_image 1 ((Option.some Jvm.ClassFile.FieldType.int)) ∈ lw_g := lw_g_in (List.mem_of_getElem? (i := 1244) (by decide +kernel)) rfl
set_option maxRecDepth 20000 in
theorem cd_X10_is : Cond.code yX10_is cX10_is 2 ((Option.some Jvm.ClassFile.FieldType.int)) ∈ lw_g := lw_g_in (List.mem_of_getElem? (i := 1081) (by decide +kernel)) rfl
set_option maxRecDepth 20000 in
theorem cd_X10_isNew : Cond.code yX10_isNew cX10_isNew 2 ((Option.some Jvm.ClassFile.FieldType.boolean)) ∈ lw_g := lw_g_in (List.mem_of_getElem? (i := 748) (by decide +kernel)) rfl
set_option maxRecDepth 20000 in
theorem cd_X10_join : Cond.code yX10_join cX10_join 3 ((Option.some Jvm.ClassFile.FieldType.int)) ∈ lw_g := lw_g_in (List.mem_of_getElem? (i := 1193) (by decide +kernel)) rfl
set_option maxRecDepth 20000 in
theorem cd_X10_ledger : Cond.code yX10_ledger cX10_ledger 2 ((Option.some Jvm.ClassFile.FieldType.int)) ∈ lw_g := lw_g_in (List.mem_of_getElem? (i := 1126) (by decide +kernel)) rfl
set_option maxRecDepth 20000 in
theorem cd_X10_less : Cond.code yX10_less cX10_less 3 ((Option.some Jvm.ClassFile.FieldType.int)) ∈ lw_g := lw_g_in (List.mem_of_getElem? (i := 1197) (by decide +kernel)) rfl
set_option maxRecDepth 20000 in
theorem cd_X10_live : Cond.code yX10_live cX10_live 4 ((Option.some Jvm.ClassFile.FieldType.int)) ∈ lw_g := lw_g_in (List.mem_of_getElem? (i := 1106) (by decide +kernel)) rfl
set_option maxRecDepth 20000 in
theorem cd_X10_longest : Cond.code yX10_longest cX10_longest 2 ((Option.some Jvm.ClassFile.FieldType.int)) ∈ lw_g := lw_g_in (List.mem_of_getElem? (i := 1201) (by decide +kernel)) rfl
set_option maxRecDepth 20000 in
theorem cd_X10_loses : Cond.code yX10_loses cX10_loses 3 ((Option.some Jvm.ClassFile.FieldType.int)) ∈ lw_g := lw_g_in (List.mem_of_getElem? (i := 1208) (by decide +kernel)) rfl
set_option maxRecDepth 20000 in
theorem cd_X10_next : Cond.code yX10_next cX10_next 2 ((Option.some Jvm.ClassFile.FieldType.int)) ∈ lw_g := lw_g_in (List.mem_of_getElem? (i := 1144) (by decide +kernel)) rfl
set_option maxRecDepth 20000 in
theorem cd_X10_odds : Cond.code yX10_odds cX10_odds 11 ((Option.some Jvm.ClassFile.FieldType.long)) ∈ lw_g := lw_g_in (List.mem_of_getElem? (i := 1235) (by decide +kernel)) rfl
set_option maxRecDepth 20000 in
theorem cd_X10_of : Cond.code yX10_of cX10_of 3 ((Option.some Jvm.ClassFile.FieldType.int)) ∈ lw_g := lw_g_in (List.mem_of_getElem? (i := 1014) (by decide +kernel)) rfl
set_option maxRecDepth 20000 in
theorem cd_X10_open : Cond.code yX10_open cX10_open 2 ((Option.some Jvm.ClassFile.FieldType.int)) ∈ lw_g := lw_g_in (List.mem_of_getElem? (i := 744) (by decide +kernel)) rfl
set_option maxRecDepth 20000 in
theorem cd_X10_out : Cond.code yX10_out cX10_out 4 ((Option.some Jvm.ClassFile.FieldType.int)) ∈ lw_g := lw_g_in (List.mem_of_getElem? (i := 1061) (by decide +kernel)) rfl
set_option maxRecDepth 20000 in
theorem cd_X10_pass : Cond.code yX10_pass cX10_pass 3 ((Option.none : Option Jvm.ClassFile.FieldType)) ∈ lw_g := lw_g_in (List.mem_of_getElem? (i := 863) (by decide +kernel)) rfl
set_option maxRecDepth 20000 in
theorem cd_X10_piece : Cond.code yX10_piece cX10_piece 4 ((Option.some Jvm.ClassFile.FieldType.int)) ∈ lw_g := lw_g_in (List.mem_of_getElem? (i := 1189) (by decide +kernel)) rfl
set_option maxRecDepth 20000 in
theorem cd_X10_pieces : Cond.code yX10_pieces cX10_pieces 2 ((Option.some Jvm.ClassFile.FieldType.int)) ∈ lw_g := lw_g_in (List.mem_of_getElem? (i := 1185) (by decide +kernel)) rfl
set_option maxRecDepth 20000 in
theorem cd_X10_played : Cond.code yX10_played cX10_played 7 ((Option.some Jvm.ClassFile.FieldType.int)) ∈ lw_g := lw_g_in (List.mem_of_getElem? (i := 979) (by decide +kernel)) rfl
set_option maxRecDepth 20000 in
theorem cd_X10_reading : Cond.code yX10_reading cX10_reading 5 ((Option.some Jvm.ClassFile.FieldType.int)) ∈ lw_g := lw_g_in (List.mem_of_getElem? (i := 1018) (by decide +kernel)) rfl
set_option maxRecDepth 20000 in
theorem cd_X10_resent : Cond.code yX10_resent cX10_resent 2 ((Option.some Jvm.ClassFile.FieldType.int)) ∈ lw_g := lw_g_in (List.mem_of_getElem? (i := 1097) (by decide +kernel)) rfl
set_option maxRecDepth 20000 in
theorem cd_X10_rings : Cond.code yX10_rings cX10_rings 2 ((Option.some Jvm.ClassFile.FieldType.int)) ∈ lw_g := lw_g_in (List.mem_of_getElem? (i := 1156) (by decide +kernel)) rfl
set_option maxRecDepth 20000 in
theorem cd_X10_round : Cond.code yX10_round cX10_round 4 ((Option.some Jvm.ClassFile.FieldType.int)) ∈ lw_g := lw_g_in (List.mem_of_getElem? (i := 1152) (by decide +kernel)) rfl
set_option maxRecDepth 20000 in
theorem cd_X10_said : Cond.code yX10_said cX10_said 3 ((Option.some Jvm.ClassFile.FieldType.int)) ∈ lw_g := lw_g_in (List.mem_of_getElem? (i := 736) (by decide +kernel)) rfl
set_option maxRecDepth 20000 in
theorem cd_X10_saysAll : Cond.code yX10_saysAll cX10_saysAll 4 ((Option.some Jvm.ClassFile.FieldType.boolean)) ∈ lw_g := lw_g_in (List.mem_of_getElem? (i := 1223) (by decide +kernel)) rfl
set_option maxRecDepth 20000 in
theorem cd_X10_seen : Cond.code yX10_seen cX10_seen 2 ((Option.some Jvm.ClassFile.FieldType.boolean)) ∈ lw_g := lw_g_in (List.mem_of_getElem? (i := 1130) (by decide +kernel)) rfl
set_option maxRecDepth 20000 in
theorem cd_X10_size : Cond.code yX10_size cX10_size 2 ((Option.some Jvm.ClassFile.FieldType.boolean)) ∈ lw_g := lw_g_in (List.mem_of_getElem? (i := 499) (by decide +kernel)) rfl
set_option maxRecDepth 20000 in
theorem cd_X10_soonest : Cond.code yX10_soonest cX10_soonest 4 ((Option.some Jvm.ClassFile.FieldType.int)) ∈ lw_g := lw_g_in (List.mem_of_getElem? (i := 1110) (by decide +kernel)) rfl
set_option maxRecDepth 20000 in
theorem cd_X10_span : Cond.code yX10_span cX10_span 4 ((Option.some Jvm.ClassFile.FieldType.int)) ∈ lw_g := lw_g_in (List.mem_of_getElem? (i := 1045) (by decide +kernel)) rfl
set_option maxRecDepth 20000 in
theorem cd_X10_spanOf : Cond.code yX10_spanOf cX10_spanOf 5 ((Option.some Jvm.ClassFile.FieldType.int)) ∈ lw_g := lw_g_in (List.mem_of_getElem? (i := 1029) (by decide +kernel)) rfl
set_option maxRecDepth 20000 in
theorem cd_X10_spans : Cond.code yX10_spans cX10_spans 2 ((Option.some Jvm.ClassFile.FieldType.int)) ∈ lw_g := lw_g_in (List.mem_of_getElem? (i := 1033) (by decide +kernel)) rfl
set_option maxRecDepth 20000 in
theorem cd_X10_text : Cond.code yX10_text cX10_text 2 ((Option.some Jvm.ClassFile.FieldType.int)) ∈ lw_g := lw_g_in (List.mem_of_getElem? (i := 519) (by decide +kernel)) rfl
set_option maxRecDepth 20000 in
theorem cd_X10_till : Cond.code yX10_till cX10_till 2 ((Option.some Jvm.ClassFile.FieldType.int)) ∈ lw_g := lw_g_in (List.mem_of_getElem? (i := 1165) (by decide +kernel)) rfl
set_option maxRecDepth 20000 in
theorem cd_X10_timer : Cond.code yX10_timer cX10_timer 3 ((Option.some Jvm.ClassFile.FieldType.int)) ∈ lw_g := lw_g_in (List.mem_of_getElem? (i := 1075) (by decide +kernel)) rfl
set_option maxRecDepth 20000 in
theorem cd_X10_tries : Cond.code yX10_tries cX10_tries 2 ((Option.some Jvm.ClassFile.FieldType.boolean)) ∈ lw_g := lw_g_in (List.mem_of_getElem? (i := 503) (by decide +kernel)) rfl
set_option maxRecDepth 20000 in
theorem cd_X10_undo : Cond.code yX10_undo cX10_undo 1 ((Option.some Jvm.ClassFile.FieldType.int)) ∈ lw_g := lw_g_in (List.mem_of_getElem? (i := 1006) (by decide +kernel)) rfl
set_option maxRecDepth 20000 in
theorem cd_X10_until : Cond.code yX10_until cX10_until 2 ((Option.some Jvm.ClassFile.FieldType.int)) ∈ lw_g := lw_g_in (List.mem_of_getElem? (i := 1135) (by decide +kernel)) rfl
set_option maxRecDepth 20000 in
theorem cd_X10_waits : Cond.code yX10_waits cX10_waits 4 ((Option.some Jvm.ClassFile.FieldType.int)) ∈ lw_g := lw_g_in (List.mem_of_getElem? (i := 1214) (by decide +kernel)) rfl
set_option maxRecDepth 20000 in
theorem cd_X10_whole : Cond.code yX10_whole cX10_whole 2 ((Option.some Jvm.ClassFile.FieldType.boolean)) ∈ lw_g := lw_g_in (List.mem_of_getElem? (i := 1093) (by decide +kernel)) rfl
set_option maxRecDepth 20000 in
theorem cd_X10_whose : Cond.code yX10_whose cX10_whose 3 ((Option.some Jvm.ClassFile.FieldType.int)) ∈ lw_g := lw_g_in (List.mem_of_getElem? (i := 1219) (by decide +kernel)) rfl
set_option maxRecDepth 20000 in
theorem cd_X10_window : Cond.code yX10_window cX10_window 4 ((Option.some Jvm.ClassFile.FieldType.boolean)) ∈ lw_g := lw_g_in (List.mem_of_getElem? (i := 491) (by decide +kernel)) rfl
set_option maxRecDepth 20000 in
theorem cd_X10_within : Cond.code yX10_within cX10_within 4 ((Option.some Jvm.ClassFile.FieldType.int)) ∈ lw_g := lw_g_in (List.mem_of_getElem? (i := 1180) (by decide +kernel)) rfl
set_option maxRecDepth 20000 in
theorem cd_X10_years : Cond.code yX10_years cX10_years 4 ((Option.some Jvm.ClassFile.FieldType.int)) ∈ lw_g := lw_g_in (List.mem_of_getElem? (i := 997) (by decide +kernel)) rfl
set_option maxRecDepth 20000 in
theorem cd_X0_between : Cond.code yX0_between cX0_between 2 ((Option.some Jvm.ClassFile.FieldType.int)) ∈ lw_g := lw_g_in (List.mem_of_getElem? (i := 825) (by decide +kernel)) rfl
set_option maxRecDepth 20000 in
theorem cd_X0_first : Cond.code yX0_first cX0_first 1 ((Option.some Jvm.ClassFile.FieldType.int)) ∈ lw_g := lw_g_in (List.mem_of_getElem? (i := 797) (by decide +kernel)) rfl
set_option maxRecDepth 20000 in
theorem cd_X0_fits : Cond.code yX0_fits cX0_fits 1 ((Option.some Jvm.ClassFile.FieldType.boolean)) ∈ lw_g := lw_g_in (List.mem_of_getElem? (i := 1036) (by decide +kernel)) rfl
set_option maxRecDepth 20000 in
theorem cd_X0_longestRun : Cond.code yX0_longestRun cX0_longestRun 4 ((Option.some Jvm.ClassFile.FieldType.int)) ∈ lw_g := lw_g_in (List.mem_of_getElem? (i := 1204) (by decide +kernel)) rfl
set_option maxRecDepth 20000 in
theorem cd_X0_nextFrom : Cond.code yX0_nextFrom cX0_nextFrom 3 ((Option.some Jvm.ClassFile.FieldType.int)) ∈ lw_g := lw_g_in (List.mem_of_getElem? (i := 805) (by decide +kernel)) rfl
set_option maxRecDepth 20000 in
theorem cd_X0_pieceCount : Cond.code yX0_pieceCount cX0_pieceCount 5 ((Option.some Jvm.ClassFile.FieldType.int)) ∈ lw_g := lw_g_in (List.mem_of_getElem? (i := 1039) (by decide +kernel)) rfl
set_option maxRecDepth 20000 in
theorem cd_X0_pieceEdge : Cond.code yX0_pieceEdge cX0_pieceEdge 7 ((Option.some Jvm.ClassFile.FieldType.int)) ∈ lw_g := lw_g_in (List.mem_of_getElem? (i := 1048) (by decide +kernel)) rfl
set_option maxRecDepth 20000 in
theorem cd_X0_pieceTo : Cond.code yX0_pieceTo cX0_pieceTo 4 ((Option.some Jvm.ClassFile.FieldType.int)) ∈ lw_g := lw_g_in (List.mem_of_getElem? (i := 809) (by decide +kernel)) rfl
set_option maxRecDepth 20000 in
theorem cd_X1_init : Cond.code yX1_init cX1_init 3 ((Option.none : Option Jvm.ClassFile.FieldType)) ∈ lw_g := lw_g_in (List.mem_of_getElem? (i := 335) (by decide +kernel)) rfl
set_option maxRecDepth 20000 in
theorem cd_X1_canCancel : Cond.code yX1_canCancel cX1_canCancel 3 ((Option.some Jvm.ClassFile.FieldType.boolean)) ∈ lw_g := lw_g_in (List.mem_of_getElem? (i := 851) (by decide +kernel)) rfl
set_option maxRecDepth 20000 in
theorem cd_X1_cancelBy : Cond.code yX1_cancelBy cX1_cancelBy 3 ((Option.none : Option Jvm.ClassFile.FieldType)) ∈ lw_g := lw_g_in (List.mem_of_getElem? (i := 855) (by decide +kernel)) rfl
set_option maxRecDepth 20000 in
theorem cd_X1_finish : Cond.code yX1_finish cX1_finish 2 ((Option.none : Option Jvm.ClassFile.FieldType)) ∈ lw_g := lw_g_in (List.mem_of_getElem? (i := 830) (by decide +kernel)) rfl
set_option maxRecDepth 20000 in
theorem cd_X1_firstDue : Cond.code yX1_firstDue cX1_firstDue 2 ((Option.some Jvm.ClassFile.FieldType.int)) ∈ lw_g := lw_g_in (List.mem_of_getElem? (i := 969) (by decide +kernel)) rfl
set_option maxRecDepth 20000 in
theorem cd_X1_forget : Cond.code yX1_forget cX1_forget 9 ((Option.none : Option Jvm.ClassFile.FieldType)) ∈ lw_g := lw_g_in (List.mem_of_getElem? (i := 835) (by decide +kernel)) rfl
set_option maxRecDepth 20000 in
theorem cd_X1_got : Cond.code yX1_got cX1_got 6 ((Option.none : Option Jvm.ClassFile.FieldType)) ∈ lw_g := lw_g_in (List.mem_of_getElem? (i := 871) (by decide +kernel)) rfl
set_option maxRecDepth 20000 in
theorem cd_X1_gotCancelling : Cond.code yX1_gotCancelling cX1_gotCancelling 3 ((Option.none : Option Jvm.ClassFile.FieldType)) ∈ lw_g := lw_g_in (List.mem_of_getElem? (i := 883) (by decide +kernel)) rfl
set_option maxRecDepth 20000 in
theorem cd_X1_gotData : Cond.code yX1_gotData cX1_gotData 7 ((Option.none : Option Jvm.ClassFile.FieldType)) ∈ lw_g := lw_g_in (List.mem_of_getElem? (i := 875) (by decide +kernel)) rfl
set_option maxRecDepth 20000 in
theorem cd_X1_gotReport : Cond.code yX1_gotReport cX1_gotReport 8 ((Option.none : Option Jvm.ClassFile.FieldType)) ∈ lw_g := lw_g_in (List.mem_of_getElem? (i := 879) (by decide +kernel)) rfl
set_option maxRecDepth 20000 in
theorem cd_X1_openBlock : Cond.code yX1_openBlock cX1_openBlock 5 ((Option.some Jvm.ClassFile.FieldType.int)) ∈ lw_g := lw_g_in (List.mem_of_getElem? (i := 777) (by decide +kernel)) rfl
set_option maxRecDepth 20000 in
theorem cd_X1_putPieces : Cond.code yX1_putPieces cX1_putPieces 9 ((Option.none : Option Jvm.ClassFile.FieldType)) ∈ lw_g := lw_g_in (List.mem_of_getElem? (i := 802) (by decide +kernel)) rfl
set_option maxRecDepth 20000 in
theorem cd_X1_ring : Cond.code yX1_ring cX1_ring 3 ((Option.none : Option Jvm.ClassFile.FieldType)) ∈ lw_g := lw_g_in (List.mem_of_getElem? (i := 965) (by decide +kernel)) rfl
set_option maxRecDepth 20000 in
theorem cd_X1_ringOne : Cond.code yX1_ringOne cX1_ringOne 11 ((Option.none : Option Jvm.ClassFile.FieldType)) ∈ lw_g := lw_g_in (List.mem_of_getElem? (i := 973) (by decide +kernel)) rfl
set_option maxRecDepth 20000 in
theorem cd_X1_send : Cond.code yX1_send cX1_send 8 ((Option.none : Option Jvm.ClassFile.FieldType)) ∈ lw_g := lw_g_in (List.mem_of_getElem? (i := 891) (by decide +kernel)) rfl
set_option maxRecDepth 20000 in
theorem cd_X1_tick : Cond.code yX1_tick cX1_tick 5 ((Option.none : Option Jvm.ClassFile.FieldType)) ∈ lw_g := lw_g_in (List.mem_of_getElem? (i := 867) (by decide +kernel)) rfl
set_option maxRecDepth 20000 in
theorem cd_X1_ticksTillEnd : Cond.code yX1_ticksTillEnd cX1_ticksTillEnd 3 ((Option.some Jvm.ClassFile.FieldType.int)) ∈ lw_g := lw_g_in (List.mem_of_getElem? (i := 1169) (by decide +kernel)) rfl
set_option maxRecDepth 20000 in
theorem cd_X2_init : Cond.code yX2_init cX2_init 3 ((Option.none : Option Jvm.ClassFile.FieldType)) ∈ lw_g := lw_g_in (List.mem_of_getElem? (i := 341) (by decide +kernel)) rfl
set_option maxRecDepth 20000 in
theorem cd_X2_bytesOf : Cond.code yX2_bytesOf cX2_bytesOf 3 ((Option.some Jvm.ClassFile.FieldType.int)) ∈ lw_g := lw_g_in (List.mem_of_getElem? (i := 927) (by decide +kernel)) rfl
set_option maxRecDepth 20000 in
theorem cd_X2_losing : Cond.code yX2_losing cX2_losing 5 ((Option.some Jvm.ClassFile.FieldType.int)) ∈ lw_g := lw_g_in (List.mem_of_getElem? (i := 911) (by decide +kernel)) rfl
set_option maxRecDepth 20000 in
theorem cd_X2_named : Cond.code yX2_named cX2_named 2 ((Option.some Jvm.ClassFile.FieldType.int)) ∈ lw_g := lw_g_in (List.mem_of_getElem? (i := 939) (by decide +kernel)) rfl
set_option maxRecDepth 20000 in
theorem cd_X2_pop : Cond.code yX2_pop cX2_pop 1 ((Option.some Jvm.ClassFile.FieldType.int)) ∈ lw_g := lw_g_in (List.mem_of_getElem? (i := 919) (by decide +kernel)) rfl
set_option maxRecDepth 20000 in
theorem cd_X2_push : Cond.code yX2_push cX2_push 2 ((Option.none : Option Jvm.ClassFile.FieldType)) ∈ lw_g := lw_g_in (List.mem_of_getElem? (i := 923) (by decide +kernel)) rfl
set_option maxRecDepth 20000 in
theorem cd_X2_pushOfTwo : Cond.code yX2_pushOfTwo cX2_pushOfTwo 8 ((Option.none : Option Jvm.ClassFile.FieldType)) ∈ lw_g := lw_g_in (List.mem_of_getElem? (i := 943) (by decide +kernel)) rfl
set_option maxRecDepth 20000 in
theorem cd_X2_value : Cond.code yX2_value cX2_value 9 ((Option.some Jvm.ClassFile.FieldType.int)) ∈ lw_g := lw_g_in (List.mem_of_getElem? (i := 915) (by decide +kernel)) rfl
set_option maxRecDepth 20000 in
theorem cd_X2_waiting : Cond.code yX2_waiting cX2_waiting 5 ((Option.some Jvm.ClassFile.FieldType.int)) ∈ lw_g := lw_g_in (List.mem_of_getElem? (i := 961) (by decide +kernel)) rfl
set_option maxRecDepth 20000 in
theorem cd_X3_init : Cond.code yX3_init cX3_init 1 ((Option.none : Option Jvm.ClassFile.FieldType)) ∈ lw_g := lw_g_in (List.mem_of_getElem? (i := 387) (by decide +kernel)) rfl
set_option maxRecDepth 20000 in
theorem cd_X3_addClause : Cond.code yX3_addClause cX3_addClause 5 ((Option.none : Option Jvm.ClassFile.FieldType)) ∈ lw_g := lw_g_in (List.mem_of_getElem? (i := 692) (by decide +kernel)) rfl
set_option maxRecDepth 20000 in
theorem cd_X3_ask : Cond.code yX3_ask cX3_ask 4 ((Option.some Jvm.ClassFile.FieldType.boolean)) ∈ lw_g := lw_g_in (List.mem_of_getElem? (i := 670) (by decide +kernel)) rfl
set_option maxRecDepth 20000 in
theorem cd_X3_both : Cond.code yX3_both cX3_both 3 ((Option.some Jvm.ClassFile.FieldType.boolean)) ∈ lw_g := lw_g_in (List.mem_of_getElem? (i := 666) (by decide +kernel)) rfl
set_option maxRecDepth 20000 in
theorem cd_X3_choice : Cond.code yX3_choice cX3_choice 4 ((Option.some Jvm.ClassFile.FieldType.boolean)) ∈ lw_g := lw_g_in (List.mem_of_getElem? (i := 658) (by decide +kernel)) rfl
set_option maxRecDepth 20000 in
theorem cd_X3_clause : Cond.code yX3_clause cX3_clause 3 ((Option.some Jvm.ClassFile.FieldType.boolean)) ∈ lw_g := lw_g_in (List.mem_of_getElem? (i := 614) (by decide +kernel)) rfl
set_option maxRecDepth 20000 in
theorem cd_X3_deedClause : Cond.code yX3_deedClause cX3_deedClause 4 ((Option.some Jvm.ClassFile.FieldType.boolean)) ∈ lw_g := lw_g_in (List.mem_of_getElem? (i := 696) (by decide +kernel)) rfl
set_option maxRecDepth 20000 in
theorem cd_X3_either : Cond.code yX3_either cX3_either 3 ((Option.some Jvm.ClassFile.FieldType.boolean)) ∈ lw_g := lw_g_in (List.mem_of_getElem? (i := 662) (by decide +kernel)) rfl
set_option maxRecDepth 20000 in
theorem cd_X3_emit : Cond.code yX3_emit cX3_emit 3 ((Option.some Jvm.ClassFile.FieldType.boolean)) ∈ lw_g := lw_g_in (List.mem_of_getElem? (i := 650) (by decide +kernel)) rfl
set_option maxRecDepth 20000 in
theorem cd_X3_landHere : Cond.code yX3_landHere cX3_landHere 2 ((Option.none : Option Jvm.ClassFile.FieldType)) ∈ lw_g := lw_g_in (List.mem_of_getElem? (i := 674) (by decide +kernel)) rfl
set_option maxRecDepth 20000 in
theorem cd_X3_lawClause : Cond.code yX3_lawClause cX3_lawClause 3 ((Option.some Jvm.ClassFile.FieldType.boolean)) ∈ lw_g := lw_g_in (List.mem_of_getElem? (i := 626) (by decide +kernel)) rfl
set_option maxRecDepth 20000 in
theorem cd_X3_name : Cond.code yX3_name cX3_name 3 ((Option.some Jvm.ClassFile.FieldType.boolean)) ∈ lw_g := lw_g_in (List.mem_of_getElem? (i := 646) (by decide +kernel)) rfl
set_option maxRecDepth 20000 in
theorem cd_X3_number : Cond.code yX3_number cX3_number 4 ((Option.some Jvm.ClassFile.FieldType.int)) ∈ lw_g := lw_g_in (List.mem_of_getElem? (i := 700) (by decide +kernel)) rfl
set_option maxRecDepth 20000 in
theorem cd_X3_one : Cond.code yX3_one cX3_one 5 ((Option.some Jvm.ClassFile.FieldType.boolean)) ∈ lw_g := lw_g_in (List.mem_of_getElem? (i := 638) (by decide +kernel)) rfl
set_option maxRecDepth 20000 in
theorem cd_X3_product : Cond.code yX3_product cX3_product 4 ((Option.some Jvm.ClassFile.FieldType.boolean)) ∈ lw_g := lw_g_in (List.mem_of_getElem? (i := 634) (by decide +kernel)) rfl
set_option maxRecDepth 20000 in
theorem cd_X3_read : Cond.code yX3_read cX3_read 4 ((Option.some (Jvm.ClassFile.FieldType.object "LongCarrier$Text"))) ∈ lw_g := lw_g_in (List.mem_of_getElem? (i := 523) (by decide +kernel)) rfl
set_option maxRecDepth 20000 in
theorem cd_X3_refuse : Cond.code yX3_refuse cX3_refuse 2 ((Option.some Jvm.ClassFile.FieldType.boolean)) ∈ lw_g := lw_g_in (List.mem_of_getElem? (i := 618) (by decide +kernel)) rfl
set_option maxRecDepth 20000 in
theorem cd_X3_sum : Cond.code yX3_sum cX3_sum 4 ((Option.some Jvm.ClassFile.FieldType.boolean)) ∈ lw_g := lw_g_in (List.mem_of_getElem? (i := 630) (by decide +kernel)) rfl
set_option maxRecDepth 20000 in
theorem cd_X3_take : Cond.code yX3_take cX3_take 2 ((Option.some Jvm.ClassFile.FieldType.boolean)) ∈ lw_g := lw_g_in (List.mem_of_getElem? (i := 654) (by decide +kernel)) rfl
set_option maxRecDepth 20000 in
theorem cd_X4_init : Cond.code yX4_init cX4_init 3 ((Option.none : Option Jvm.ClassFile.FieldType)) ∈ lw_g := lw_g_in (List.mem_of_getElem? (i := 237) (by decide +kernel)) rfl
set_option maxRecDepth 20000 in
theorem cd_X4_addFirstOf : Cond.code yX4_addFirstOf cX4_addFirstOf 5 ((Option.none : Option Jvm.ClassFile.FieldType)) ∈ lw_g := lw_g_in (List.mem_of_getElem? (i := 957) (by decide +kernel)) rfl
set_option maxRecDepth 20000 in
theorem cd_X4_addMessage : Cond.code yX4_addMessage cX4_addMessage 9 ((Option.none : Option Jvm.ClassFile.FieldType)) ∈ lw_g := lw_g_in (List.mem_of_getElem? (i := 818) (by decide +kernel)) rfl
set_option maxRecDepth 20000 in
theorem cd_X4_addNote : Cond.code yX4_addNote cX4_addNote 6 ((Option.none : Option Jvm.ClassFile.FieldType)) ∈ lw_g := lw_g_in (List.mem_of_getElem? (i := 794) (by decide +kernel)) rfl
set_option maxRecDepth 20000 in
theorem cd_X4_copyFrom : Cond.code yX4_copyFrom cX4_copyFrom 3 ((Option.none : Option Jvm.ClassFile.FieldType)) ∈ lw_g := lw_g_in (List.mem_of_getElem? (i := 772) (by decide +kernel)) rfl
set_option maxRecDepth 20000 in
theorem cd_X4_countOf : Cond.code yX4_countOf cX4_countOf 5 ((Option.some Jvm.ClassFile.FieldType.int)) ∈ lw_g := lw_g_in (List.mem_of_getElem? (i := 1118) (by decide +kernel)) rfl
set_option maxRecDepth 20000 in
theorem cd_X4_countOrCell : Cond.code yX4_countOrCell cX4_countOrCell 3 ((Option.some Jvm.ClassFile.FieldType.int)) ∈ lw_g := lw_g_in (List.mem_of_getElem? (i := 1066) (by decide +kernel)) rfl
set_option maxRecDepth 20000 in
theorem cd_X4_get : Cond.code yX4_get cX4_get 4 ((Option.some Jvm.ClassFile.FieldType.int)) ∈ lw_g := lw_g_in (List.mem_of_getElem? (i := 756) (by decide +kernel)) rfl
set_option maxRecDepth 20000 in
theorem cd_X4_isOf : Cond.code yX4_isOf cX4_isOf 9 ((Option.some Jvm.ClassFile.FieldType.boolean)) ∈ lw_g := lw_g_in (List.mem_of_getElem? (i := 839) (by decide +kernel)) rfl
set_option maxRecDepth 20000 in
theorem cd_X4_put : Cond.code yX4_put cX4_put 5 ((Option.none : Option Jvm.ClassFile.FieldType)) ∈ lw_g := lw_g_in (List.mem_of_getElem? (i := 790) (by decide +kernel)) rfl
set_option maxRecDepth 20000 in
theorem cd_X4_raise : Cond.code yX4_raise cX4_raise 5 ((Option.none : Option Jvm.ClassFile.FieldType)) ∈ lw_g := lw_g_in (List.mem_of_getElem? (i := 813) (by decide +kernel)) rfl
set_option maxRecDepth 20000 in
theorem cd_X4_remove : Cond.code yX4_remove cX4_remove 4 ((Option.none : Option Jvm.ClassFile.FieldType)) ∈ lw_g := lw_g_in (List.mem_of_getElem? (i := 843) (by decide +kernel)) rfl
set_option maxRecDepth 20000 in
theorem cd_X5_init : Cond.code yX5_init cX5_init 2 ((Option.none : Option Jvm.ClassFile.FieldType)) ∈ lw_g := lw_g_in (List.mem_of_getElem? (i := 156) (by decide +kernel)) rfl
set_option maxRecDepth 20000 in
theorem cd_X5_copyFrom : Cond.code yX5_copyFrom cX5_copyFrom 5 ((Option.none : Option Jvm.ClassFile.FieldType)) ∈ lw_g := lw_g_in (List.mem_of_getElem? (i := 1248) (by decide +kernel)) rfl
set_option maxRecDepth 20000 in
theorem cd_X5_remember : Cond.code yX5_remember cX5_remember 2 ((Option.none : Option Jvm.ClassFile.FieldType)) ∈ lw_g := lw_g_in (List.mem_of_getElem? (i := 760) (by decide +kernel)) rfl
set_option maxRecDepth 20000 in
theorem cd_X5_step : Cond.code yX5_step cX5_step 3 ((Option.some (Jvm.ClassFile.FieldType.object "LongCarrier$State"))) ∈ lw_g := lw_g_in (List.mem_of_getElem? (i := 764) (by decide +kernel)) rfl
set_option maxRecDepth 20000 in
theorem cd_X5_takeBack : Cond.code yX5_takeBack cX5_takeBack 2 ((Option.some Jvm.ClassFile.FieldType.int)) ∈ lw_g := lw_g_in (List.mem_of_getElem? (i := 1010) (by decide +kernel)) rfl
set_option maxRecDepth 20000 in
theorem cd_X6_init : Cond.code yX6_init cX6_init 1 ((Option.none : Option Jvm.ClassFile.FieldType)) ∈ lw_g := lw_g_in (List.mem_of_getElem? (i := 231) (by decide +kernel)) rfl
set_option maxRecDepth 20000 in
theorem cd_X6_copyFrom : Cond.code yX6_copyFrom cX6_copyFrom 2 ((Option.none : Option Jvm.ClassFile.FieldType)) ∈ lw_g := lw_g_in (List.mem_of_getElem? (i := 768) (by decide +kernel)) rfl
set_option maxRecDepth 20000 in
theorem cd_X6_drawn : Cond.code yX6_drawn cX6_drawn 2 ((Option.some Jvm.ClassFile.FieldType.int)) ∈ lw_g := lw_g_in (List.mem_of_getElem? (i := 895) (by decide +kernel)) rfl
set_option maxRecDepth 20000 in
theorem cd_X6_line : Cond.code yX6_line cX6_line 2 ((Option.some (Jvm.ClassFile.FieldType.object "LongCarrier$Rows"))) ∈ lw_g := lw_g_in (List.mem_of_getElem? (i := 781) (by decide +kernel)) rfl
set_option maxRecDepth 20000 in
theorem cd_X6_stir : Cond.code yX6_stir cX6_stir 1 ((Option.none : Option Jvm.ClassFile.FieldType)) ∈ lw_g := lw_g_in (List.mem_of_getElem? (i := 899) (by decide +kernel)) rfl
set_option maxRecDepth 20000 in
theorem cd_X7_init : Cond.code yX7_init cX7_init 4 ((Option.none : Option Jvm.ClassFile.FieldType)) ∈ lw_g := lw_g_in (List.mem_of_getElem? (i := 706) (by decide +kernel)) rfl
set_option maxRecDepth 20000 in
theorem cd_X7_clause : Cond.code yX7_clause cX7_clause 3 ((Option.some Jvm.ClassFile.FieldType.int)) ∈ lw_g := lw_g_in (List.mem_of_getElem? (i := 988) (by decide +kernel)) rfl
set_option maxRecDepth 20000 in
theorem cd_X7_clauseCount : Cond.code yX7_clauseCount cX7_clauseCount 1 ((Option.some Jvm.ClassFile.FieldType.int)) ∈ lw_g := lw_g_in (List.mem_of_getElem? (i := 984) (by decide +kernel)) rfl
set_option maxRecDepth 20000 in
theorem cd_X8_init : Cond.code yX8_init cX8_init 1 ((Option.none : Option Jvm.ClassFile.FieldType)) ∈ lw_g := lw_g_in (List.mem_of_getElem? (i := 393) (by decide +kernel)) rfl
set_option maxRecDepth 20000 in
theorem cd_X8_add : Cond.code yX8_add cX8_add 4 ((Option.none : Option Jvm.ClassFile.FieldType)) ∈ lw_g := lw_g_in (List.mem_of_getElem? (i := 599) (by decide +kernel)) rfl
set_option maxRecDepth 20000 in
theorem cd_X8_cut : Cond.code yX8_cut cX8_cut 6 ((Option.none : Option Jvm.ClassFile.FieldType)) ∈ lw_g := lw_g_in (List.mem_of_getElem? (i := 527) (by decide +kernel)) rfl
set_option maxRecDepth 20000 in
theorem cd_X8_figure : Cond.code yX8_figure cX8_figure 5 ((Option.some Jvm.ClassFile.FieldType.int)) ∈ lw_g := lw_g_in (List.mem_of_getElem? (i := 602) (by decide +kernel)) rfl
set_option maxRecDepth 20000 in
theorem cd_X8_isDigit : Cond.code yX8_isDigit cX8_isDigit 1 ((Option.some Jvm.ClassFile.FieldType.boolean)) ∈ lw_g := lw_g_in (List.mem_of_getElem? (i := 540) (by decide +kernel)) rfl
set_option maxRecDepth 20000 in
theorem cd_X8_isLetter : Cond.code yX8_isLetter cX8_isLetter 1 ((Option.some Jvm.ClassFile.FieldType.boolean)) ∈ lw_g := lw_g_in (List.mem_of_getElem? (i := 537) (by decide +kernel)) rfl
set_option maxRecDepth 20000 in
theorem cd_X8_isWord : Cond.code yX8_isWord cX8_isWord 6 ((Option.some Jvm.ClassFile.FieldType.boolean)) ∈ lw_g := lw_g_in (List.mem_of_getElem? (i := 595) (by decide +kernel)) rfl
set_option maxRecDepth 20000 in
theorem cd_X8_place : Cond.code yX8_place cX8_place 2 ((Option.some Jvm.ClassFile.FieldType.int)) ∈ lw_g := lw_g_in (List.mem_of_getElem? (i := 622) (by decide +kernel)) rfl
set_option maxRecDepth 20000 in
theorem cd_X8_signSort : Cond.code yX8_signSort cX8_signSort 3 ((Option.some Jvm.ClassFile.FieldType.int)) ∈ lw_g := lw_g_in (List.mem_of_getElem? (i := 605) (by decide +kernel)) rfl
set_option maxRecDepth 20000 in
theorem cd_X8_sort : Cond.code yX8_sort cX8_sort 2 ((Option.some Jvm.ClassFile.FieldType.int)) ∈ lw_g := lw_g_in (List.mem_of_getElem? (i := 610) (by decide +kernel)) rfl
set_option maxRecDepth 20000 in
theorem cd_X8_tokenEnd : Cond.code yX8_tokenEnd cX8_tokenEnd 6 ((Option.some Jvm.ClassFile.FieldType.int)) ∈ lw_g := lw_g_in (List.mem_of_getElem? (i := 534) (by decide +kernel)) rfl
set_option maxRecDepth 20000 in
theorem cd_X8_value : Cond.code yX8_value cX8_value 2 ((Option.some Jvm.ClassFile.FieldType.int)) ∈ lw_g := lw_g_in (List.mem_of_getElem? (i := 642) (by decide +kernel)) rfl
set_option maxRecDepth 20000 in
theorem cd_X8_wordSort : Cond.code yX8_wordSort cX8_wordSort 6 ((Option.some Jvm.ClassFile.FieldType.int)) ∈ lw_g := lw_g_in (List.mem_of_getElem? (i := 543) (by decide +kernel)) rfl
set_option maxRecDepth 20000 in
theorem cd_X9_init : Cond.code yX9_init cX9_init 1 ((Option.none : Option Jvm.ClassFile.FieldType)) ∈ lw_g := lw_g_in (List.mem_of_getElem? (i := 162) (by decide +kernel)) rfl
set_option maxRecDepth 20000 in
theorem cd_X9_addBlock : Cond.code yX9_addBlock cX9_addBlock 3 ((Option.some Jvm.ClassFile.FieldType.int)) ∈ lw_g := lw_g_in (List.mem_of_getElem? (i := 487) (by decide +kernel)) rfl
set_option maxRecDepth 20000 in
theorem cd_X9_addSaid : Cond.code yX9_addSaid cX9_addSaid 3 ((Option.some Jvm.ClassFile.FieldType.int)) ∈ lw_g := lw_g_in (List.mem_of_getElem? (i := 740) (by decide +kernel)) rfl
