/-! constructors: rules that name the next world -/
def FrB (a n : Nat) (w w' : Wo) : Prop := ∀ q : Nat, (q < a ∨ a + n ≤ q) → lk w' q = lk w q
theorem Fu_fr {G : GT} {w w' : Wo} {z a : Nat} {c : Ce} (h : Fu G w z) (ha : lk w' a = some c) (e : ∀ q : Nat, q ≠ a → lk w' q = lk w q) : Fu G w' z := fun q h1 h2 e2 => by
  by_cases hq : q = a
  · subst hq; rw [ha] at e2; cases e2
  · exact h q h1 h2 ((e q hq).symm.trans e2)
section QWW
variable {l : Launch} {G : GT} {y : MethodName} {cc : ByteArray} {t : Tab} {nL : Nat} {ret : Option FieldType} {d mc ms sz : Nat} {Qp : Option AV → Wo → Prop} {g : gF}
variable {k n : Nat} {w : Wo} {pc : Nat} {lv : Lo} {st : List AV} {a : Nat}
theorem Mach.putW {idx ci kf : Nat} {ty : FieldType} {fs : List AV} {v : AV} (fs' : List AV) (M : Mach l G y cc t nL ret d mc ms Qp g) (hf : FLk y.cls idx ci kf false ty) (hq : qlk t pc = some (.putfield idx, 3)) (he : lk w a = some (Ob ci fs)) (hn : narrow ty (qv v) = qv v) (hfit : fits ty (qv v) = true) (hl2 : kf < fs.length) (hfs : fs.set kf v = fs') (kk : ∀ w' : Wo, lk w' a = some (Ob ci fs') → (∀ q : Nat, q ≠ a → lk w' q = lk w q) → g k n w' (pc + 3) lv st) : g k n w pc lv (v :: vr a :: st) := by
  subst hfs
  exact M.put hf hq he hn hfit hl2 (kk _ (lk_up_s he) (fun q h => lk_up_n h))
theorem Mach.putFW {idx ci kf : Nat} {ty : FieldType} {fs : List AV} {v : AV} (fs' : List AV) (M : Mach l G y cc t nL ret d mc ms Qp g) (hf : FLk y.cls idx ci kf true ty) (hy : y.name = "<init>") (hci : (vwCl[ci]?).map (fun q => q.1) = some y.cls) (hq : qlk t pc = some (.putfield idx, 3)) (he : lk w a = some (Ob ci fs)) (hn : narrow ty (qv v) = qv v) (hfit : fits ty (qv v) = true) (hl2 : kf < fs.length) (hfs : fs.set kf v = fs') (kk : ∀ w' : Wo, lk w' a = some (Ob ci fs') → (∀ q : Nat, q ≠ a → lk w' q = lk w q) → g k n w' (pc + 3) lv st) : g k n w pc lv (v :: vr a :: st) := by
  subst hfs
  exact M.putF hf hy hci hq he hn hfit hl2 (kk _ (lk_up_s he) (fun q h => lk_up_n h))
theorem MachS.newIW {N : Nat} (z : Nat) (M : MachS l G y cc t nL ret d mc ms Qp sz g) (hz : sz + k = z) (hF : Fu G w z) (hN : N ≤ 100000) (hq : qlk t pc = some (.newarray .int, 2)) (hk : k + 1 ≤ mc) (hn : n + N ≤ ms)
    (kk : ∀ w' : Wo, lk w' z = some (Ar 0 N (fun _ => 0)) → (∀ q : Nat, q ≠ z → lk w' q = lk w q) → Fu G w' (z + 1) → g (k + 1) (n + N) w' (pc + 2) lv (vr z :: st)) : g k n w pc lv (vi (N : Nat) :: st) :=
  M.M.newI hN hq hk hn (fun q f1 f2 => M.at z hz hF f1 f2 (fun f => kk _ (lk_nw_s f) (fun q h => lk_nw_n h) (Fu_nw hF rfl)))
theorem MachS.newQ3W {N idx : Nat} (z : Nat) (M : MachS l G y cc t nL ret d mc ms Qp sz g) (hz : sz + k = z) (hF : Fu G w z) (hcl : Cond.classLink y.cls idx "LongCarrier$Text" ∈ lw_g) (hN : N ≤ 100000) (hq : qlk t pc = some (.anewarray idx, 3)) (hk : k + 1 ≤ mc) (hn : n + N ≤ ms)
    (kk : ∀ w' : Wo, lk w' z = some (Ar 3 N (fun _ => -1)) → (∀ q : Nat, q ≠ z → lk w' q = lk w q) → Fu G w' (z + 1) → g (k + 1) (n + N) w' (pc + 3) lv (vr z :: st)) : g k n w pc lv (vi (N : Nat) :: st) :=
  M.newQ3 hcl hN hq hk hn (fun q f1 f2 => M.at z hz hF f1 f2 (fun f => kk _ (lk_nw_s f) (fun q h => lk_nw_n h) (Fu_nw hF rfl)))
theorem MachS.newQ4W {N idx : Nat} (z : Nat) (M : MachS l G y cc t nL ret d mc ms Qp sz g) (hz : sz + k = z) (hF : Fu G w z) (hcl : Cond.classLink y.cls idx "LongCarrier$State" ∈ lw_g) (hN : N ≤ 100000) (hq : qlk t pc = some (.anewarray idx, 3)) (hk : k + 1 ≤ mc) (hn : n + N ≤ ms)
    (kk : ∀ w' : Wo, lk w' z = some (Ar 4 N (fun _ => -1)) → (∀ q : Nat, q ≠ z → lk w' q = lk w q) → Fu G w' (z + 1) → g (k + 1) (n + N) w' (pc + 3) lv (vr z :: st)) : g k n w pc lv (vi (N : Nat) :: st) :=
  M.newQ4 hcl hN hq hk hn (fun q f1 f2 => M.at z hz hF f1 f2 (fun f => kk _ (lk_nw_s f) (fun q h => lk_nw_n h) (Fu_nw hF rfl)))
theorem MachS.newOW {ci idx N : Nat} {C : String} {T : u_T} {ty0 : Nat → FieldType} (z : Nat) (fs : List AV) (M : MachS l G y cc t nL ret d mc ms Qp sz g) (hz : sz + k = z) (hF : Fu G w z) (hc : vwCl[ci]? = some (C, T, N)) (hin : ∀ w ∈ u_ws C T N, w ∈ lw_g) (hty : ∀ k, k < N → parseFieldDescriptor (T k).2.2.1 = some (ty0 k)) (hcl : Cond.classLink y.cls idx C ∈ lw_g) (hinst : Cond.instantiable C N ∈ lw_g) (hini : Cond.initialized C ∈ lw_g) (hfs : ∀ j, j < N → defaultValue (ty0 j) = vp_V (fs.map qv) j) (hq : qlk t pc = some (.new idx, 3)) (hk : k + 1 ≤ mc) (hn : n + N ≤ ms)
    (kk : ∀ w' : Wo, lk w' z = some (Ob ci fs) → (∀ q : Nat, q ≠ z → lk w' q = lk w q) → Fu G w' (z + 1) → g (k + 1) (n + N) w' (pc + 3) lv (vr z :: st)) : g k n w pc lv st :=
  M.M.newO fs hc hin hty hcl hinst hini hfs hq hk hn (fun q f1 f2 => M.at z hz hF f1 f2 (fun f => kk _ (lk_nw_s f) (fun q h => lk_nw_n h) (Fu_nw hF rfl)))
end QWW
/-! the small ones -/
set_option maxRecDepth 100000 in
theorem wd_o_RX10 : Cond.methodLink RX10 3 objectInit ∈ lw_g := lw_g_in (List.mem_of_getElem? (i := 149) (by decide +kernel)) rfl
set_option maxRecDepth 100000 in
theorem wd_o_RX5 : Cond.methodLink RX5 3 objectInit ∈ lw_g := lw_g_in (List.mem_of_getElem? (i := 157) (by decide +kernel)) rfl
set_option maxRecDepth 100000 in
theorem wd_o_RX9 : Cond.methodLink RX9 3 objectInit ∈ lw_g := lw_g_in (List.mem_of_getElem? (i := 163) (by decide +kernel)) rfl
set_option maxRecDepth 100000 in
theorem wd_o_RX6 : Cond.methodLink RX6 3 objectInit ∈ lw_g := lw_g_in (List.mem_of_getElem? (i := 232) (by decide +kernel)) rfl
set_option maxRecDepth 100000 in
theorem wd_o_RX4 : Cond.methodLink RX4 3 objectInit ∈ lw_g := lw_g_in (List.mem_of_getElem? (i := 238) (by decide +kernel)) rfl
set_option maxRecDepth 100000 in
theorem wd_o_RX1 : Cond.methodLink RX1 3 objectInit ∈ lw_g := lw_g_in (List.mem_of_getElem? (i := 336) (by decide +kernel)) rfl
set_option maxRecDepth 100000 in
theorem wd_o_RX2 : Cond.methodLink RX2 3 objectInit ∈ lw_g := lw_g_in (List.mem_of_getElem? (i := 342) (by decide +kernel)) rfl
set_option maxRecDepth 100000 in
theorem wd_o_RX3 : Cond.methodLink RX3 3 objectInit ∈ lw_g := lw_g_in (List.mem_of_getElem? (i := 388) (by decide +kernel)) rfl
set_option maxRecDepth 100000 in
theorem wd_o_RX8 : Cond.methodLink RX8 3 objectInit ∈ lw_g := lw_g_in (List.mem_of_getElem? (i := 394) (by decide +kernel)) rfl
set_option maxRecDepth 100000 in
theorem wd_l_RX10_9 : Cond.classLink RX10 9 RX5 ∈ lw_g := lw_g_in (List.mem_of_getElem? (i := 152) (by decide +kernel)) rfl
set_option maxRecDepth 100000 in
theorem wd_l_RX5_9 : Cond.classLink RX5 9 RX9 ∈ lw_g := lw_g_in (List.mem_of_getElem? (i := 158) (by decide +kernel)) rfl
set_option maxRecDepth 100000 in
theorem wd_l_RX5_18 : Cond.classLink RX5 18 RX6 ∈ lw_g := lw_g_in (List.mem_of_getElem? (i := 227) (by decide +kernel)) rfl
set_option maxRecDepth 100000 in
theorem wd_l_RX6_15 : Cond.classLink RX6 15 RX4 ∈ lw_g := lw_g_in (List.mem_of_getElem? (i := 233) (by decide +kernel)) rfl
set_option maxRecDepth 100000 in
theorem wd_l_RX10_29 : Cond.classLink RX10 29 RX1 ∈ lw_g := lw_g_in (List.mem_of_getElem? (i := 331) (by decide +kernel)) rfl
set_option maxRecDepth 100000 in
theorem wd_l_RX1_19 : Cond.classLink RX1 19 RX2 ∈ lw_g := lw_g_in (List.mem_of_getElem? (i := 337) (by decide +kernel)) rfl
set_option maxRecDepth 100000 in
theorem wd_l_RX10_38 : Cond.classLink RX10 38 RX6 ∈ lw_g := lw_g_in (List.mem_of_getElem? (i := 381) (by decide +kernel)) rfl
set_option maxRecDepth 100000 in
theorem wd_l_RX10_44 : Cond.classLink RX10 44 RX3 ∈ lw_g := lw_g_in (List.mem_of_getElem? (i := 383) (by decide +kernel)) rfl
set_option maxRecDepth 100000 in
theorem wd_l_RX3_9 : Cond.classLink RX3 9 RX8 ∈ lw_g := lw_g_in (List.mem_of_getElem? (i := 389) (by decide +kernel)) rfl
set_option maxRecDepth 100000 in
theorem wd_l_RX9_37 : Cond.classLink RX9 37 RX7 ∈ lw_g := lw_g_in (List.mem_of_getElem? (i := 164) (by decide +kernel)) rfl
set_option maxRecDepth 100000 in
theorem wd_i_RX5 : Cond.instantiable RX5 5 ∈ lw_g := lw_g_in (List.mem_of_getElem? (i := 153) (by decide +kernel)) rfl
set_option maxRecDepth 100000 in
theorem wd_s_RX5 : Cond.initialized RX5 ∈ lw_g := lw_g_in (List.mem_of_getElem? (i := 125) (by decide +kernel)) rfl
set_option maxRecDepth 100000 in
theorem wd_i_RX9 : Cond.instantiable RX9 15 ∈ lw_g := lw_g_in (List.mem_of_getElem? (i := 159) (by decide +kernel)) rfl
set_option maxRecDepth 100000 in
theorem wd_s_RX9 : Cond.initialized RX9 ∈ lw_g := lw_g_in (List.mem_of_getElem? (i := 126) (by decide +kernel)) rfl
set_option maxRecDepth 100000 in
theorem wd_i_RX6 : Cond.instantiable RX6 11 ∈ lw_g := lw_g_in (List.mem_of_getElem? (i := 228) (by decide +kernel)) rfl
set_option maxRecDepth 100000 in
theorem wd_s_RX6 : Cond.initialized RX6 ∈ lw_g := lw_g_in (List.mem_of_getElem? (i := 127) (by decide +kernel)) rfl
set_option maxRecDepth 100000 in
theorem wd_i_RX4 : Cond.instantiable RX4 3 ∈ lw_g := lw_g_in (List.mem_of_getElem? (i := 234) (by decide +kernel)) rfl
set_option maxRecDepth 100000 in
theorem wd_s_RX4 : Cond.initialized RX4 ∈ lw_g := lw_g_in (List.mem_of_getElem? (i := 128) (by decide +kernel)) rfl
set_option maxRecDepth 100000 in
theorem wd_i_RX1 : Cond.instantiable RX1 4 ∈ lw_g := lw_g_in (List.mem_of_getElem? (i := 332) (by decide +kernel)) rfl
set_option maxRecDepth 100000 in
theorem wd_s_RX1 : Cond.initialized RX1 ∈ lw_g := lw_g_in (List.mem_of_getElem? (i := 130) (by decide +kernel)) rfl
set_option maxRecDepth 100000 in
theorem wd_i_RX2 : Cond.instantiable RX2 7 ∈ lw_g := lw_g_in (List.mem_of_getElem? (i := 338) (by decide +kernel)) rfl
set_option maxRecDepth 100000 in
theorem wd_s_RX2 : Cond.initialized RX2 ∈ lw_g := lw_g_in (List.mem_of_getElem? (i := 131) (by decide +kernel)) rfl
set_option maxRecDepth 100000 in
theorem wd_i_RX3 : Cond.instantiable RX3 11 ∈ lw_g := lw_g_in (List.mem_of_getElem? (i := 384) (by decide +kernel)) rfl
set_option maxRecDepth 100000 in
theorem wd_s_RX3 : Cond.initialized RX3 ∈ lw_g := lw_g_in (List.mem_of_getElem? (i := 132) (by decide +kernel)) rfl
set_option maxRecDepth 100000 in
theorem wd_i_RX8 : Cond.instantiable RX8 4 ∈ lw_g := lw_g_in (List.mem_of_getElem? (i := 390) (by decide +kernel)) rfl
set_option maxRecDepth 100000 in
theorem wd_s_RX8 : Cond.initialized RX8 ∈ lw_g := lw_g_in (List.mem_of_getElem? (i := 133) (by decide +kernel)) rfl
set_option maxHeartbeats 4000000 in
set_option maxRecDepth 100000 in
theorem kX4_init (l : Launch) (G : GT) (o n m : Nat) (hm : 1 ≤ m) (hnm : n * m ≤ 1000) (hm2 : m ≤ 1000) (hn2 : n ≤ 1000) : CtrS l G yX4_init cX4_init 3 (none : Option FieldType) 1 1 (n * m) [vr o, vi (n : Nat), vi (m : Nat)] (o + 1) (fun w => lk w o = some (Ob 3 [vi 0, vn, vi 0]) ∧ Fu G w (o + 1)) (fun w r w' => r = none ∧ lk w' o = some (Ob 3 [vi (m : Nat), vr (o + 1), vi 0]) ∧ lk w' (o + 1) = some (Ar 0 (n * m) (fun _ => 0)) ∧ FrB o 2 w w' ∧ Fu G w' (o + 2)) := by
  refine CtrS.of (t := tX4_init) (lv0 := [some (vr o), some (vi (n : Nat)), some (vi (m : Nat))]) (by decide +kernel) tX4_init_ok rfl rfl (fun w g hP MS => ?_)
  obtain ⟨hP, hF⟩ := hP
  have M := MS.M
  refine M.run 1 (pc' := 1) (lv' := [some (vr o), some (vi (n : Nat)), some (vi (m : Nat))]) (st' := [vr o]) rfl ?_
  refine M.oinit wd_o_RX4 rfl (by decide) rfl ?_
  refine M.run 3 (pc' := 7) (lv' := [some (vr o), some (vi (n : Nat)), some (vi (m : Nat))]) (st' := [vi (m : Nat), vi 1, vr o]) rfl ?_
  refine M.mmax cs_X4_9 rfl (qI (by omega)) (qI (by omega)) (by decide) (by omega) (by omega) rfl ?_
  rw [show max (1 : Int) ((m : Nat) : Int) = ((m : Nat) : Int) from by omega]
  refine M.putFW [vi ((m : Nat) : Int), vn, vi 0] fl_X4_15 rfl rfl rfl hP rfl rfl (Nat.le_of_ble_eq_true rfl) rfl (fun w1_ hn1 fr1 => ?_)
  have hF1 := Fu_fr hF hn1 fr1
  refine M.run 4 (pc' := 17) (lv' := [some (vr o), some (vi (n : Nat)), some (vi (m : Nat))]) (st' := [vr o, vi (n : Nat), vi 0, vr o]) rfl ?_
  refine M.get fl_X4_15 rfl hn1 (kf := 0) (v := vi ((m : Nat) : Int)) rfl ?_
  refine M.run 1 (pc' := 21) (lv' := [some (vr o), some (vi (n : Nat)), some (vi (m : Nat))]) (st' := [vi (((n : Nat) : Int) * ((m : Nat) : Int)), vi 0, vr o]) rfl ?_
  rw [show ((n : Nat) : Int) * ((m : Nat) : Int) = ((n * m : Nat) : Int) from (Int.natCast_mul n m).symm]
  refine M.mmax cs_X4_9 rfl (qI (by omega)) (qI (by omega)) (by decide) (by omega) (by omega) rfl ?_
  rw [show max (0 : Int) ((n * m : Nat) : Int) = ((n * m : Nat) : Int) from by omega]
  refine MS.newIW (o + 1) (by omega) hF1 (by omega) rfl (by omega) (by omega) (fun w2_ hn2 fr2 hF2 => ?_)
  have hc2_0 := (fr2 _ (by omega)).trans hn1
  refine M.putFW [vi ((m : Nat) : Int), vr (o + 1), vi 0] fl_X4_21 rfl rfl rfl hc2_0 rfl rfl (Nat.le_of_ble_eq_true rfl) rfl (fun w3_ hn3 fr3 => ?_)
  have hc3_1 := (fr3 _ (by omega)).trans hn2
  have hF3 := Fu_fr hF2 hn3 fr3
  refine M.vret rfl (by omega) (by omega) ⟨rfl, hn3, hc3_1, fun q hq => (((fr3 q (by omega)).trans (fr2 q (by omega))).trans (fr1 q (by omega))), hF3⟩
set_option maxHeartbeats 4000000 in
set_option maxRecDepth 100000 in
theorem kX8_init (l : Launch) (G : GT) (o : Nat) : CtrS l G yX8_init cX8_init 1 (none : Option FieldType) 1 3 903 [vr o] (o + 1) (fun w => lk w o = some (Ob 7 [vn, vn, vn, vi 0]) ∧ Fu G w (o + 1)) (fun w r w' => r = none ∧ lk w' o = some (Ob 7 [vr (o + 1), vr (o + 2), vr (o + 3), vi 0]) ∧ lk w' (o + 1) = some (Ar 0 301 (fun _ => 0)) ∧ lk w' (o + 2) = some (Ar 0 301 (fun _ => 0)) ∧ lk w' (o + 3) = some (Ar 0 301 (fun _ => 0)) ∧ FrB o 4 w w' ∧ Fu G w' (o + 4)) := by
  refine CtrS.of (t := tX8_init) (lv0 := [some (vr o)]) (by decide +kernel) tX8_init_ok rfl rfl (fun w g hP MS => ?_)
  obtain ⟨hP, hF⟩ := hP
  have M := MS.M
  refine M.run 1 (pc' := 1) (lv' := [some (vr o)]) (st' := [vr o]) rfl ?_
  refine M.oinit wd_o_RX8 rfl (by decide) rfl ?_
  refine M.run 2 (pc' := 8) (lv' := [some (vr o)]) (st' := [vi 301, vr o]) rfl ?_
  show g _ _ _ _ _ (vi ((301 : Nat) : Int) :: _)
  refine MS.newIW (o + 1) (by omega) hF (by omega) rfl (by omega) (by omega) (fun w1_ hn1 fr1 hF1 => ?_)
  have hc1_0 := (fr1 _ (by omega)).trans hP
  refine M.putFW [vr (o + 1), vn, vn, vi 0] fl_X8_9 rfl rfl rfl hc1_0 rfl rfl (Nat.le_of_ble_eq_true rfl) rfl (fun w2_ hn2 fr2 => ?_)
  have hc2_1 := (fr2 _ (by omega)).trans hn1
  have hF2 := Fu_fr hF1 hn2 fr2
  refine M.run 2 (pc' := 17) (lv' := [some (vr o)]) (st' := [vi 301, vr o]) rfl ?_
  show g _ _ _ _ _ (vi ((301 : Nat) : Int) :: _)
  refine MS.newIW (o + 2) (by omega) hF2 (by omega) rfl (by omega) (by omega) (fun w3_ hn3 fr3 hF3 => ?_)
  have hc3_0 := (fr3 _ (by omega)).trans hn2
  have hc3_1 := (fr3 _ (by omega)).trans hc2_1
  refine M.putFW [vr (o + 1), vr (o + 2), vn, vi 0] fl_X8_15 rfl rfl rfl hc3_0 rfl rfl (Nat.le_of_ble_eq_true rfl) rfl (fun w4_ hn4 fr4 => ?_)
  have hc4_1 := (fr4 _ (by omega)).trans hc3_1
  have hc4_2 := (fr4 _ (by omega)).trans hn3
  have hF4 := Fu_fr hF3 hn4 fr4
  refine M.run 2 (pc' := 26) (lv' := [some (vr o)]) (st' := [vi 301, vr o]) rfl ?_
  show g _ _ _ _ _ (vi ((301 : Nat) : Int) :: _)
  refine MS.newIW (o + 3) (by omega) hF4 (by omega) rfl (by omega) (by omega) (fun w5_ hn5 fr5 hF5 => ?_)
  have hc5_0 := (fr5 _ (by omega)).trans hn4
  have hc5_1 := (fr5 _ (by omega)).trans hc4_1
  have hc5_2 := (fr5 _ (by omega)).trans hc4_2
  refine M.putFW [vr (o + 1), vr (o + 2), vr (o + 3), vi 0] fl_X8_18 rfl rfl rfl hc5_0 rfl rfl (Nat.le_of_ble_eq_true rfl) rfl (fun w6_ hn6 fr6 => ?_)
  have hc6_1 := (fr6 _ (by omega)).trans hc5_1
  have hc6_2 := (fr6 _ (by omega)).trans hc5_2
  have hc6_3 := (fr6 _ (by omega)).trans hn5
  have hF6 := Fu_fr hF5 hn6 fr6
  refine M.vret rfl (by omega) (by omega) ⟨rfl, hn6, hc6_1, hc6_2, hc6_3, fun q hq => ((((((fr6 q (by omega)).trans (fr5 q (by omega))).trans (fr4 q (by omega))).trans (fr3 q (by omega))).trans (fr2 q (by omega))).trans (fr1 q (by omega))), hF6⟩
set_option maxHeartbeats 4000000 in
set_option maxRecDepth 100000 in
theorem kX2_init (l : Launch) (G : GT) (o t0 a0 : Nat) : CtrS l G yX2_init cX2_init 3 (none : Option FieldType) 1 1 300 [vr o, vr t0, vr a0] (o + 1) (fun w => lk w o = some (Ob 1 [vn, vn, vn, vi 0, vi 0, vi 0, vi 0]) ∧ Fu G w (o + 1)) (fun w r w' => r = none ∧ lk w' o = some (Ob 1 [vr t0, vr a0, vr (o + 1), vi 0, vi 0, vi 0, vi 0]) ∧ lk w' (o + 1) = some (Ar 0 300 (fun _ => 0)) ∧ FrB o 2 w w' ∧ Fu G w' (o + 2)) := by
  refine CtrS.of (t := tX2_init) (lv0 := [some (vr o), some (vr t0), some (vr a0)]) (by decide +kernel) tX2_init_ok rfl rfl (fun w g hP MS => ?_)
  obtain ⟨hP, hF⟩ := hP
  have M := MS.M
  refine M.run 1 (pc' := 1) (lv' := [some (vr o), some (vr t0), some (vr a0)]) (st' := [vr o]) rfl ?_
  refine M.oinit wd_o_RX2 rfl (by decide) rfl ?_
  refine M.run 2 (pc' := 6) (lv' := [some (vr o), some (vr t0), some (vr a0)]) (st' := [vr t0, vr o]) rfl ?_
  refine M.putFW [vr t0, vn, vn, vi 0, vi 0, vi 0, vi 0] fl_X2_9 rfl rfl rfl hP rfl rfl (Nat.le_of_ble_eq_true rfl) rfl (fun w1_ hn1 fr1 => ?_)
  have hF1 := Fu_fr hF hn1 fr1
  refine M.run 2 (pc' := 11) (lv' := [some (vr o), some (vr t0), some (vr a0)]) (st' := [vr a0, vr o]) rfl ?_
  refine M.putFW [vr t0, vr a0, vn, vi 0, vi 0, vi 0, vi 0] fl_X2_15 rfl rfl rfl hn1 rfl rfl (Nat.le_of_ble_eq_true rfl) rfl (fun w2_ hn2 fr2 => ?_)
  have hF2 := Fu_fr hF1 hn2 fr2
  refine M.run 2 (pc' := 18) (lv' := [some (vr o), some (vr t0), some (vr a0)]) (st' := [vi 300, vr o]) rfl ?_
  show g _ _ _ _ _ (vi ((300 : Nat) : Int) :: _)
  refine MS.newIW (o + 1) (by omega) hF2 (by omega) rfl (by omega) (by omega) (fun w3_ hn3 fr3 hF3 => ?_)
  have hc3_0 := (fr3 _ (by omega)).trans hn2
  refine M.putFW [vr t0, vr a0, vr (o + 1), vi 0, vi 0, vi 0, vi 0] fl_X2_19 rfl rfl rfl hc3_0 rfl rfl (Nat.le_of_ble_eq_true rfl) rfl (fun w4_ hn4 fr4 => ?_)
  have hc4_1 := (fr4 _ (by omega)).trans hn3
  have hF4 := Fu_fr hF3 hn4 fr4
  refine M.vret rfl (by omega) (by omega) ⟨rfl, hn4, hc4_1, fun q hq => ((((fr4 q (by omega)).trans (fr3 q (by omega))).trans (fr2 q (by omega))).trans (fr1 q (by omega))), hF4⟩
/-- what is told at first -/
def t0i : Nat → Int := fun k => if k < 20 then ([0, 0, -1, 0, 0, 0, 2, 4, 3, 1, 0, 1, 0, 0, 0, 0, 0, 0, 0, 491] : List Int).getD k 0 else 0
theorem t0_far {k : Nat} (h : 20 ≤ k) : t0i k = 0 := by unfold t0i; rw [if_neg (by omega)]
set_option maxHeartbeats 4000000 in
set_option maxRecDepth 100000 in
theorem kX9_init (l : Launch) (G : GT) (o : Nat) : CtrS l G yX9_init cX9_init 1 (none : Option FieldType) 1 5 26 [vr o] (o + 1) (fun w => lk w o = some (Ob 8 [vi 0, vn, vn, vi 0, vi 0, vi 0, vi 0, vi 0, vi 0, vi 0, vn, vi 0, vi 0, vn, vn]) ∧ Fu G w (o + 1)) (fun w r w' => r = none ∧ isTo (fun j => o + j) t0i (fun _ => -1) w' ∧ FrB o 6 w w' ∧ Fu G w' (o + 6)) := by
  refine CtrS.of (t := tX9_init) (lv0 := [some (vr o)]) (by decide +kernel) tX9_init_ok rfl rfl (fun w g hP MS => ?_)
  obtain ⟨hP, hF⟩ := hP
  have M := MS.M
  refine M.run 1 (pc' := 1) (lv' := [some (vr o)]) (st' := [vr o]) rfl ?_
  refine M.oinit wd_o_RX9 rfl (by decide) rfl ?_
  refine M.run 2 (pc' := 6) (lv' := [some (vr o)]) (st' := [vi 3, vr o]) rfl ?_
  show g _ _ _ _ _ (vi ((3 : Nat) : Int) :: _)
  refine MS.newIW (o + 1) (by omega) hF (by omega) rfl (by omega) (by omega) (fun w1_ hn1 fr1 hF1 => ?_)
  have hc1_0 := (fr1 _ (by omega)).trans hP
  refine M.putFW [vi 0, vr (o + 1), vn, vi 0, vi 0, vi 0, vi 0, vi 0, vi 0, vi 0, vn, vi 0, vi 0, vn, vn] fl_X9_9 rfl rfl rfl hc1_0 rfl rfl (Nat.le_of_ble_eq_true rfl) rfl (fun w2_ hn2 fr2 => ?_)
  have hc2_1 := (fr2 _ (by omega)).trans hn1
  have hF2 := Fu_fr hF1 hn2 fr2
  refine M.run 2 (pc' := 13) (lv' := [some (vr o)]) (st' := [vi 3, vr o]) rfl ?_
  show g _ _ _ _ _ (vi ((3 : Nat) : Int) :: _)
  refine MS.newIW (o + 2) (by omega) hF2 (by omega) rfl (by omega) (by omega) (fun w3_ hn3 fr3 hF3 => ?_)
  have hc3_0 := (fr3 _ (by omega)).trans hn2
  have hc3_1 := (fr3 _ (by omega)).trans hc2_1
  refine M.putFW [vi 0, vr (o + 1), vr (o + 2), vi 0, vi 0, vi 0, vi 0, vi 0, vi 0, vi 0, vn, vi 0, vi 0, vn, vn] fl_X9_15 rfl rfl rfl hc3_0 rfl rfl (Nat.le_of_ble_eq_true rfl) rfl (fun w4_ hn4 fr4 => ?_)
  have hc4_1 := (fr4 _ (by omega)).trans hc3_1
  have hc4_2 := (fr4 _ (by omega)).trans hn3
  have hF4 := Fu_fr hF3 hn4 fr4
  refine M.run 2 (pc' := 20) (lv' := [some (vr o)]) (st' := [vi 1, vr o]) rfl ?_
  refine M.putW [vi 0, vr (o + 1), vr (o + 2), vi 1, vi 0, vi 0, vi 0, vi 0, vi 0, vi 0, vn, vi 0, vi 0, vn, vn] fl_X9_18 rfl hn4 rfl rfl (Nat.le_of_ble_eq_true rfl) rfl (fun w5_ hn5 fr5 => ?_)
  have hc5_1 := (fr5 _ (by omega)).trans hc4_1
  have hc5_2 := (fr5 _ (by omega)).trans hc4_2
  have hF5 := Fu_fr hF4 hn5 fr5
  refine M.run 2 (pc' := 25) (lv' := [some (vr o)]) (st' := [vi 0, vr o]) rfl ?_
  refine M.putW [vi 0, vr (o + 1), vr (o + 2), vi 1, vi 0, vi 0, vi 0, vi 0, vi 0, vi 0, vn, vi 0, vi 0, vn, vn] fl_X9_22 rfl hn5 rfl rfl (Nat.le_of_ble_eq_true rfl) rfl (fun w6_ hn6 fr6 => ?_)
  have hc6_1 := (fr6 _ (by omega)).trans hc5_1
  have hc6_2 := (fr6 _ (by omega)).trans hc5_2
  have hF6 := Fu_fr hF5 hn6 fr6
  refine M.run 2 (pc' := 30) (lv' := [some (vr o)]) (st' := [vi 1, vr o]) rfl ?_
  refine M.putW [vi 0, vr (o + 1), vr (o + 2), vi 1, vi 0, vi 1, vi 0, vi 0, vi 0, vi 0, vn, vi 0, vi 0, vn, vn] fl_X9_25 rfl hn6 rfl rfl (Nat.le_of_ble_eq_true rfl) rfl (fun w7_ hn7 fr7 => ?_)
  have hc7_1 := (fr7 _ (by omega)).trans hc6_1
  have hc7_2 := (fr7 _ (by omega)).trans hc6_2
  have hF7 := Fu_fr hF6 hn7 fr7
  refine M.run 2 (pc' := 35) (lv' := [some (vr o)]) (st' := [vi 2, vr o]) rfl ?_
  refine M.putW [vi 0, vr (o + 1), vr (o + 2), vi 1, vi 0, vi 1, vi 2, vi 0, vi 0, vi 0, vn, vi 0, vi 0, vn, vn] fl_X9_28 rfl hn7 rfl rfl (Nat.le_of_ble_eq_true rfl) rfl (fun w8_ hn8 fr8 => ?_)
  have hc8_1 := (fr8 _ (by omega)).trans hc7_1
  have hc8_2 := (fr8 _ (by omega)).trans hc7_2
  have hF8 := Fu_fr hF7 hn8 fr8
  refine M.run 2 (pc' := 40) (lv' := [some (vr o)]) (st' := [vi 4, vr o]) rfl ?_
  refine M.putW [vi 0, vr (o + 1), vr (o + 2), vi 1, vi 0, vi 1, vi 2, vi 4, vi 0, vi 0, vn, vi 0, vi 0, vn, vn] fl_X9_31 rfl hn8 rfl rfl (Nat.le_of_ble_eq_true rfl) rfl (fun w9_ hn9 fr9 => ?_)
  have hc9_1 := (fr9 _ (by omega)).trans hc8_1
  have hc9_2 := (fr9 _ (by omega)).trans hc8_2
  have hF9 := Fu_fr hF8 hn9 fr9
  refine M.run 2 (pc' := 45) (lv' := [some (vr o)]) (st' := [vi 3, vr o]) rfl ?_
  refine M.putW [vi 0, vr (o + 1), vr (o + 2), vi 1, vi 0, vi 1, vi 2, vi 4, vi 3, vi 0, vn, vi 0, vi 0, vn, vn] fl_X9_34 rfl hn9 rfl rfl (Nat.le_of_ble_eq_true rfl) rfl (fun w10_ hn10 fr10 => ?_)
  have hc10_1 := (fr10 _ (by omega)).trans hc9_1
  have hc10_2 := (fr10 _ (by omega)).trans hc9_2
  have hF10 := Fu_fr hF9 hn10 fr10
  refine M.run 2 (pc' := 50) (lv' := [some (vr o)]) (st' := [vi 4, vr o]) rfl ?_
  show g _ _ _ _ _ (vi ((4 : Nat) : Int) :: _)
  refine MS.newQ3W (o + 3) (by omega) hF10 wd_l_RX9_37 (by omega) rfl (by omega) (by omega) (fun w11_ hn11 fr11 hF11 => ?_)
  have hc11_0 := (fr11 _ (by omega)).trans hn10
  have hc11_1 := (fr11 _ (by omega)).trans hc10_1
  have hc11_2 := (fr11 _ (by omega)).trans hc10_2
  refine M.putFW [vi 0, vr (o + 1), vr (o + 2), vi 1, vi 0, vi 1, vi 2, vi 4, vi 3, vi 0, vr (o + 3), vi 0, vi 0, vn, vn] fl_X9_39 rfl rfl rfl hc11_0 rfl rfl (Nat.le_of_ble_eq_true rfl) rfl (fun w12_ hn12 fr12 => ?_)
  have hc12_1 := (fr12 _ (by omega)).trans hc11_1
  have hc12_2 := (fr12 _ (by omega)).trans hc11_2
  have hc12_3 := (fr12 _ (by omega)).trans hn11
  have hF12 := Fu_fr hF11 hn12 fr12
  refine M.run 2 (pc' := 58) (lv' := [some (vr o)]) (st' := [vi (-1), vr o]) rfl ?_
  refine M.putW [vi 0, vr (o + 1), vr (o + 2), vi 1, vi 0, vi 1, vi 2, vi 4, vi 3, vi 0, vr (o + 3), vi (-1), vi 0, vn, vn] fl_X9_43 rfl hn12 rfl rfl (Nat.le_of_ble_eq_true rfl) rfl (fun w13_ hn13 fr13 => ?_)
  have hc13_1 := (fr13 _ (by omega)).trans hc12_1
  have hc13_2 := (fr13 _ (by omega)).trans hc12_2
  have hc13_3 := (fr13 _ (by omega)).trans hc12_3
  have hF13 := Fu_fr hF12 hn13 fr13
  refine M.run 2 (pc' := 64) (lv' := [some (vr o)]) (st' := [vi 8, vr o]) rfl ?_
  show g _ _ _ _ _ (vi ((8 : Nat) : Int) :: _)
  refine MS.newIW (o + 4) (by omega) hF13 (by omega) rfl (by omega) (by omega) (fun w14_ hn14 fr14 hF14 => ?_)
  have hc14_0 := (fr14 _ (by omega)).trans hn13
  have hc14_1 := (fr14 _ (by omega)).trans hc13_1
  have hc14_2 := (fr14 _ (by omega)).trans hc13_2
  have hc14_3 := (fr14 _ (by omega)).trans hc13_3
  refine M.putFW [vi 0, vr (o + 1), vr (o + 2), vi 1, vi 0, vi 1, vi 2, vi 4, vi 3, vi 0, vr (o + 3), vi (-1), vi 0, vr (o + 4), vn] fl_X9_46 rfl rfl rfl hc14_0 rfl rfl (Nat.le_of_ble_eq_true rfl) rfl (fun w15_ hn15 fr15 => ?_)
  have hc15_1 := (fr15 _ (by omega)).trans hc14_1
  have hc15_2 := (fr15 _ (by omega)).trans hc14_2
  have hc15_3 := (fr15 _ (by omega)).trans hc14_3
  have hc15_4 := (fr15 _ (by omega)).trans hn14
  have hF15 := Fu_fr hF14 hn15 fr15
  refine M.run 2 (pc' := 72) (lv' := [some (vr o)]) (st' := [vi 8, vr o]) rfl ?_
  show g _ _ _ _ _ (vi ((8 : Nat) : Int) :: _)
  refine MS.newIW (o + 5) (by omega) hF15 (by omega) rfl (by omega) (by omega) (fun w16_ hn16 fr16 hF16 => ?_)
  have hc16_0 := (fr16 _ (by omega)).trans hn15
  have hc16_1 := (fr16 _ (by omega)).trans hc15_1
  have hc16_2 := (fr16 _ (by omega)).trans hc15_2
  have hc16_3 := (fr16 _ (by omega)).trans hc15_3
  have hc16_4 := (fr16 _ (by omega)).trans hc15_4
  refine M.putFW [vi 0, vr (o + 1), vr (o + 2), vi 1, vi 0, vi 1, vi 2, vi 4, vi 3, vi 0, vr (o + 3), vi (-1), vi 0, vr (o + 4), vr (o + 5)] fl_X9_49 rfl rfl rfl hc16_0 rfl rfl (Nat.le_of_ble_eq_true rfl) rfl (fun w17_ hn17 fr17 => ?_)
  have hc17_1 := (fr17 _ (by omega)).trans hc16_1
  have hc17_2 := (fr17 _ (by omega)).trans hc16_2
  have hc17_3 := (fr17 _ (by omega)).trans hc16_3
  have hc17_4 := (fr17 _ (by omega)).trans hc16_4
  have hc17_5 := (fr17 _ (by omega)).trans hn16
  have hF17 := Fu_fr hF16 hn17 fr17
  refine M.vret rfl (by omega) (by omega) ⟨rfl, ⟨hn17, ⟨_, hc17_1, fun i hi => by rcases (show i = 0 ∨ i = 1 ∨ i = 2 by omega) with rfl | rfl | rfl <;> rfl⟩, ⟨_, hc17_2, fun i hi => by rcases (show i = 0 ∨ i = 1 ∨ i = 2 by omega) with rfl | rfl | rfl <;> rfl⟩, hc17_3, ⟨_, hc17_4, fun i hi => (t0_far (by omega)).symm⟩, ⟨_, hc17_5, fun i hi => (t0_far (by omega)).symm⟩, fun i j hi hj h => Nat.add_left_cancel h⟩, fun q hq => (((((((((((((((((fr17 q (by omega)).trans (fr16 q (by omega))).trans (fr15 q (by omega))).trans (fr14 q (by omega))).trans (fr13 q (by omega))).trans (fr12 q (by omega))).trans (fr11 q (by omega))).trans (fr10 q (by omega))).trans (fr9 q (by omega))).trans (fr8 q (by omega))).trans (fr7 q (by omega))).trans (fr6 q (by omega))).trans (fr5 q (by omega))).trans (fr4 q (by omega))).trans (fr3 q (by omega))).trans (fr2 q (by omega))).trans (fr1 q (by omega))), hF17⟩
