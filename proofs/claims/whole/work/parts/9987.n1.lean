/-! constructors: the heap's size is known, as long as all cells from the first are in the world -/
def Fu (G : GT) (w : Wo) (z : Nat) : Prop := ∀ q : Nat, gB G ≤ q → q < z → lk w q ≠ none
theorem Fu_up {G : GT} {w : Wo} {z a : Nat} {c : Ce} (h : Fu G w z) : Fu G (up w a c) z := fun q h1 h2 e => by
  rw [lk_up] at e
  by_cases hq : q = a
  · rw [if_pos hq] at e
    cases h3 : lk w a with
    | none => exact h q h1 h2 (by rw [hq]; exact h3)
    | some x => rw [h3] at e; cases e
  · rw [if_neg hq] at e
    exact h q h1 h2 e
theorem Fu_nw {G : GT} {w : Wo} {z z2 : Nat} {c : Ce} (h : Fu G w z) (e : z2 = z + 1) : Fu G (nw w z c) z2 := fun q h1 h2 e2 => by
  rw [lk_nw] at e2
  cases h3 : lk w q with
  | some x => rw [h3] at e2; cases e2
  | none =>
    rw [h3] at e2
    by_cases hq : z = q
    · rw [if_pos hq] at e2; cases e2
    · exact h q h1 (by omega) h3
/-- arrays of texts and of states can be made -/
def AOs (U : State) : Prop := va_AO "LongCarrier$Text" U ∧ va_AO "LongCarrier$State" U
theorem AOs_moved {u U : State} (hvm : u.vm.Alike U.vm) (h : AOs u) : AOs U := ⟨va_AO.moved hvm h.1, va_AO.moved hvm h.2⟩
theorem blind_PcS {G : GT} {w : Wo} {av : List Value} {sz : Nat} : FrameBlind (va_Pc av (fun U => U.heap.size = sz ∧ WU G w U ∧ AOs U)) := by
  intro a U g mk q
  obtain ⟨q0, q1, ⟨q2, q3, q4, q5, q6⟩, q7⟩ := q
  exact ⟨q0, q1, ⟨q2, q3, q4, va_K.moved (u := U) (U := U.calling g mk a) (Vm.Alike.refl U.vm) q5, Stq_kept q6 (Nq_same rfl q6.2.2.2.2.1) (Vm.Alike.refl U.vm) (fun _ _ _ => rfl)⟩, AOs_moved (u := U) (U := U.calling g mk a) (Vm.Alike.refl U.vm) q7⟩
def CtrS (l : Launch) (G : GT) (y : MethodName) (cc : ByteArray) (maxL : Nat) (ret : Option FieldType) (d mc ms : Nat) (av : List AV) (sz : Nat) (P : Wo → Prop) (Q : Wo → Option AV → Wo → Prop) : Prop :=
  ∀ (w : Wo), P w → Met l y (.code y cc maxL ret :: lw_g) (rmq d mc ms) (va_Pc (av.map qv) (fun U => U.heap.size = sz ∧ WU G w U ∧ AOs U))
    (fun _ st o t => (∃ r w', o = .returned (r.map qv) ∧ Q w r w' ∧ WU G w' t ∧ va_D (va_A (w.map (qm G)) sz) (w'.map (qm G))) ∧ va_F (va_A (w.map (qm G)) sz) st t) mc ms (va_A (w.map (qm G)) sz)
def MachS (l : Launch) (G : GT) (y : MethodName) (cc : ByteArray) (t : Tab) (nL : Nat) (ret : Option FieldType) (d mc ms : Nat) (Qp : Option AV → Wo → Prop) (sz : Nat) (g : gF) : Prop :=
  ∃ (p : Program) (e : Env) (s : State) (m : MethodId) (args : Array Value) (below : List Frame) (meth : Method) (c : Code) (A : Nat → Prop),
    p.tables.exec = Jvm.exec ∧ c.code = cc ∧ t.all (fun q => decide (decode cc q.1 = .ok q.2)) = true ∧ c.maxLocals = nL ∧ meth.sig.returnType = ret ∧ meth.locks = false ∧ s.vm.findClass y.cls = some m.cls ∧ (∀ w ∈ lw_g, w.before args s = true) ∧ meth.name = y.name ∧
    (∀ q : Nat, s.heap.size ≤ q → A q) ∧ (∀ q : Nat, A q → gB G ≤ q) ∧ gB G ≤ s.heap.size ∧ va_K (gD G) vwCl (tyq G) s ∧ Stq G s ∧
    g = GG l G p e (rmq d mc ms) s m args below meth c A nL (MQ below (QQ G Qp A) args s mc ms A) ∧ s.heap.size = sz ∧ AOs s
theorem CtrS.of {l : Launch} {G : GT} {y : MethodName} {cc : ByteArray} {t : Tab} {maxL : Nat} {ret : Option FieldType} {d mc ms : Nat} {av : List AV} {sz : Nat} {P : Wo → Prop} {Q : Wo → Option AV → Wo → Prop} {lv0 : Lo} (hy : plainName y.cls = true) (ht : t.all (fun q => decide (decode cc q.1 = .ok q.2)) = true) (hlv : lvo av ++ List.replicate (maxL - (lvo av).length) none = lv0) (hle : Nat.ble (lvo av).length maxL = true)
    (body : ∀ (w : Wo) (g : gF), P w → MachS l G y cc t maxL ret d mc ms (Q w) sz g → g 0 0 w 0 lv0 []) : CtrS l G y cc maxL ret d mc ms av sz P Q := by
  intro w hPw
  refine Met.ofW (cc := cc) (maxL := maxL) (ret := ret) hy rfl ?_
  intro p e s m args below meth c s₁ B hml hv
  obtain ⟨rfl, hsz, ⟨hW1, hW2, hW3, hW4, hW5⟩, hao⟩ := hv
  subst hsz
  have hx := B.exec
  have hb := B.bytes
  have hr := B.returns
  have hts := atoms_spec (ws := .code y cc maxL ret :: lw_g) B.pre
  have hown := findClass_of_methodNamed B.named
  have hlocks := B.notSynchronized
  have hnm : meth.name = y.name := (name_of_methodNamed B.named B.method).1
  have hD : va_D (va_A (w.map (qm G)) s.heap.size) (w.map (qm G)) := hW2.self
  have hAB : ∀ q : Nat, va_A (w.map (qm G)) s.heap.size q → gB G ≤ q := fun q h => by
    rcases h with ⟨k, e2, h⟩ | h
    · exact hW2.2 k _ h
    · exact Nat.le_trans hW3 h
  have hle2 := Nat.le_of_ble_eq_true hle
  have K := body w (GG l G p e (rmq d mc ms) s m (av.map qv).toArray below meth c (va_A (w.map (qm G)) s.heap.size) maxL (MQ below (QQ G (Q w) (va_A (w.map (qm G)) s.heap.size)) (av.map qv).toArray s mc ms (va_A (w.map (qm G)) s.heap.size))) hPw ⟨p, e, s, m, _, below, meth, c, va_A (w.map (qm G)) s.heap.size, hx, hb, ht, hml, hr, hlocks, hown, fun q hq => hts q (List.mem_cons_of_mem _ hq), hnm, fun q h => Or.inr h, hAB, hW3, hW4, hW5, rfl, rfl, hao⟩
  rw [lg_entry_eq]
  have hl := lv_entry (av.map qv) (n := maxL) (by rw [← lvo_len]; exact hle2)
  refine K s.heap [] _ hW1 hD va_S.rf ⟨?_, ?_⟩
  · rw [← hlv, List.length_append, List.length_replicate]
    omega
  · rw [← hlv, qp_app_none, qp_lvo]
    exact hl
section QSIZE
variable {l : Launch} {G : GT} {y : MethodName} {cc : ByteArray} {t : Tab} {nL : Nat} {ret : Option FieldType} {d mc ms sz : Nat} {Qp : Option AV → Wo → Prop} {g : gF}
variable {k n : Nat} {w : Wo} {pc : Nat} {lv : Lo} {st : List AV} {a : Nat}
theorem MachS.M (M : MachS l G y cc t nL ret d mc ms Qp sz g) : Mach l G y cc t nL ret d mc ms Qp g := by
  obtain ⟨p, e, s, m, args, below, meth, c, A, hx, hb, ht, hml, hr', hlk, hown, hts, hnm, hA, hAB, hB, hK, hSt, hg, hsz, hao⟩ := M
  exact ⟨p, e, s, m, args, below, meth, c, A, hx, hb, ht, hml, hr', hlk, hown, hts, hnm, hA, hAB, hB, hK, hSt, hg⟩
theorem MachS.at {q n2 : Nat} {c : Ce} (z : Nat) (M : MachS l G y cc t nL ret d mc ms Qp sz g) (hz : sz + k = z) (hF : Fu G w z) (f1 : gB G ≤ q) (f2 : lk w q = none) (kk : lk w z = none → g (k + 1) n2 (nw w z c) pc lv (vr z :: st)) : g (k + 1) n2 (nw w q c) pc lv (vr q :: st) := by
  obtain ⟨p, e, s, m, args, below, meth, c0, A, hx, hb, ht, hml, hr', hlk, hown, hts, hnm, hA, hAB, hB, hK, hSt, rfl, hsz, hao⟩ := M
  intro H locs ls hP hD hS hl T hT X
  have h5 := X.heapSize
  have h6 : q < H.size := va_at_lt (G := G) hP (lk_nw_s f2)
  have h8 : ¬ q < z := fun z => hF q f1 z f2
  rw [hT] at h5
  have h7 : q = z := by omega
  subst h7
  exact kk f2 H locs ls hP hD hS hl T hT X
theorem MachS.callI {idx : Nat} {y2 : MethodName} {cc2 : ByteArray} {maxL2 d2 mc2 ms2 : Nat} {av : List AV} {P : Wo → Prop} {Q : Wo → Option AV → Wo → Prop} {st0 : List AV} (z : Nat) (M : MachS l G y cc t nL ret d mc ms Qp sz g) (hz : sz + k = z) (hF : Fu G w z) (hc : CtrS l G y2 cc2 maxL2 none d2 mc2 ms2 (vr a :: av) z P Q) (hl : CLI y.cls idx y2 av.length) (hcd : Cond.code y2 cc2 maxL2 none ∈ lw_g) (hq : qlk t pc = some (.invokespecial idx, 3)) (hst : st0 = av.reverse ++ vr a :: st) (hd : d2 < d) (hm : maxL2 ≤ 40) (hcat : Nat.ble (stc st) 8 = true) (hk : k + mc2 ≤ mc) (hn : n + ms2 ≤ ms) (hP : P w) (kk : ∀ (w' : Wo), Q w none w' → g (k + mc2) (n + ms2) w' (pc + 3) lv st) (hQn : ∀ r w', Q w r w' → r = none) : g k n w pc lv st0 := by
  obtain ⟨p, e, s, m, args, below, meth, c, A, hx, hb, ht, hml, hr', hlk, hown, hts, hnm, hA, hAB, hB, hK, hSt, rfl, hsz, hao⟩ := M
  subst hst
  intro H locs ls hPw hD hS hl2 T hT X
  have h5 := X.heapSize
  rw [hT] at h5
  have h6 : H.size = z := by
    have h7 := hS.1
    by_cases hk0 : k = 0
    · omega
    · cases h8 : lk w (z - 1) with
      | none => exact absurd h8 (hF (z - 1) (by omega) (by omega))
      | some x =>
        have h9 := va_at_lt (G := G) hPw h8
        omega
  have hM := hc w hP
  rw [← h6] at hM
  obtain ⟨g1, g2, g3, g4, g5⟩ := hl
  have hcb : CallB (rmq d mc ms) s args y.cls idx y2 cc2 maxL2 none (.code y2 cc2 maxL2 none :: lw_g) (rmq d2 mc2 ms2) mc2 ms2 av.length := callB_of av.length hts (lw_g_goodIn hcd) rfl rfl rfl (hts _ g3) (hts _ g1) g5 ⟨hd, by show 8 + (maxL2 + 11) + 64 * d2 ≤ 64 * d; omega⟩
  have hrun := va_runI (cells := k) (slots := n) (H := H) (locs := locs) (l := l) (p := p) (e := e) (below := below) (meth := meth) (g := F0 m pc ls ((av.reverse ++ vr a :: st).map qv)) (rest := st.map qv) (As := av.map qv) (R := rmq d mc ms) (b := a) ⟨hx, hb, hml, hown, hts⟩ hM ⟨hcb, g4, hts _ g2⟩ ⟨blind_PcS, fun U hU hW => ⟨rfl, by rw [hU], WU_in hPw hD hS hAB hB hK hSt hU hW, AOs_moved hW.alike hao⟩⟩ rfl (by simp) hl2.2.1 (by simp [List.map_append, List.map_reverse, qv, va_rf]) (by rw [stc_eq]; exact (by show 2 * 0 + stc st ≤ 8; have := Nat.le_of_ble_eq_true hcat; omega)) (qdec ht hq) ⟨hk, hn⟩
  have hfree : ∀ q, va_A (w.map (qm G)) H.size q → A q := fun q h => by
    rcases h with ⟨j, e2, h⟩ | h
    · exact hD.2 j _ h
    · exact hA q (Nat.le_trans hS.1 h)
  refine qcall (av := args) (Q2 := Q w) (A1 := va_A (w.map (qm G)) H.size) hrun hS (fun q _ h => hfree q h) hfree (fun r w' t2 H1 locs1 e1 hv hQ hW hD1 hS1 => ?_) T hT X
  have hr0 := hQn r w' hQ
  subst hr0
  exact kk w' hQ H1 locs1 ls (by rw [← e1]; exact hW.1) (hD1.weaken (fun _ q _ h => hfree q.1 h)) hS1 hl2
end QSIZE
set_option maxRecDepth 100000 in
theorem wd_al : Cond.arrayClass .long ∈ lw_g := lw_g_in (List.mem_of_getElem? (i := 1347) (by decide +kernel)) rfl
set_option maxRecDepth 100000 in
theorem wd_az : Cond.arrayClass .boolean ∈ lw_g := lw_g_in (List.mem_of_getElem? (i := 1348) (by decide +kernel)) rfl
section QNEW2
variable {l : Launch} {G : GT} {y : MethodName} {cc : ByteArray} {t : Tab} {nL : Nat} {ret : Option FieldType} {d mc ms sz : Nat} {Qp : Option AV → Wo → Prop} {g : gF}
variable {k n : Nat} {w : Wo} {pc : Nat} {lv : Lo} {st : List AV}
theorem MachS.newQ3 {N idx : Nat} (M : MachS l G y cc t nL ret d mc ms Qp sz g) (hcl : Cond.classLink y.cls idx "LongCarrier$Text" ∈ lw_g) (hN : N ≤ 100000) (hq : qlk t pc = some (.anewarray idx, 3)) (hk : k + 1 ≤ mc) (hn : n + N ≤ ms)
    (kk : ∀ q : Nat, gB G ≤ q → lk w q = none → g (k + 1) (n + N) (nw w q (Ar 3 N (fun _ => -1))) (pc + 3) lv (vr q :: st)) : g k n w pc lv (vi (N : Nat) :: st) := by
  obtain ⟨p, e, s, m, args, below, meth, c, A, hx, hb, ht, hml, hr', hlk, hown, hts, hnm, hA, hAB, hB, hK, hSt, rfl, hsz, hao⟩ := M
  intro H locs ls hP hD hS hl
  refine va_newq (N' := N) hx hb hown (hts _ hcl) hao.1 hK hP hD hS hA (fun z => absurd ((iI_lt (b := 0) ⟨by omega, by omega⟩ inI_0).mp z) (by omega)) (iI_clN (by omega)) (by omega) hk hn (qdec ht hq) (fun q cA H1 hK1 hP1 hD1 hS1 => ?_)
  obtain ⟨_, _, _, _, _, e1⟩ := (hK1.2 5 (cA, .object "LongCarrier$Text") rfl).2
  obtain ⟨_, _, _, _, _, e2⟩ := (hK.2 3 (gA G 3, .object "LongCarrier$Text") rfl).2
  have e3 : cA = gA G 3 := Option.some.inj (e1.symm.trans e2)
  subst e3
  have e1 : (w.map (qm G)) ++ [((q, (Sum.inl (gA G 3, qar 3 N (fun _ => -1)) : va_E)) : Nat × va_E)] = (nw w q (Ar 3 N (fun _ => -1))).map (qm G) := nw_map (G := G) (w := w) (a := q) (c := Ar 3 N (fun _ => -1))
  have e4 : (qar 3 N (fun _ => -1) : vp_A) = (N, .inr (.inr (.inr (.inr (fun _ => none))))) := rfl
  rw [e4] at e1
  rw [e1] at hP1 hD1
  obtain ⟨f1, f2⟩ := nw_fresh hD1 hAB
  exact kk q f1 f2 H1 locs ls hP1 hD1 hS1 hl
theorem MachS.newQ4 {N idx : Nat} (M : MachS l G y cc t nL ret d mc ms Qp sz g) (hcl : Cond.classLink y.cls idx "LongCarrier$State" ∈ lw_g) (hN : N ≤ 100000) (hq : qlk t pc = some (.anewarray idx, 3)) (hk : k + 1 ≤ mc) (hn : n + N ≤ ms)
    (kk : ∀ q : Nat, gB G ≤ q → lk w q = none → g (k + 1) (n + N) (nw w q (Ar 4 N (fun _ => -1))) (pc + 3) lv (vr q :: st)) : g k n w pc lv (vi (N : Nat) :: st) := by
  obtain ⟨p, e, s, m, args, below, meth, c, A, hx, hb, ht, hml, hr', hlk, hown, hts, hnm, hA, hAB, hB, hK, hSt, rfl, hsz, hao⟩ := M
  intro H locs ls hP hD hS hl
  refine va_newq (N' := N) hx hb hown (hts _ hcl) hao.2 hK hP hD hS hA (fun z => absurd ((iI_lt (b := 0) ⟨by omega, by omega⟩ inI_0).mp z) (by omega)) (iI_clN (by omega)) (by omega) hk hn (qdec ht hq) (fun q cA H1 hK1 hP1 hD1 hS1 => ?_)
  obtain ⟨_, _, _, _, _, e1⟩ := (hK1.2 5 (cA, .object "LongCarrier$State") rfl).2
  obtain ⟨_, _, _, _, _, e2⟩ := (hK.2 4 (gA G 4, .object "LongCarrier$State") rfl).2
  have e3 : cA = gA G 4 := Option.some.inj (e1.symm.trans e2)
  subst e3
  have e1 : (w.map (qm G)) ++ [((q, (Sum.inl (gA G 4, qar 4 N (fun _ => -1)) : va_E)) : Nat × va_E)] = (nw w q (Ar 4 N (fun _ => -1))).map (qm G) := nw_map (G := G) (w := w) (a := q) (c := Ar 4 N (fun _ => -1))
  have e4 : (qar 4 N (fun _ => -1) : vp_A) = (N, .inr (.inr (.inr (.inr (fun _ => none))))) := rfl
  rw [e4] at e1
  rw [e1] at hP1 hD1
  obtain ⟨f1, f2⟩ := nw_fresh hD1 hAB
  exact kk q f1 f2 H1 locs ls hP1 hD1 hS1 hl
theorem Mach.newL {N : Nat} (M : Mach l G y cc t nL ret d mc ms Qp g) (hN : N ≤ 100000) (hq : qlk t pc = some (.newarray .long, 2)) (hk : k + 1 ≤ mc) (hn : n + N ≤ ms)
    (kk : ∀ q : Nat, gB G ≤ q → lk w q = none → g (k + 1) (n + N) (nw w q (Ar 1 N (fun _ => 0))) (pc + 2) lv (vr q :: st)) : g k n w pc lv (vi (N : Nat) :: st) := by
  obtain ⟨p, e, s, m, args, below, meth, c, A, hx, hb, ht, hml, hr', hlk, hown, hts, hnm, hA, hAB, hB, hK, hSt, rfl⟩ := M
  intro H locs ls hP hD hS hl
  refine va_newa (atype := .long) (ty := .long) (N' := N) (a0 := qar 1 N (fun _ => 0)) hx hb (hts _ wd_al) rfl hK hP hD hS hA (fun cA => rfl) (fun z => absurd ((iI_lt (b := 0) ⟨by omega, by omega⟩ inI_0).mp z) (by omega)) (iI_clN (by omega)) (by show N * 8 ≤ 536870912; omega) hk hn (qdec ht hq) (fun q cA H1 hK1 hP1 hD1 hS1 => ?_)
  have h1 : s.vm.findClass ("[" ++ (FieldType.long).toString) = some cA := (hK1.2 5 (cA, .long) rfl).2
  have h2 : s.vm.findClass ("[" ++ (FieldType.long).toString) = some (gA G 1) := (hK.2 1 (gA G 1, .long) rfl).2
  have e3 : cA = gA G 1 := Option.some.inj (h1.symm.trans h2)
  subst e3
  have e1 : (w.map (qm G)) ++ [((q, (Sum.inl (gA G 1, qar 1 N (fun _ => 0)) : va_E)) : Nat × va_E)] = (nw w q (Ar 1 N (fun _ => 0))).map (qm G) := nw_map (G := G) (w := w) (a := q) (c := Ar 1 N (fun _ => 0))
  rw [e1] at hP1 hD1
  obtain ⟨f1, f2⟩ := nw_fresh hD1 hAB
  exact kk q f1 f2 H1 locs ls hP1 hD1 hS1 hl
theorem Mach.newZ {N : Nat} (M : Mach l G y cc t nL ret d mc ms Qp g) (hN : N ≤ 100000) (hq : qlk t pc = some (.newarray .boolean, 2)) (hk : k + 1 ≤ mc) (hn : n + N ≤ ms)
    (kk : ∀ q : Nat, gB G ≤ q → lk w q = none → g (k + 1) (n + N) (nw w q (Ar 2 N (fun _ => 0))) (pc + 2) lv (vr q :: st)) : g k n w pc lv (vi (N : Nat) :: st) := by
  obtain ⟨p, e, s, m, args, below, meth, c, A, hx, hb, ht, hml, hr', hlk, hown, hts, hnm, hA, hAB, hB, hK, hSt, rfl⟩ := M
  intro H locs ls hP hD hS hl
  refine va_newa (atype := .boolean) (ty := .boolean) (N' := N) (a0 := qar 2 N (fun _ => 0)) hx hb (hts _ wd_az) rfl hK hP hD hS hA (fun cA => rfl) (fun z => absurd ((iI_lt (b := 0) ⟨by omega, by omega⟩ inI_0).mp z) (by omega)) (iI_clN (by omega)) (by show N * 1 ≤ 536870912; omega) hk hn (qdec ht hq) (fun q cA H1 hK1 hP1 hD1 hS1 => ?_)
  have h1 : s.vm.findClass ("[" ++ (FieldType.boolean).toString) = some cA := (hK1.2 5 (cA, .boolean) rfl).2
  have h2 : s.vm.findClass ("[" ++ (FieldType.boolean).toString) = some (gA G 2) := (hK.2 2 (gA G 2, .boolean) rfl).2
  have e3 : cA = gA G 2 := Option.some.inj (h1.symm.trans h2)
  subst e3
  have e1 : (w.map (qm G)) ++ [((q, (Sum.inl (gA G 2, qar 2 N (fun _ => 0)) : va_E)) : Nat × va_E)] = (nw w q (Ar 2 N (fun _ => 0))).map (qm G) := nw_map (G := G) (w := w) (a := q) (c := Ar 2 N (fun _ => 0))
  rw [e1] at hP1 hD1
  obtain ⟨f1, f2⟩ := nw_fresh hD1 hAB
  exact kk q f1 f2 H1 locs ls hP1 hD1 hS1 hl
end QNEW2
