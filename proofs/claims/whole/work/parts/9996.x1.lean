/-! the law's machine: the script -/
def MachX (l : Launch) (G : GT) (y : MethodName) (cc : ByteArray) (t : Tab) (nL : Nat) (ret : Option FieldType) (d mc ms : Nat) (Qp : Option AV → Wo → Prop) (sz b L : Nat) (xs : Nat → Int32) (g : gF) : Prop :=
  ∃ (p : Program) (e : Env) (s : State) (m : MethodId) (args : Array Value) (below : List Frame) (meth : Method) (c : Code) (A : Nat → Prop),
    p.tables.exec = Jvm.exec ∧ c.code = cc ∧ t.all (fun q => decide (decode cc q.1 = .ok q.2)) = true ∧ c.maxLocals = nL ∧ meth.sig.returnType = ret ∧ meth.locks = false ∧ s.vm.findClass y.cls = some m.cls ∧ (∀ w ∈ lw_g, w.before args s = true) ∧ meth.name = y.name ∧
    (∀ q : Nat, s.heap.size ≤ q → A q) ∧ (∀ q : Nat, A q → gB G ≤ q) ∧ gB G ≤ s.heap.size ∧ va_K (gD G) vwCl (tyq G) s ∧ Stq G s ∧
    g = GG l G p e (rmq d mc ms) s m args below meth c A nL (MQ below (QQ G Qp A) args s mc ms A) ∧ s.heap.size = sz ∧ AOs s ∧ va_X b L xs s s.heap ∧ b < s.heap.size ∧ ¬ A b
theorem iI_63 (y : Int) : iI y &&& iI 63 = iI (y % 64) := by
  have h : iI y &&& iI ((63 : Nat) : Int) = iI (((y % 64).toNat : Nat) : Int) := by
    refine iI_ext (by omega) ?_
    rw [Int32.toBitVec_and, BitVec.toNat_and, iI_bn, iI_tn (by decide), show (63 : Nat) = 2 ^ 6 - 1 from rfl, Nat.and_two_pow_sub_one_eq_mod]
    omega
  rw [show (((y % 64).toNat : Nat) : Int) = y % 64 from Int.toNat_of_nonneg (by omega)] at h
  exact h
section QLAW
variable {l : Launch} {G : GT} {y : MethodName} {cc : ByteArray} {t : Tab} {nL : Nat} {ret : Option FieldType} {d mc ms sz b L : Nat} {xs : Nat → Int32} {Qp : Option AV → Wo → Prop} {g : gF}
variable {k n : Nat} {w : Wo} {pc : Nat} {lv : Lo} {st : List AV} {a : Nat} {x : Int}
theorem MachX.S (M : MachX l G y cc t nL ret d mc ms Qp sz b L xs g) : MachS l G y cc t nL ret d mc ms Qp sz g := by
  obtain ⟨p, e, s, m, args, below, meth, c, A, hx, hb, ht, hml, hr', hlk, hown, hts, hnm, hA, hAB, hB, hK, hSt, hg, hsz, hao, hX, hbl, hbA⟩ := M
  exact ⟨p, e, s, m, args, below, meth, c, A, hx, hb, ht, hml, hr', hlk, hown, hts, hnm, hA, hAB, hB, hK, hSt, hg, hsz, hao⟩
theorem MachX.tab {t2 : Tab} (M : MachX l G y cc t nL ret d mc ms Qp sz b L xs g) (h : t2.all (fun q => decide (decode cc q.1 = .ok q.2)) = true) : MachX l G y cc t2 nL ret d mc ms Qp sz b L xs g := by
  obtain ⟨p, e, s, m, args, below, meth, c, A, hx, hb, ht, hml, hr', hlk, hown, hts, hnm, hA, hAB, hB, hK, hSt, hg, hsz, hao, hX, hbl, hbA⟩ := M
  exact ⟨p, e, s, m, args, below, meth, c, A, hx, hb, h, hml, hr', hlk, hown, hts, hnm, hA, hAB, hB, hK, hSt, hg, hsz, hao, hX, hbl, hbA⟩
theorem MachX.sld (i : Nat) (M : MachX l G y cc t nL ret d mc ms Qp sz b L xs g) (hq : qlk t pc = some (.iaload, 1)) (h1 : i < L) (hL : L ≤ 3072) (kk : g k n w (pc + 1) lv (vi (xs i).toInt :: st)) : g k n w pc lv (vi (i : Nat) :: vr b :: st) := by
  obtain ⟨p, e, s, m, args, below, meth, c, A, hx, hb, ht, hml, hr', hlk, hown, hts, hnm, hA, hAB, hB, hK, hSt, rfl, hsz, hao, hX, hbl, hbA⟩ := M
  intro H locs ls hP hD hS hl
  refine va_sld hx hb hX hbl hbA hS (i := iI (i : Nat)) (iI_inN h1 (by omega)) (qdec ht hq) ?_
  rw [iI_clN (by omega)]
  have e1 := kk H locs ls hP hD hS hl
  have e2 : (vi (xs i).toInt :: st).map qv = .int (xs i) :: st.map qv := by
    show Value.int (iI (xs i).toInt) :: st.map qv = _
    unfold iI
    rw [Int32.ofInt_toInt]
  rw [e2] at e1
  exact e1
theorem MachX.slen (M : MachX l G y cc t nL ret d mc ms Qp sz b L xs g) (hq : qlk t pc = some (.arraylength, 1)) (kk : g k n w (pc + 1) lv (vi (L : Nat) :: st)) : g k n w pc lv (vr b :: st) := by
  obtain ⟨p, e, s, m, args, below, meth, c, A, hx, hb, ht, hml, hr', hlk, hown, hts, hnm, hA, hAB, hB, hK, hSt, rfl, hsz, hao, hX, hbl, hbA⟩ := M
  intro H locs ls hP hD hS hl
  refine va_slen hx hb hX hbl hbA hS (qdec ht hq) ?_
  have e1 := kk H locs ls hP hD hS hl
  have e2 : (vi (L : Nat) :: st).map qv = .int (Int32.ofNat L) :: st.map qv := by
    show Value.int (iI (L : Nat)) :: st.map qv = _
    unfold iI
    rw [Int32.ofInt_eq_ofNat]
  rw [e2] at e1
  exact e1
theorem Mach.wid {k2 n2 : Nat} (M : Mach l G y cc t nL ret d mc ms Qp g) (hk : k ≤ k2) (hn : n ≤ n2) (kk : g k2 n2 w pc lv st) : g k n w pc lv st := by
  obtain ⟨p, e, s, m, args, below, meth, c, A, hx, hb, ht, hml, hr', hlk, hown, hts, hnm, hA, hAB, hB, hK, hSt, rfl⟩ := M
  intro H locs ls hP hD hS hl
  exact W.widen hk hn (kk H locs ls hP hD hS hl)
theorem Mach.iand63 (M : Mach l G y cc t nL ret d mc ms Qp g) (hq : qlk t pc = some (.iand, 1)) (kk : g k n w (pc + 1) lv (vi (x % 64) :: st)) : g k n w pc lv (vi 63 :: vi x :: st) := by
  obtain ⟨p, e, s, m, args, below, meth, c, A, hx, hb, ht, hml, hr', hlk, hown, hts, hnm, hA, hAB, hB, hK, hSt, rfl⟩ := M
  intro H locs ls hP hD hS hl
  refine lv_iand hx hb (qdec ht hq) ?_
  rw [iI_63]
  exact kk H locs ls hP hD hS hl
theorem Mach.callVm {idx ci : Nat} {y2 : MethodName} {cc2 : ByteArray} {maxL2 d2 mc2 ms2 : Nat} {ret2 : Option FieldType} {av : List AV} {P : Wo → Prop} {Q : Wo → Option AV → Wo → Prop} {st0 : List AV} {fs : List AV} (M : Mach l G y cc t nL ret d mc ms Qp g) (hc : Ctr l G y2 cc2 maxL2 ret2 d2 mc2 ms2 (vr a :: av) P Q) (hl : CLV y.cls idx ci y2 av.length) (hcd : Cond.code y2 cc2 maxL2 ret2 ∈ lw_g) (hq : qlk t pc = some (.invokevirtual idx, 3)) (hst : st0 = av.reverse ++ vr a :: st) (he : ∃ i : Nat, w[i]? = some (a, Ob ci fs)) (hd : d2 < d) (hm : maxL2 ≤ 40) (hcat : Nat.ble (stc st) 8 = true) (hk : k + mc2 ≤ mc) (hn : n + ms2 ≤ ms) (hP : P w) (kk : ∀ (r : Option AV) (w' : Wo), Q w r w' → g (k + mc2) (n + ms2) w' (pc + 3) lv (r.toList ++ st)) : g k n w pc lv st0 := by
  obtain ⟨p, e, s, m, args, below, meth, c, A, hx, hb, ht, hml, hr', hlk, hown, hts, hnm, hA, hAB, hB, hK, hSt, rfl⟩ := M
  subst hst
  intro H locs ls hPw hD hS hl2
  have hM := hc w H.size hP
  obtain ⟨T0, N0, g0, g1, g2, g3, g4, g5⟩ := hl
  obtain ⟨i, hi⟩ := he
  have hcb : CallB (rmq d mc ms) s args y.cls idx y2 cc2 maxL2 ret2 (.code y2 cc2 maxL2 ret2 :: lw_g) (rmq d2 mc2 ms2) mc2 ms2 av.length := callB_of av.length hts (lw_g_goodIn hcd) rfl rfl rfl (hts _ g4) (hts _ g1) g5 ⟨hd, by show 8 + (maxL2 + 11) + 64 * d2 ≤ 64 * d; omega⟩
  have hrun := va_runV (cells := k) (slots := n) (H := H) (locs := locs) (l := l) (p := p) (e := e) (below := below) (meth := meth) (g := F0 m pc ls ((av.reverse ++ vr a :: st).map qv)) (rest := st.map qv) (As := av.map qv) (R := rmq d mc ms) (b := a) ⟨hx, hb, hml, hown, hts⟩ hM ⟨hcb, hts _ g2, hts _ g3⟩ ⟨blind_Pc, va_recv (q := (y2.cls, T0, N0)) hK hPw g0 (qm_place hi), fun U hU hW => ⟨rfl, by rw [hU], WU_in hPw hD hS hAB hB hK hSt hU hW⟩⟩ rfl (by simp) hl2.2.1 (by simp [List.map_append, List.map_reverse, qv, va_rf]) (by rw [stc_eq]; exact (by show 2 * 0 + stc st ≤ 8; have := Nat.le_of_ble_eq_true hcat; omega)) (qdec ht hq) ⟨hk, hn⟩
  have hfree : ∀ q, va_A (w.map (qm G)) H.size q → A q := fun q h => by
    rcases h with ⟨j, e2, h⟩ | h
    · exact hD.2 j _ h
    · exact hA q (Nat.le_trans hS.1 h)
  refine qcall (av := args) (Q2 := Q w) (A1 := va_A (w.map (qm G)) H.size) hrun hS (fun q _ h => hfree q h) hfree (fun r w' t2 H1 locs1 e1 hv hQ hW hD1 hS1 => ?_)
  have k1 := kk r w' hQ H1 locs1 ls (by rw [← e1]; exact hW.1) (hD1.weaken (fun _ q _ h => hfree q.1 h)) hS1 hl2
  cases r <;> exact k1
end QLAW
theorem in_l {a b : Wo} {q : Nat} {c : Ce} (h : lk a q = some c) : ∃ i : Nat, (a ++ b)[i]? = some (q, c) := by
  obtain ⟨i, hi⟩ := lk_place h
  exact ⟨i, by rw [List.getElem?_append_left (List.getElem?_eq_some_iff.mp hi).1]; exact hi⟩
theorem in_r {a b : Wo} {q : Nat} {c : Ce} (h : lk b q = some c) : ∃ i : Nat, (a ++ b)[i]? = some (q, c) := by
  obtain ⟨i, hi⟩ := lk_place h
  exact ⟨a.length + i, by rw [List.getElem?_append_right (by omega), Nat.add_sub_cancel_left]; exact hi⟩
