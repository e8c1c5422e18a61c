/-! what is made: rows of ints, copies, objects -/
theorem up_none {w : Wo} {a : Nat} {c : Ce} (h : lk w a = none) : up w a c = w := by
  induction w with
  | nil => rfl
  | cons q w ih =>
    rw [lk_cons] at h
    by_cases e : q.1 = a
    · rw [if_pos e] at h
      cases h
    · rw [if_neg e] at h
      have e2 : up (q :: w) a c = (if q.1 = a then (a, c) else q) :: up w a c := rfl
      rw [e2, if_neg e, ih h]
theorem up_up {w : Wo} {a : Nat} {c c2 : Ce} : up (up w a c) a c2 = up w a c2 := by
  unfold up
  rw [List.map_map]
  apply List.map_congr_left
  intro q _
  by_cases e : q.1 = a
  · simp [e]
  · simp [e]
theorem up_nw {w : Wo} {a : Nat} {c c2 : Ce} (h : lk w a = none) : up (nw w a c) a c2 = nw w a c2 := by
  have e : up (nw w a c) a c2 = up w a c2 ++ up [(a, c)] a c2 := by unfold nw up; rw [List.map_append]
  rw [e, up_none h]
  have e2 : up [(a, c)] a c2 = [(a, c2)] := by unfold up; simp
  rw [e2]
  rfl
theorem nw_fresh {G : GT} {w : Wo} {A : Nat → Prop} {q : Nat} {c : Ce} (hD : va_D A ((nw w q c).map (qm G))) (hAB : ∀ q : Nat, A q → gB G ≤ q) : gB G ≤ q ∧ lk w q = none := by
  have hi : (nw w q c)[w.length]? = some (q, c) := by unfold nw; simp
  refine ⟨hAB _ (hD.2 w.length _ (qm_place hi)), ?_⟩
  cases h : lk w q with
  | none => rfl
  | some x =>
    obtain ⟨i, h1⟩ := lk_place h
    have h2 := (List.getElem?_eq_some_iff.mp h1).1
    have h3 : (nw w q c)[i]? = some (q, x) := by unfold nw; rw [List.getElem?_append_left h2]; exact h1
    have h4 := hD.1 i w.length _ _ (qm_place (G := G) h3) (qm_place (G := G) hi) rfl
    omega
set_option maxRecDepth 100000 in
theorem wd_ai : Cond.arrayClass .int ∈ lw_g := lw_g_in (List.mem_of_getElem? (i := 226) (by decide +kernel)) rfl
set_option maxRecDepth 100000 in
theorem wd_c1 : Cond.methodLink RJ7 316 ⟨"[I", "clone", "()Ljava/lang/Object;"⟩ ∈ lw_g := lw_g_in (List.mem_of_getElem? (i := 678) (by decide +kernel)) rfl
set_option maxRecDepth 100000 in
theorem wd_c2 : Cond.sameMethod "[I" "java/lang/Object" "clone" "()Ljava/lang/Object;" ∈ lw_g := lw_g_in (List.mem_of_getElem? (i := 679) (by decide +kernel)) rfl
set_option maxRecDepth 100000 in
theorem wd_c3 : Cond.native ⟨"java/lang/Object", "clone", "()Ljava/lang/Object;"⟩ ∈ lw_g := lw_g_in (List.mem_of_getElem? (i := 680) (by decide +kernel)) rfl
set_option maxRecDepth 100000 in
theorem wd_c4 : Cond.instanceMethod ⟨"java/lang/Object", "clone", "()Ljava/lang/Object;"⟩ ∈ lw_g := lw_g_in (List.mem_of_getElem? (i := 681) (by decide +kernel)) rfl
set_option maxRecDepth 100000 in
theorem wd_c5 : Cond.selects "[I" ⟨"[I", "clone", "()Ljava/lang/Object;"⟩ ⟨"java/lang/Object", "clone", "()Ljava/lang/Object;"⟩ ∈ lw_g := lw_g_in (List.mem_of_getElem? (i := 682) (by decide +kernel)) rfl
set_option maxRecDepth 100000 in
theorem wd_cc : Cond.classLink RJ7 317 "[I" ∈ lw_g := lw_g_in (List.mem_of_getElem? (i := 684) (by decide +kernel)) rfl
set_option maxRecDepth 100000 in
theorem ac_J7_150 : Cond.methodLink RJ7 150 arraycopyName ∈ lw_g := lw_g_in (List.mem_of_getElem? (i := 686) (by decide +kernel)) rfl
set_option maxRecDepth 100000 in
theorem wd_oi : Cond.instanceMethod objectInit ∈ lw_g := lw_g_in (List.mem_of_getElem? (i := 150) (by decide +kernel)) rfl
set_option maxRecDepth 100000 in
theorem wd_oc : Cond.code objectInit ⟨#[0xb1]⟩ 1 none ∈ lw_g := lw_g_in (List.mem_of_getElem? (i := 151) (by decide +kernel)) rfl
set_option maxRecDepth 100000 in
theorem wd_o7 : Cond.methodLink RX7 3 objectInit ∈ lw_g := lw_g_in (List.mem_of_getElem? (i := 707) (by decide +kernel)) rfl
set_option maxRecDepth 100000 in
theorem wd_n7 : Cond.classLink RX3 59 RX7 ∈ lw_g := lw_g_in (List.mem_of_getElem? (i := 702) (by decide +kernel)) rfl
set_option maxRecDepth 100000 in
theorem wd_i7 : Cond.instantiable RX7 3 ∈ lw_g := lw_g_in (List.mem_of_getElem? (i := 703) (by decide +kernel)) rfl
set_option maxRecDepth 100000 in
theorem wd_s7 : Cond.initialized RX7 ∈ lw_g := lw_g_in (List.mem_of_getElem? (i := 141) (by decide +kernel)) rfl
section QNEW
variable {l : Launch} {G : GT} {y : MethodName} {cc : ByteArray} {t : Tab} {nL : Nat} {ret : Option FieldType} {d mc ms : Nat} {Qp : Option AV → Wo → Prop} {g : gF}
variable {k n : Nat} {w : Wo} {pc pc' tgt : Nat} {lv lv' : Lo} {st st' : List AV} {off x z : Int} {a : Nat}
theorem Mach.newI {N : Nat} (M : Mach l G y cc t nL ret d mc ms Qp g) (hN : N ≤ 100000) (hq : qlk t pc = some (.newarray .int, 2)) (hk : k + 1 ≤ mc) (hn : n + N ≤ ms)
    (kk : ∀ q : Nat, gB G ≤ q → lk w q = none → g (k + 1) (n + N) (nw w q (Ar 0 N (fun _ => 0))) (pc + 2) lv (vr q :: st)) : g k n w pc lv (vi (N : Nat) :: st) := by
  obtain ⟨p, e, s, m, args, below, meth, c, A, hx, hb, ht, hml, hr', hlk, hown, hts, hnm, hA, hAB, hB, hK, hSt, rfl⟩ := M
  intro H locs ls hP hD hS hl
  refine va_newa (atype := .int) (ty := .int) (N' := N) (a0 := qar 0 N (fun _ => 0)) hx hb (hts _ wd_ai) rfl hK hP hD hS hA (fun cA => rfl) (fun z => absurd ((iI_lt (b := 0) ⟨by omega, by omega⟩ inI_0).mp z) (by omega)) (iI_clN (by omega)) (by show N * 4 ≤ 536870912; omega) hk hn (qdec ht hq) (fun q cA H1 hK1 hP1 hD1 hS1 => ?_)
  have h1 := va_nm_int (hK1.2 5 (cA, .int) rfl).2
  have h2 := va_nm_int (hK.2 0 (gA G 0, .int) rfl).2
  cases h1.symm.trans h2
  have e1 : (w.map (qm G)) ++ [((q, (Sum.inl (gA G 0, qar 0 N (fun _ => 0)) : va_E)) : Nat × va_E)] = (nw w q (Ar 0 N (fun _ => 0))).map (qm G) := nw_map (G := G) (w := w) (a := q) (c := Ar 0 N (fun _ => 0))
  rw [e1] at hP1 hD1
  obtain ⟨f1, f2⟩ := nw_fresh hD1 hAB
  exact kk q f1 f2 H1 locs ls hP1 hD1 hS1 hl
theorem Mach.cloneI {N : Nat} {f : Nat → Int} (M : Mach l G y cc t nL ret d mc ms Qp g) (hy : y.cls = RJ7) (hq : qlk t pc = some (.invokevirtual 316, 3)) (he : lk w a = some (Ar 0 N f)) (hd : 0 < d) (hcat : Nat.ble (stc st) 8 = true) (hk : k + 1 ≤ mc) (hn : n + N ≤ ms)
    (kk : ∀ q : Nat, gB G ≤ q → lk w q = none → g (k + 1) (n + N) (nw w q (Ar 0 N f)) (pc + 3) lv (vr q :: st)) : g k n w pc lv (vr a :: st) := by
  obtain ⟨p, e, s, m, args, below, meth, c, A, hx, hb, ht, hml, hr', hlk, hown, hts, hnm, hA, hAB, hB, hK, hSt, rfl⟩ := M
  intro H locs ls hP hD hS hl
  have hcat2 := Nat.le_of_ble_eq_true hcat
  obtain ⟨j, hj⟩ := lk_place he
  have h2 := va_nm_int (hK.2 0 (gA G 0, .int) rfl).2
  refine va_clone (ad := "[I") (own := y.cls) (index := 316) (x := qar 0 N f) hx hb (hml.trans hl.2.1.symm) hown (by rw [hy]; exact hts _ wd_c1) (hts _ wd_c2) (hts _ wd_c3) (hts _ wd_c4) (hts _ wd_c5) hSt.2.2.2.2.1.2.2.2 hK hP hD hS hA j 0 (qm_place hj) rfl h2 (va_fit (fun i _ => rfl)) (by show 1 ≤ d; omega) (by rw [stc_eq]; show stc st + 14 ≤ 64 * d; omega) hk hn (qdec ht hq) (fun q H1 hK1 hP1 hD1 hS1 => ?_)
  have e1 : (w.map (qm G)) ++ [((q, (Sum.inl (gA G 0, qar 0 N f) : va_E)) : Nat × va_E)] = (nw w q (Ar 0 N f)).map (qm G) := nw_map (G := G) (w := w) (a := q) (c := Ar 0 N f)
  rw [e1] at hP1 hD1
  obtain ⟨f1, f2⟩ := nw_fresh hD1 hAB
  exact kk q f1 f2 H1 locs ls hP1 hD1 hS1 hl
theorem Mach.castI {N : Nat} {f : Nat → Int} (M : Mach l G y cc t nL ret d mc ms Qp g) (hy : y.cls = RJ7) (hq : qlk t pc = some (.checkcast 317, 3)) (he : lk w a = some (Ar 0 N f)) (kk : g k n w (pc + 3) lv (vr a :: st)) : g k n w pc lv (vr a :: st) := by
  obtain ⟨p, e, s, m, args, below, meth, c, A, hx, hb, ht, hml, hr', hlk, hown, hts, hnm, hA, hAB, hB, hK, hSt, rfl⟩ := M
  intro H locs ls hP hD hS hl
  obtain ⟨j, hj⟩ := lk_place he
  have h2 := va_nm_int (hK.2 0 (gA G 0, .int) rfl).2
  exact va_castA (own := y.cls) (nm := "[I") hx hb hown (by rw [hy]; exact hts _ wd_cc) hP j (qm_place hj) h2 (qdec ht hq) (kk H locs ls hP hD hS hl)
theorem Mach.aretI {ty : FieldType} {r : Option Nat} (M : Mach l G y cc t nL (some (.array ty)) d mc ms Qp g) (hq : qlk t pc = some (.areturn, 1)) (hk : k ≤ mc) (hn : n ≤ ms) (h : Qp (some (.inr (.inr r))) w) : g k n w pc lv [.inr (.inr r)] := by
  obtain ⟨p, e, s, m, args, below, meth, c, A, hx, hb, ht, hml, hr', hlk, hown, hts, hnm, hA, hAB, hB, hK, hSt, rfl⟩ := M
  intro H locs ls hP hD hS hl
  refine W.widen hk hn ?_
  exact W.aret hx hb hr' (Or.inr ⟨_, rfl⟩) (by cases r with
    | none => exact Or.inl rfl
    | some a => exact Or.inr ⟨a, rfl⟩) (fun t ht hW => ⟨⟨some (.inr (.inr r)), w, rfl, h, WU_of hP hD hS hAB hB hK hSt ht hW, hD⟩, hS.F ht⟩) hS.2.2 (qdec ht hq)
theorem Mach.newO {ci idx N : Nat} {C : String} {T : u_T} {ty0 : Nat → FieldType} (fs : List AV) (M : Mach l G y cc t nL ret d mc ms Qp g) (hc : vwCl[ci]? = some (C, T, N)) (hin : ∀ w ∈ u_ws C T N, w ∈ lw_g) (hty : ∀ k, k < N → parseFieldDescriptor (T k).2.2.1 = some (ty0 k)) (hcl : Cond.classLink y.cls idx C ∈ lw_g) (hinst : Cond.instantiable C N ∈ lw_g) (hini : Cond.initialized C ∈ lw_g) (hfs : ∀ j, j < N → defaultValue (ty0 j) = vp_V (fs.map qv) j) (hq : qlk t pc = some (.new idx, 3)) (hk : k + 1 ≤ mc) (hn : n + N ≤ ms)
    (kk : ∀ q : Nat, gB G ≤ q → lk w q = none → g (k + 1) (n + N) (nw w q (Ob ci fs)) (pc + 3) lv (vr q :: st)) : g k n w pc lv st := by
  obtain ⟨p, e, s, m, args, below, meth, c, A, hx, hb, ht, hml, hr', hlk, hown, hts, hnm, hA, hAB, hB, hK, hSt, rfl⟩ := M
  intro H locs ls hP hD hS hl
  refine va_new (ci := ci) (fs := fs.map qv) (C := C) (T := T) (N := N) hx hb hts hin ty0 hty hown (hts _ hcl) (hts _ hinst) (hts _ hini) hK hP hD hS hA hc hfs hk hn (qdec ht hq) (fun q H1 hP1 hD1 hS1 => ?_)
  have e1 : (w.map (qm G)) ++ [((q, (Sum.inr (ci, fs.map qv) : va_E)) : Nat × va_E)] = (nw w q (Ob ci fs)).map (qm G) := nw_map (G := G) (w := w) (a := q) (c := Ob ci fs)
  rw [e1] at hP1 hD1
  obtain ⟨f1, f2⟩ := nw_fresh hD1 hAB
  exact kk q f1 f2 H1 locs ls hP1 hD1 hS1 hl
theorem Mach.oinit {idx : Nat} (M : Mach l G y cc t nL ret d mc ms Qp g) (hl : Cond.methodLink y.cls idx objectInit ∈ lw_g) (hq : qlk t pc = some (.invokespecial idx, 3)) (hd : 0 < d) (hcat : Nat.ble (stc st) 8 = true) (kk : g k n w (pc + 3) lv st) : g k n w pc lv (vr a :: st) := by
  obtain ⟨p, e, s, m, args, below, meth, c, A, hx, hb, ht, hml, hr', hlk, hown, hts, hnm, hA, hAB, hB, hK, hSt, rfl⟩ := M
  intro H locs ls hP hD hS hl2
  have hcat2 := Nat.le_of_ble_eq_true hcat
  exact W.objInit hx hb hown (hts _ hl) (hts _ wd_oi) (hts _ wd_oc) rfl (hl2.2.1.trans hml.symm) rfl (qdec ht hq) (by show 1 ≤ d; omega) (by rw [stc_eq]; show 2 * 0 + stc st + 12 ≤ 64 * d; omega) (kk H locs ls hP hD hS hl2)
end QNEW
/-- a copy of a row's beginning -/
theorem kJ7_copyOf (l : Launch) (G : GT) (a N m : Nat) (f : Nat → Int) (hN : N ≤ 1000) (hm : m ≤ N) : Ctr l G yJ7_copyOf_59c91 cJ7_copyOf_59c91 3 ((Option.some (Jvm.ClassFile.FieldType.array Jvm.ClassFile.FieldType.int))) 1 1 m [vr a, vi (m : Nat)] (fun w => lk w a = some (Ar 0 N f)) (fun w r w' => ∃ (q : Nat) (h : Nat → Int), r = some (vr q) ∧ gB G ≤ q ∧ lk w q = none ∧ w' = nw w q (Ar 0 m h) ∧ ∀ k : Nat, k < m → h k = f k) := by
  refine Ctr.of (t := tJ7_copyOf_59c91) (lv0 := [some (vr a), some (vi (m : Nat)), none]) (by decide +kernel) tJ7_copyOf_59c91_ok rfl rfl (fun w g hP M => ?_)
  refine M.run 2 (pc' := 2) (lv' := [some (vr a), some (vi (m : Nat)), none]) (st' := [vr a, vi (m : Nat)]) rfl ?_
  refine M.alen rfl hP (by decide) ?_
  refine M.icmp_ne (tgt := 14) rfl (qI (by omega)) (qI (by omega)) rfl (fun h3 => ?_) (fun h3 => ?_)
  · refine M.run 1 (pc' := 15) (lv' := [some (vr a), some (vi (m : Nat)), none]) (st' := [vi (m : Nat)]) rfl ?_
    refine M.newI (by omega) rfl (by omega) (by omega) (fun q f1 f2 => ?_)
    have hqa : a ≠ q := fun z => by rw [z, f2] at hP; cases hP
    have hP1 : lk (nw w q (Ar 0 m (fun _ => 0))) a = some (Ar 0 N f) := lk_nw_o hP
    have hP2 : lk (nw w q (Ar 0 m (fun _ => 0))) q = some (Ar 0 m (fun _ => 0)) := lk_nw_s f2
    refine M.run 6 (pc' := 23) (lv' := [some (vr a), some (vi (m : Nat)), some (vr q)]) (st' := [vr a, vi 0, vr q, vi 0, vr a]) rfl ?_
    refine M.alen rfl hP1 (by decide) ?_
    refine M.run 1 (pc' := 25) (lv' := [some (vr a), some (vi (m : Nat)), some (vr q)]) (st' := [vi (m : Nat), vi (N : Nat), vi 0, vr q, vi 0, vr a]) rfl ?_
    refine M.mmin cs_J7_304 rfl (qI (by omega)) (qI (by omega)) (by decide) (by omega) (by omega) rfl ?_
    rw [show (min ((N : Nat) : Int) ((m : Nat) : Int)) = ((m : Nat) : Int) from by omega]
    refine M.acopy 0 0 m ac_J7_150 rfl hP1 hP2 (by omega) (by omega) (by omega) (by omega) (by decide) rfl ?_
    rw [up_nw f2]
    refine M.run 1 (pc' := 32) (lv' := [some (vr a), some (vi (m : Nat)), some (vr q)]) (st' := [vr q]) rfl ?_
    refine M.aretI rfl (by omega) (by omega) ⟨q, _, rfl, f1, f2, rfl, fun k hk => ?_⟩
    unfold cpN
    rw [if_pos ⟨by omega, by omega⟩]
    congr 1
    omega
  · have h4 : m = N := by omega
    subst h4
    refine M.run 1 (pc' := 7) (lv' := [some (vr a), some (vi (m : Nat)), none]) (st' := [vr a]) rfl ?_
    refine M.cloneI rfl rfl hP (by decide) rfl (by omega) (by omega) (fun q f1 f2 => ?_)
    refine M.castI rfl rfl (lk_nw_s f2) ?_
    exact M.aretI rfl (by omega) (by omega) ⟨q, f, rfl, f1, f2, rfl, fun k hk => rfl⟩
theorem kX7_init (l : Launch) (G : GT) (o a1 a2 a3 : Nat) (v0 v1 v2 : AV) : Ctr l G yX7_init cX7_init 4 (none : Option FieldType) 1 0 0 [vr o, vr a1, vr a2, vr a3] (fun w => lk w o = some (Ob 6 [v0, v1, v2])) (fun w r w' => r = none ∧ w' = up w o (Ob 6 [vr a1, vr a2, vr a3])) := by
  refine Ctr.of (t := tX7_init) (lv0 := [some (vr o), some (vr a1), some (vr a2), some (vr a3)]) (by decide +kernel) tX7_init_ok rfl rfl (fun w g hP M => ?_)
  refine M.run 1 (pc' := 1) (lv' := [some (vr o), some (vr a1), some (vr a2), some (vr a3)]) (st' := [vr o]) rfl ?_
  refine M.oinit wd_o7 rfl (by decide) rfl ?_
  refine M.run 2 (pc' := 6) (lv' := [some (vr o), some (vr a1), some (vr a2), some (vr a3)]) (st' := [vr a1, vr o]) rfl ?_
  refine M.putF fl_X7_9 rfl rfl rfl hP rfl rfl (Nat.le_of_ble_eq_true rfl) ?_
  refine M.run 2 (pc' := 11) (lv' := [some (vr o), some (vr a1), some (vr a2), some (vr a3)]) (st' := [vr a2, vr o]) rfl ?_
  refine M.putF fl_X7_15 rfl rfl rfl (lk_up_s hP) rfl rfl (Nat.le_of_ble_eq_true rfl) ?_
  refine M.run 2 (pc' := 16) (lv' := [some (vr o), some (vr a1), some (vr a2), some (vr a3)]) (st' := [vr a3, vr o]) rfl ?_
  refine M.putF fl_X7_18 rfl rfl rfl (lk_up_s (lk_up_s hP)) rfl rfl (Nat.le_of_ble_eq_true rfl) ?_
  refine M.vret rfl (Nat.zero_le _) (Nat.zero_le _) ⟨rfl, ?_⟩
  rw [up_up, up_up]
  rfl
