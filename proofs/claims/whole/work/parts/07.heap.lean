section QHEAP
variable {l : Launch} {G : GT} {y : MethodName} {cc : ByteArray} {t : Tab} {nL : Nat} {ret : Option FieldType} {d mc ms : Nat} {Qp : Option AV → Wo → Prop} {g : gF}
variable {k n : Nat} {w : Wo} {pc pc' tgt : Nat} {lv lv' : Lo} {st st' : List AV} {off x z : Int} {a : Nat}
theorem getD_qv {fs : List AV} {kf : Nat} {v : AV} (hv : fs[kf]? = some v) : (fs.map qv)[kf]? = some (qv v) := by rw [List.getElem?_map, hv]; rfl
theorem Mach.get {idx ci kf : Nat} {fin : Bool} {ty : FieldType} {fs : List AV} {v : AV} (M : Mach l G y cc t nL ret d mc ms Qp g) (hf : FLk y.cls idx ci kf fin ty) (hq : qlk t pc = some (.getfield idx, 3)) (he : lk w a = some (Ob ci fs)) (hv : fs[kf]? = some v) (kk : g k n w (pc + 3) lv (v :: st)) : g k n w pc lv (vr a :: st) := by
  obtain ⟨p, e, s, m, args, below, meth, c, A, hx, hb, ht, hml, hr', hlk, hown, hts, hnm, hA, hAB, hB, hK, hSt, rfl⟩ := M
  obtain ⟨C, T, N, ty0, h1, h2, h3, h4, h5, h6, h7, h8, h9⟩ := hf
  intro H locs ls hP hD hS hl
  obtain ⟨i, hi⟩ := lk_place he
  exact va_get (ref := (T kf).1) hx hb hts h2 hown hK hP i (qm_place hi) h1 kf h3 (hts _ h4) (fun _ q => q) (getD_qv hv) (qdec ht hq) (kk H locs ls hP hD hS hl)
theorem Mach.put {idx ci kf : Nat} {ty : FieldType} {fs : List AV} {v : AV} (M : Mach l G y cc t nL ret d mc ms Qp g) (hf : FLk y.cls idx ci kf false ty) (hq : qlk t pc = some (.putfield idx, 3)) (he : lk w a = some (Ob ci fs)) (hn : narrow ty (qv v) = qv v) (hfit : fits ty (qv v) = true) (hl2 : kf < fs.length) (kk : g k n (up w a (Ob ci (fs.set kf v))) (pc + 3) lv st) : g k n w pc lv (v :: vr a :: st) := by
  obtain ⟨p, e, s, m, args, below, meth, c, A, hx, hb, ht, hml, hr', hlk, hown, hts, hnm, hA, hAB, hB, hK, hSt, rfl⟩ := M
  obtain ⟨C, T, N, ty0, h1, h2, h3, h4, h5, h6, h7, h8, h9⟩ := hf
  intro H locs ls hP hD hS hl
  obtain ⟨i, hi⟩ := lk_place he
  have es : ∀ D' : Nat → Prop, va_D D' (w.map (qm G)) → (w.map (qm G)).set i (a, .inr (ci, (fs.map qv).set kf (qv v))) = (up w a (Ob ci (fs.set kf v))).map (qm G) := fun D' hD' => by
    rw [← up_set hD' hi]
    simp only [qc, List.map_set]
  refine va_put (ref := (T kf).1) hx hb hts h2 ty0 h8 h9 hown hK hP hD hS i (qm_place hi) h1 kf h3 (hts _ h4) (fun _ q => q) h5 h7 hn hfit (by simpa using hl2) (qdec ht hq) (fun H1 locs1 hP1 hD1 hS1 => ?_)
  rw [es _ hD] at hP1 hD1
  exact kk H1 locs1 ls hP1 hD1 hS1 hl
theorem Mach.putF {idx ci kf : Nat} {ty : FieldType} {fs : List AV} {v : AV} (M : Mach l G y cc t nL ret d mc ms Qp g) (hf : FLk y.cls idx ci kf true ty) (hy : y.name = "<init>") (hci : (vwCl[ci]?).map (fun q => q.1) = some y.cls) (hq : qlk t pc = some (.putfield idx, 3)) (he : lk w a = some (Ob ci fs)) (hn : narrow ty (qv v) = qv v) (hfit : fits ty (qv v) = true) (hl2 : kf < fs.length) (kk : g k n (up w a (Ob ci (fs.set kf v))) (pc + 3) lv st) : g k n w pc lv (v :: vr a :: st) := by
  obtain ⟨p, e, s, m, args, below, meth, c, A, hx, hb, ht, hml, hr', hlk, hown, hts, hnm, hA, hAB, hB, hK, hSt, rfl⟩ := M
  obtain ⟨C, T, N, ty0, h1, h2, h3, h4, h5, h6, h7, h8, h9⟩ := hf
  intro H locs ls hP hD hS hl
  obtain ⟨i, hi⟩ := lk_place he
  have es : ∀ D' : Nat → Prop, va_D D' (w.map (qm G)) → (w.map (qm G)).set i (a, .inr (ci, (fs.map qv).set kf (qv v))) = (up w a (Ob ci (fs.set kf v))).map (qm G) := fun D' hD' => by
    rw [← up_set hD' hi]
    simp only [qc, List.map_set]
  have hdecl : (T kf).1 = y.cls := by
    rw [h6]
    rw [h1] at hci
    exact Option.some.inj hci
  refine va_putF (ref := (T kf).1) hx hb hts h2 ty0 h8 h9 hown hK hP hD hS i (qm_place hi) h1 kf h3 (hts _ h4) (fun _ q => q) h5 (hnm.trans hy) hdecl h7 hn hfit (by simpa using hl2) (qdec ht hq) (fun H1 locs1 hP1 hD1 hS1 => ?_)
  rw [es _ hD] at hP1 hD1
  exact kk H1 locs1 ls hP1 hD1 hS1 hl
theorem iI_in {i : Int} {N : Nat} (h0 : 0 ≤ i) (h1 : i < N) (hN : N < 2147483648) : vp_in (iI i) N := by
  rw [vp_in_iff, iI_toInt ⟨by omega, by omega⟩]
  exact ⟨h0, h1⟩
theorem iI_cl {i : Int} (h0 : 0 ≤ i) (h1 : i < 2147483648) : (iI i).toNatClampNeg = i.toNat := by
  show (iI i).toInt.toNat = _
  rw [iI_toInt ⟨by omega, by omega⟩]
theorem Mach.iald {N : Nat} {f : Nat → Int} {i : Int} (M : Mach l G y cc t nL ret d mc ms Qp g) (hq : qlk t pc = some (.iaload, 1)) (he : lk w a = some (Ar 0 N f)) (h0 : 0 ≤ i) (h1 : i < N) (hN : N < 2147483648) (kk : g k n w (pc + 1) lv (vi (f i.toNat) :: st)) : g k n w pc lv (vi i :: vr a :: st) := by
  obtain ⟨p, e, s, m, args, below, meth, c, A, hx, hb, ht, hml, hr', hlk, hown, hts, hnm, hA, hAB, hB, hK, hSt, rfl⟩ := M
  intro H locs ls hP hD hS hl
  obtain ⟨j, hj⟩ := lk_place he
  refine va_iald (f := fun k => iI (f k)) (n := N) hx hb hK hP j 0 (qm_place hj) rfl (iI_in h0 h1 hN) (qdec ht hq) ?_
  rw [iI_cl h0 (by omega)]
  exact kk H locs ls hP hD hS hl
def qU (f : Nat → Int) (i x : Int) : Nat → Int := fun j => if j = i.toNat then x else f j
theorem Mach.iast {N : Nat} {f : Nat → Int} {i : Int} (M : Mach l G y cc t nL ret d mc ms Qp g) (hq : qlk t pc = some (.iastore, 1)) (he : lk w a = some (Ar 0 N f)) (h0 : 0 ≤ i) (h1 : i < N) (hN : N < 2147483648) (kk : g k n (up w a (Ar 0 N (qU f i x))) (pc + 1) lv st) : g k n w pc lv (vi x :: vi i :: vr a :: st) := by
  obtain ⟨p, e, s, m, args, below, meth, c, A, hx, hb, ht, hml, hr', hlk, hown, hts, hnm, hA, hAB, hB, hK, hSt, rfl⟩ := M
  intro H locs ls hP hD hS hl
  obtain ⟨j, hj⟩ := lk_place he
  have hi2 := hj
  refine va_iast (f := fun k => iI (f k)) (n := N) hx hb hK hP hD hS j 0 (qm_place hj) rfl (iI_in h0 h1 hN) (qdec ht hq) (fun H1 locs1 hP1 hD1 hS1 => ?_)
  have es : (w.map (qm G)).set j (a, .inl (gA G 0, N, .inl (upd (fun k => iI (f k)) (iI i).toNatClampNeg (iI x)))) = (up w a (Ar 0 N (qU f i x))).map (qm G) := by
    have ef : (upd (fun k => iI (f k)) i.toNat (iI x)) = (fun k => iI (qU f i x k)) := by
      funext q
      unfold upd qU
      split <;> simp_all
    rw [← up_set hD hj, iI_cl h0 (by omega), ef]
    rfl
  rw [es] at hP1 hD1
  exact kk H1 locs1 ls hP1 hD1 hS1 hl
theorem Mach.alen {T N : Nat} {f : Nat → Int} (M : Mach l G y cc t nL ret d mc ms Qp g) (hq : qlk t pc = some (.arraylength, 1)) (he : lk w a = some (Ar T N f)) (hT : T < 5) (kk : g k n w (pc + 1) lv (vi (N : Nat) :: st)) : g k n w pc lv (vr a :: st) := by
  obtain ⟨p, e, s, m, args, below, meth, c, A, hx, hb, ht, hml, hr', hlk, hown, hts, hnm, hA, hAB, hB, hK, hSt, rfl⟩ := M
  intro H locs ls hP hD hS hl
  obtain ⟨j, hj⟩ := lk_place he
  have hx1 : (qar T N f).1 = N := by unfold qar; split <;> rfl
  have hty : ∃ ty, (tyq G)[T]? = some (gA G T, ty) := by
    match T, hT with
    | 0, _ => exact ⟨_, rfl⟩
    | 1, _ => exact ⟨_, rfl⟩
    | 2, _ => exact ⟨_, rfl⟩
    | 3, _ => exact ⟨_, rfl⟩
    | 4, _ => exact ⟨_, rfl⟩
    | n + 5, h => exact absurd h (by omega)
  obtain ⟨ty, hty⟩ := hty
  refine va_alen hx hb hK hP j T (qm_place hj) hty (v := iI (N : Nat)) ?_ (qdec ht hq) (kk H locs ls hP hD hS hl)
  rw [hx1]
  exact Int32.ofInt_eq_ofNat.symm
def uN (f : Nat → Int) (k : Nat) (x : Int) : Nat → Int := fun j => if j = k then x else f j
theorem qU_N (f : Nat → Int) (i : Nat) (x : Int) : qU f (i : Int) x = uN f i x := rfl
theorem Mach.ialdN {N : Nat} {f : Nat → Int} (i : Nat) (M : Mach l G y cc t nL ret d mc ms Qp g) (hq : qlk t pc = some (.iaload, 1)) (he : lk w a = some (Ar 0 N f)) (h1 : i < N) (hN : N < 2147483648) (kk : g k n w (pc + 1) lv (vi (f i) :: st)) : g k n w pc lv (vi (i : Int) :: vr a :: st) := M.iald hq he (Int.natCast_nonneg i) (Int.ofNat_lt.mpr h1) hN kk
theorem Mach.iastN {N : Nat} {f : Nat → Int} (i : Nat) (M : Mach l G y cc t nL ret d mc ms Qp g) (hq : qlk t pc = some (.iastore, 1)) (he : lk w a = some (Ar 0 N f)) (h1 : i < N) (hN : N < 2147483648) (kk : g k n (up w a (Ar 0 N (uN f i x))) (pc + 1) lv st) : g k n w pc lv (vi x :: vi (i : Int) :: vr a :: st) := M.iast hq he (Int.natCast_nonneg i) (Int.ofNat_lt.mpr h1) hN kk
theorem iI_inN {i N : Nat} (h1 : i < N) (hN : N < 2147483648) : vp_in (iI (i : Int)) N := iI_in (Int.natCast_nonneg i) (Int.ofNat_lt.mpr h1) hN
theorem iI_clN {i : Nat} (h1 : i < 2147483648) : (iI (i : Int)).toNatClampNeg = i := by rw [iI_cl (Int.natCast_nonneg i) (by omega)]; rfl
theorem Mach.laldN {N : Nat} {f : Nat → Int} (i : Nat) (M : Mach l G y cc t nL ret d mc ms Qp g) (hq : qlk t pc = some (.laload, 1)) (he : lk w a = some (Ar 1 N f)) (h1 : i < N) (hN : N < 2147483648) (kk : g k n w (pc + 1) lv (vl (f i) :: st)) : g k n w pc lv (vi (i : Int) :: vr a :: st) := by
  obtain ⟨p, e, s, m, args, below, meth, c, A, hx, hb, ht, hml, hr', hlk, hown, hts, hnm, hA, hAB, hB, hK, hSt, rfl⟩ := M
  intro H locs ls hP hD hS hl
  obtain ⟨j, hj⟩ := lk_place he
  refine va_lald (f := fun k => lI (f k)) (n := N) hx hb hK hP j 1 (qm_place hj) rfl (iI_inN h1 hN) (qdec ht hq) ?_
  rw [iI_clN (by omega)]
  exact kk H locs ls hP hD hS hl
theorem Mach.zaldN {N : Nat} {f : Nat → Int} (i : Nat) (M : Mach l G y cc t nL ret d mc ms Qp g) (hq : qlk t pc = some (.baload, 1)) (he : lk w a = some (Ar 2 N f)) (h1 : i < N) (hN : N < 2147483648) (kk : g k n w (pc + 1) lv (vi (f i) :: st)) : g k n w pc lv (vi (i : Int) :: vr a :: st) := by
  obtain ⟨p, e, s, m, args, below, meth, c, A, hx, hb, ht, hml, hr', hlk, hown, hts, hnm, hA, hAB, hB, hK, hSt, rfl⟩ := M
  intro H locs ls hP hD hS hl
  obtain ⟨j, hj⟩ := lk_place he
  refine va_zald (f := fun k => iI (f k)) (n := N) hx hb hK hP j 2 (qm_place hj) rfl (iI_inN h1 hN) (qdec ht hq) ?_
  rw [iI_clN (by omega)]
  exact kk H locs ls hP hD hS hl
theorem Mach.lastN {N : Nat} {f : Nat → Int} (i : Nat) (M : Mach l G y cc t nL ret d mc ms Qp g) (hq : qlk t pc = some (.lastore, 1)) (he : lk w a = some (Ar 1 N f)) (h1 : i < N) (hN : N < 2147483648) (kk : g k n (up w a (Ar 1 N (uN f i x))) (pc + 1) lv st) : g k n w pc lv (vl x :: vi (i : Int) :: vr a :: st) := by
  obtain ⟨p, e, s, m, args, below, meth, c, A, hx, hb, ht, hml, hr', hlk, hown, hts, hnm, hA, hAB, hB, hK, hSt, rfl⟩ := M
  intro H locs ls hP hD hS hl
  obtain ⟨j, hj⟩ := lk_place he
  refine va_last (f := fun k => lI (f k)) (n := N) hx hb hK hP hD hS j 1 (qm_place hj) rfl (iI_inN h1 hN) (qdec ht hq) (fun H1 locs1 hP1 hD1 hS1 => ?_)
  have es : (w.map (qm G)).set j (a, .inl (gA G 1, N, .inr (.inl (vp_updL (fun k => lI (f k)) (iI (i : Int)).toNatClampNeg (lI x))))) = (up w a (Ar 1 N (uN f i x))).map (qm G) := by
    have ef : (vp_updL (fun k => lI (f k)) i (lI x)) = (fun k => lI (uN f i x k)) := by
      funext q
      unfold vp_updL uN
      split <;> simp_all
    rw [← up_set hD hj, iI_clN (by omega), ef]
    rfl
  rw [es] at hP1 hD1
  exact kk H1 locs1 ls hP1 hD1 hS1 hl
theorem Mach.zastN {N : Nat} {f : Nat → Int} (i : Nat) (M : Mach l G y cc t nL ret d mc ms Qp g) (hq : qlk t pc = some (.bastore, 1)) (he : lk w a = some (Ar 2 N f)) (hz : x = 0 ∨ x = 1) (h1 : i < N) (hN : N < 2147483648) (kk : g k n (up w a (Ar 2 N (uN f i x))) (pc + 1) lv st) : g k n w pc lv (vi x :: vi (i : Int) :: vr a :: st) := by
  obtain ⟨p, e, s, m, args, below, meth, c, A, hx, hb, ht, hml, hr', hlk, hown, hts, hnm, hA, hAB, hB, hK, hSt, rfl⟩ := M
  intro H locs ls hP hD hS hl
  obtain ⟨j, hj⟩ := lk_place he
  refine va_zast (f := fun k => iI (f k)) (n := N) hx hb hK hP hD hS j 2 (qm_place hj) rfl (iI_inN h1 hN) (qdec ht hq) (fun H1 locs1 hP1 hD1 hS1 => ?_)
  have es : (w.map (qm G)).set j (a, .inl (gA G 2, N, .inl (upd (fun k => iI (f k)) (iI (i : Int)).toNatClampNeg (vp_nar .boolean (iI x))))) = (up w a (Ar 2 N (uN f i x))).map (qm G) := by
    have en : vp_nar .boolean (iI x) = iI x := by rcases hz with rfl | rfl <;> decide +kernel
    have ef : (upd (fun k => iI (f k)) i (iI x)) = (fun k => iI (uN f i x k)) := by
      funext q
      unfold upd uN
      split <;> simp_all
    rw [← up_set hD hj, iI_clN (by omega), en, ef]
    rfl
  rw [es] at hP1 hD1
  exact kk H1 locs1 ls hP1 hD1 hS1 hl
/-- an object's address out of a row of references: -1 is null -/
def rfO (z : Int) : Option Nat := if z < 0 then none else some z.toNat
theorem Mach.aaldN {T N : Nat} {f : Nat → Int} {C : String} (i : Nat) (M : Mach l G y cc t nL ret d mc ms Qp g) (hT : (T = 3 ∧ C = "LongCarrier$Text") ∨ (T = 4 ∧ C = "LongCarrier$State")) (hq : qlk t pc = some (.aaload, 1)) (he : lk w a = some (Ar T N f)) (h1 : i < N) (hN : N < 2147483648) (kk : g k n w (pc + 1) lv (.inr (.inr (rfO (f i))) :: st)) : g k n w pc lv (vi (i : Int) :: vr a :: st) := by
  obtain ⟨p, e, s, m, args, below, meth, c, A, hx, hb, ht, hml, hr', hlk, hown, hts, hnm, hA, hAB, hB, hK, hSt, rfl⟩ := M
  intro H locs ls hP hD hS hl
  obtain ⟨j, hj⟩ := lk_place he
  rcases hT with ⟨rfl, rfl⟩ | ⟨rfl, rfl⟩
  · refine va_aldq (f := fun k => if f k < 0 then none else some (f k).toNat) (n := N) hx hb hK hP j 3 (qm_place hj) rfl (iI_inN h1 hN) (qdec ht hq) ?_
    rw [iI_clN (by omega)]
    exact kk H locs ls hP hD hS hl
  · refine va_aldq (f := fun k => if f k < 0 then none else some (f k).toNat) (n := N) hx hb hK hP j 4 (qm_place hj) rfl (iI_inN h1 hN) (qdec ht hq) ?_
    rw [iI_clN (by omega)]
    exact kk H locs ls hP hD hS hl
def stc (st : List AV) : Nat := (st.map fun v => if isL v = true then 2 else 1).sum
theorem stc_eq (st : List AV) : ((st.map qv).map fun v => v.category).sum = stc st := by
  unfold stc
  induction st with
  | nil => rfl
  | cons v st ih =>
    simp only [List.map_cons, List.sum_cons, ih, qv_cat]
/-- behind a call -/
theorem qcall {p : Program} {e : Env} {R : Room} {s : State} {m : MethodId} {args : Array Value} {below : List Frame} {meth : Method} {c : Code} {H : Heap} {locs : List Loc} {cells slots mc2 ms2 : Nat} {Q : State → Prop} {ls : Array Slot} {st0 rest : List Value} {A A1 free : Nat → Prop} {av : Array Value} {Q2 : Option AV → Wo → Prop}
    (hr : va_Run p l e R s m args below meth c H locs cells slots mc2 ms2 (F0 m pc ls st0) rest (QQ G Q2 A1 av) free) (hS : va_S A s.heap H locs) (hA : ∀ q, q < H.size → A1 q → A q) (hf : ∀ q, free q → A q)
    (kk : ∀ (r : Option AV) (w' : Wo) (t2 : State) (H1 : Heap) (locs1 : List Loc), t2.heap = H1 → s.vm.Alike t2.vm → Q2 r w' → WU G w' t2 → va_D A1 (w'.map (qm G)) → va_S A s.heap H1 locs1 → W p l e R s m args below meth c H1 locs1 (cells + mc2) (slots + ms2) Q (F0 m (pc + 3) ls ((r.map qv).toList ++ rest))) : W p l e R s m args below meth c H locs cells slots Q (F0 m pc ls st0) := by
  intro T hT X
  obtain ⟨v, st₀, t2, T', L, h0, X', hL, e1, e2, ⟨⟨r, w', hv, hp, hw, hd⟩, hz, hk⟩, stp⟩ := hr T hT X
  cases hv
  rw [h0] at hz hk
  obtain ⟨t3, a1, b1⟩ := kk r w' t2 T'.heap (locs ++ L) e1.symm (by rw [← e2]; exact X'.warmed.alike) hp hw hd
    ⟨Nat.le_trans hS.1 (by rw [e1]; exact hz), fun q h1 h2 => by rw [e1, hk q (Nat.lt_of_lt_of_le h1 hS.1) (fun z => h2 (hA q (Nat.lt_of_lt_of_le h1 hS.1) z))]; exact hS.2.1 q h1 h2, fun q hq => by
      rcases List.mem_append.mp hq with h | h
      · exact hS.2.2 q h
      · exact hf _ (hL q h)⟩ T' rfl X'
  exact ⟨t3, stp t3 a1, b1⟩
theorem lw_g_goodIn {cw : Cond} (h : cw ∈ lw_g) : GoodIn lw_g (cw :: lw_g) := fun q hq => by
  rcases List.mem_cons.mp hq with rfl | hq
  · exact ⟨h, good_of_word (lw_g_good h)⟩
  · exact ⟨hq, good_of_word (lw_g_good hq)⟩
theorem blind_Pc {w : Wo} {av : List Value} {sz : Nat} : FrameBlind (va_Pc av (fun U => U.heap.size = sz ∧ WU G w U)) := by
  intro a U g mk q
  obtain ⟨q0, q1, q2, q3, q4, q5, q6⟩ := q
  exact ⟨q0, q1, q2, q3, q4, va_K.moved (u := U) (U := U.calling g mk a) (Vm.Alike.refl U.vm) q5, Stq_kept q6 (Nq_same rfl q6.2.2.2.2.1) (Vm.Alike.refl U.vm) (fun _ _ _ => rfl)⟩
theorem WU_in {s : State} {A : Nat → Prop} {H : Heap} {U : State} {locs : List Loc} (hP : va_P (gD G) vwCl (w.map (qm G)) H) (hD : va_D A (w.map (qm G))) (hS : va_S A s.heap H locs) (hAB : ∀ q : Nat, A q → gB G ≤ q) (hB : gB G ≤ s.heap.size) (hK : va_K (gD G) vwCl (tyq G) s) (hSt : Stq G s) (hU : U.heap = H) (hW : s.WarmedH U.vm) : WU G w U := WU_of hP hD hS hAB hB hK hSt hU hW
theorem Mach.callS {idx : Nat} {y2 : MethodName} {cc2 : ByteArray} {maxL2 d2 mc2 ms2 : Nat} {ret2 : Option FieldType} {av : List AV} {P : Wo → Prop} {Q : Wo → Option AV → Wo → Prop} {st0 : List AV} (M : Mach l G y cc t nL ret d mc ms Qp g) (hc : Ctr l G y2 cc2 maxL2 ret2 d2 mc2 ms2 av P Q) (hl : CLS y.cls idx y2 av.length) (hcd : Cond.code y2 cc2 maxL2 ret2 ∈ lw_g) (hq : qlk t pc = some (.invokestatic idx, 3)) (hst : st0 = av.reverse ++ st) (hd : d2 < d) (hm : maxL2 ≤ 40) (hcat : Nat.ble (stc st) 8 = true) (hk : k + mc2 ≤ mc) (hn : n + ms2 ≤ ms) (hP : P w) (kk : ∀ (r : Option AV) (w' : Wo), Q w r w' → g (k + mc2) (n + ms2) w' (pc + 3) lv (r.toList ++ st)) : g k n w pc lv st0 := by
  obtain ⟨p, e, s, m, args, below, meth, c, A, hx, hb, ht, hml, hr', hlk, hown, hts, hnm, hA, hAB, hB, hK, hSt, rfl⟩ := M
  subst hst
  intro H locs ls hPw hD hS hl2
  have hM := hc w H.size hP
  obtain ⟨g1, g2, g3, g4⟩ := hl
  have hcb : CallB (rmq d mc ms) s args y.cls idx y2 cc2 maxL2 ret2 (.code y2 cc2 maxL2 ret2 :: lw_g) (rmq d2 mc2 ms2) mc2 ms2 av.length := callB_of av.length hts (lw_g_goodIn hcd) rfl rfl rfl (hts _ g3) (hts _ g1) g4 ⟨hd, by show 8 + (maxL2 + 11) + 64 * d2 ≤ 64 * d; omega⟩
  have hrun := va_runS (cells := k) (slots := n) (H := H) (locs := locs) (l := l) (p := p) (e := e) (below := below) (meth := meth) (g := F0 m pc ls ((av.reverse ++ st).map qv)) (rest := st.map qv) (As := av.map qv) (R := rmq d mc ms) ⟨hx, hb, hml, hown, hts⟩ hM ⟨hcb, hts _ g2⟩ ⟨blind_Pc, fun U hU hW => ⟨rfl, by rw [hU], WU_in hPw hD hS hAB hB hK hSt hU hW⟩⟩ rfl (by simp) hl2.2.1 (by simp [List.map_append, List.map_reverse]) (by rw [stc_eq]; exact (by show 2 * 0 + stc st ≤ 8; have := Nat.le_of_ble_eq_true hcat; omega)) (qdec ht hq) ⟨hk, hn⟩
  have hfree : ∀ q, va_A (w.map (qm G)) H.size q → A q := fun q h => by
    rcases h with ⟨j, e2, h⟩ | h
    · exact hD.2 j _ h
    · exact hA q (Nat.le_trans hS.1 h)
  refine qcall (av := args) (Q2 := Q w) (A1 := va_A (w.map (qm G)) H.size) hrun hS (fun q _ h => hfree q h) hfree (fun r w' t2 H1 locs1 e1 hv hQ hW hD1 hS1 => ?_)
  have k1 := kk r w' hQ H1 locs1 ls (by rw [← e1]; exact hW.1) (hD1.weaken (fun _ q _ h => hfree q.1 h)) hS1 hl2
  cases r <;> exact k1
theorem Mach.callV {idx ci : Nat} {y2 : MethodName} {cc2 : ByteArray} {maxL2 d2 mc2 ms2 : Nat} {ret2 : Option FieldType} {av : List AV} {P : Wo → Prop} {Q : Wo → Option AV → Wo → Prop} {st0 : List AV} {fs : List AV} (M : Mach l G y cc t nL ret d mc ms Qp g) (hc : Ctr l G y2 cc2 maxL2 ret2 d2 mc2 ms2 (vr a :: av) P Q) (hl : CLV y.cls idx ci y2 av.length) (hcd : Cond.code y2 cc2 maxL2 ret2 ∈ lw_g) (hq : qlk t pc = some (.invokevirtual idx, 3)) (hst : st0 = av.reverse ++ vr a :: st) (he : lk w a = some (Ob ci fs)) (hd : d2 < d) (hm : maxL2 ≤ 40) (hcat : Nat.ble (stc st) 8 = true) (hk : k + mc2 ≤ mc) (hn : n + ms2 ≤ ms) (hP : P w) (kk : ∀ (r : Option AV) (w' : Wo), Q w r w' → g (k + mc2) (n + ms2) w' (pc + 3) lv (r.toList ++ st)) : g k n w pc lv st0 := by
  obtain ⟨p, e, s, m, args, below, meth, c, A, hx, hb, ht, hml, hr', hlk, hown, hts, hnm, hA, hAB, hB, hK, hSt, rfl⟩ := M
  subst hst
  intro H locs ls hPw hD hS hl2
  have hM := hc w H.size hP
  obtain ⟨T0, N0, g0, g1, g2, g3, g4, g5⟩ := hl
  obtain ⟨i, hi⟩ := lk_place he
  have hcb : CallB (rmq d mc ms) s args y.cls idx y2 cc2 maxL2 ret2 (.code y2 cc2 maxL2 ret2 :: lw_g) (rmq d2 mc2 ms2) mc2 ms2 av.length := callB_of av.length hts (lw_g_goodIn hcd) rfl rfl rfl (hts _ g4) (hts _ g1) g5 ⟨hd, by show 8 + (maxL2 + 11) + 64 * d2 ≤ 64 * d; omega⟩
  have hrun := va_runV (cells := k) (slots := n) (H := H) (locs := locs) (l := l) (p := p) (e := e) (below := below) (meth := meth) (g := F0 m pc ls ((av.reverse ++ vr a :: st).map qv)) (rest := st.map qv) (As := av.map qv) (R := rmq d mc ms) (b := a) ⟨hx, hb, hml, hown, hts⟩ hM ⟨hcb, hts _ g2, hts _ g3⟩ ⟨blind_Pc, va_recv (q := (y2.cls, T0, N0)) hK hPw g0 (qm_place hi), fun U hU hW => ⟨rfl, by rw [hU], WU_in hPw hD hS hAB hB hK hSt hU hW⟩⟩ rfl (by simp) hl2.2.1 (by simp [List.map_append, List.map_reverse, qv, va_rf]) (by rw [stc_eq]; exact (by show 2 * 0 + stc st ≤ 8; have := Nat.le_of_ble_eq_true hcat; omega)) (qdec ht hq) ⟨hk, hn⟩
  have hfree : ∀ q, va_A (w.map (qm G)) H.size q → A q := fun q h => by
    rcases h with ⟨j, e2, h⟩ | h
    · exact hD.2 j _ h
    · exact hA q (Nat.le_trans hS.1 h)
  refine qcall (av := args) (Q2 := Q w) (A1 := va_A (w.map (qm G)) H.size) hrun hS (fun q _ h => hfree q h) hfree (fun r w' t2 H1 locs1 e1 hv hQ hW hD1 hS1 => ?_)
  have k1 := kk r w' hQ H1 locs1 ls (by rw [← e1]; exact hW.1) (hD1.weaken (fun _ q _ h => hfree q.1 h)) hS1 hl2
  cases r <;> exact k1
theorem Mach.callI {idx : Nat} {y2 : MethodName} {cc2 : ByteArray} {maxL2 d2 mc2 ms2 : Nat} {av : List AV} {P : Wo → Prop} {Q : Wo → Option AV → Wo → Prop} {st0 : List AV} (M : Mach l G y cc t nL ret d mc ms Qp g) (hc : Ctr l G y2 cc2 maxL2 none d2 mc2 ms2 (vr a :: av) P Q) (hl : CLI y.cls idx y2 av.length) (hcd : Cond.code y2 cc2 maxL2 none ∈ lw_g) (hq : qlk t pc = some (.invokespecial idx, 3)) (hst : st0 = av.reverse ++ vr a :: st) (hd : d2 < d) (hm : maxL2 ≤ 40) (hcat : Nat.ble (stc st) 8 = true) (hk : k + mc2 ≤ mc) (hn : n + ms2 ≤ ms) (hP : P w) (kk : ∀ (w' : Wo), Q w none w' → g (k + mc2) (n + ms2) w' (pc + 3) lv st) (hQn : ∀ r w', Q w r w' → r = none) : g k n w pc lv st0 := by
  obtain ⟨p, e, s, m, args, below, meth, c, A, hx, hb, ht, hml, hr', hlk, hown, hts, hnm, hA, hAB, hB, hK, hSt, rfl⟩ := M
  subst hst
  intro H locs ls hPw hD hS hl2
  have hM := hc w H.size hP
  obtain ⟨g1, g2, g3, g4, g5⟩ := hl
  have hcb : CallB (rmq d mc ms) s args y.cls idx y2 cc2 maxL2 none (.code y2 cc2 maxL2 none :: lw_g) (rmq d2 mc2 ms2) mc2 ms2 av.length := callB_of av.length hts (lw_g_goodIn hcd) rfl rfl rfl (hts _ g3) (hts _ g1) g5 ⟨hd, by show 8 + (maxL2 + 11) + 64 * d2 ≤ 64 * d; omega⟩
  have hrun := va_runI (cells := k) (slots := n) (H := H) (locs := locs) (l := l) (p := p) (e := e) (below := below) (meth := meth) (g := F0 m pc ls ((av.reverse ++ vr a :: st).map qv)) (rest := st.map qv) (As := av.map qv) (R := rmq d mc ms) (b := a) ⟨hx, hb, hml, hown, hts⟩ hM ⟨hcb, g4, hts _ g2⟩ ⟨blind_Pc, fun U hU hW => ⟨rfl, by rw [hU], WU_in hPw hD hS hAB hB hK hSt hU hW⟩⟩ rfl (by simp) hl2.2.1 (by simp [List.map_append, List.map_reverse, qv, va_rf]) (by rw [stc_eq]; exact (by show 2 * 0 + stc st ≤ 8; have := Nat.le_of_ble_eq_true hcat; omega)) (qdec ht hq) ⟨hk, hn⟩
  have hfree : ∀ q, va_A (w.map (qm G)) H.size q → A q := fun q h => by
    rcases h with ⟨j, e2, h⟩ | h
    · exact hD.2 j _ h
    · exact hA q (Nat.le_trans hS.1 h)
  refine qcall (av := args) (Q2 := Q w) (A1 := va_A (w.map (qm G)) H.size) hrun hS (fun q _ h => hfree q h) hfree (fun r w' t2 H1 locs1 e1 hv hQ hW hD1 hS1 => ?_)
  have hr0 := hQn r w' hQ
  subst hr0
  exact kk w' hQ H1 locs1 ls (by rw [← e1]; exact hW.1) (hD1.weaken (fun _ q _ h => hfree q.1 h)) hS1 hl2
end QHEAP
