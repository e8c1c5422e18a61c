theorem qI {z : Int} (h : -2147483648 ≤ z ∧ z ≤ 2147483647) : inI z := h
theorem qL {z : Int} (h : -9223372036854775808 ≤ z ∧ z ≤ 9223372036854775807) : inL z := h
/-- the locals at a method's entry -/
def lvo : List AV → Lo
  | [] => []
  | v :: vs => bif isL v then some v :: none :: lvo vs else some v :: lvo vs
theorem qp_rep : ∀ (k i : Nat), qp i (List.replicate k (none : Option AV)) = []
  | 0, _ => rfl
  | k + 1, i => qp_rep k (i + 1)
theorem qp_app_none : ∀ (a : Lo) (k i : Nat), qp i (a ++ List.replicate k none) = qp i a
  | [], k, i => qp_rep k i
  | none :: a, k, i => qp_app_none a k (i + 1)
  | some v :: a, k, i => by
    show (i, qv v) :: qp (i + 1) (a ++ List.replicate k none) = (i, qv v) :: qp (i + 1) a
    rw [qp_app_none a k (i + 1)]
theorem qp_lvo : ∀ (av : List AV) (i : Nat), qp i (lvo av) = lv_args i (av.map qv)
  | [], _ => rfl
  | v :: vs, i => by
    have hc := qv_cat v
    unfold lvo
    cases hL : isL v with
    | true =>
      rw [if_pos hL] at hc
      show (i, qv v) :: qp (i + 1 + 1) (lvo vs) = (i, qv v) :: lv_args (if (qv v).category = 2 then i + 2 else i + 1) (vs.map qv)
      rw [if_pos hc, qp_lvo vs (i + 1 + 1)]
    | false =>
      rw [if_neg (by rw [hL]; decide)] at hc
      show (i, qv v) :: qp (i + 1) (lvo vs) = (i, qv v) :: lv_args (if (qv v).category = 2 then i + 2 else i + 1) (vs.map qv)
      rw [if_neg (by rw [hc]; decide), qp_lvo vs (i + 1)]
theorem lvo_len : ∀ (av : List AV), (lvo av).length = (lg_sl (av.map qv)).length
  | [] => rfl
  | v :: vs => by
    have hc := qv_cat v
    have ih := lvo_len vs
    unfold lvo
    have e : lg_sl ((v :: vs).map qv) = (if (qv v).category = 2 then [Slot.val (qv v), Slot.second] else [Slot.val (qv v)]) ++ lg_sl (vs.map qv) := rfl
    rw [e, List.length_append, ← ih]
    cases hL : isL v with
    | true =>
      rw [if_pos hL] at hc
      rw [if_pos hc]
      simp
      omega
    | false =>
      rw [if_neg (by rw [hL]; decide)] at hc
      rw [if_neg (by rw [hc]; decide)]
      simp
      omega
theorem Ctr.of {l : Launch} {G : GT} {y : MethodName} {cc : ByteArray} {t : Tab} {maxL : Nat} {ret : Option FieldType} {d mc ms : Nat} {av : List AV} {P : Wo → Prop} {Q : Wo → Option AV → Wo → Prop} {lv0 : Lo} (hy : plainName y.cls = true) (ht : t.all (fun q => decide (decode cc q.1 = .ok q.2)) = true) (hlv : lvo av ++ List.replicate (maxL - (lvo av).length) none = lv0) (hle : Nat.ble (lvo av).length maxL = true)
    (body : ∀ (w : Wo) (g : gF), P w → Mach l G y cc t maxL ret d mc ms (Q w) g → g 0 0 w 0 lv0 []) : Ctr l G y cc maxL ret d mc ms av P Q := by
  intro w sz hPw
  refine Met.ofW (cc := cc) (maxL := maxL) (ret := ret) hy rfl ?_
  intro p e s m args below meth c s₁ B hml hv
  obtain ⟨rfl, hsz, hW1, hW2, hW3, hW4, hW5⟩ := hv
  subst hsz
  have hx := B.exec
  have hb := B.bytes
  have hr := B.returns
  have hts := atoms_spec (ws := .code y cc maxL ret :: lw_g) B.pre
  have hown := findClass_of_methodNamed B.named
  have hlocks := B.notSynchronized
  have hnm : meth.name = y.name := (name_of_methodNamed B.named B.method).1
  have hD : va_D (va_A (w.map (qm G)) s.heap.size) (w.map (qm G)) := hW2.self
  have hAB : ∀ q : Nat, va_A (w.map (qm G)) s.heap.size q → gB G ≤ q := fun q h => by
    rcases h with ⟨k, e2, h⟩ | h
    · exact hW2.2 k _ h
    · exact Nat.le_trans hW3 h
  have hle2 := Nat.le_of_ble_eq_true hle
  have K := body w (GG l G p e (rmq d mc ms) s m (av.map qv).toArray below meth c (va_A (w.map (qm G)) s.heap.size) maxL (MQ below (QQ G (Q w) (va_A (w.map (qm G)) s.heap.size)) (av.map qv).toArray s mc ms (va_A (w.map (qm G)) s.heap.size))) hPw ⟨p, e, s, m, _, below, meth, c, va_A (w.map (qm G)) s.heap.size, hx, hb, ht, hml, hr, hlocks, hown, fun q hq => hts q (List.mem_cons_of_mem _ hq), hnm, fun q h => Or.inr h, hAB, hW3, hW4, hW5, rfl⟩
  rw [lg_entry_eq]
  have hl := lv_entry (av.map qv) (n := maxL) (by rw [← lvo_len]; exact hle2)
  refine K s.heap [] _ hW1 hD va_S.rf ⟨?_, ?_⟩
  · rw [← hlv, List.length_append, List.length_replicate]
    omega
  · rw [← hlv, qp_app_none, qp_lvo]
    exact hl
theorem Ctr.mono {l : Launch} {G : GT} {y : MethodName} {cc : ByteArray} {maxL : Nat} {ret : Option FieldType} {d mc ms : Nat} {av : List AV} {P P2 : Wo → Prop} {Q Q2 : Wo → Option AV → Wo → Prop} (h : Ctr l G y cc maxL ret d mc ms av P Q) (hP : ∀ w, P2 w → P w) (hQ : ∀ w r w', P2 w → Q w r w' → Q2 w r w') : Ctr l G y cc maxL ret d mc ms av P2 Q2 := by
  intro w sz h2 p e ha hc hk s m args below hf hS hPc hK
  obtain ⟨n, o, a1, a2, a3, ⟨⟨⟨r, w', h4, h5, h6⟩, h7⟩, h8⟩⟩ := h w sz (hP w h2) p e ha hc hk s m args below hf hS hPc hK
  exact ⟨n, o, a1, a2, a3, ⟨⟨⟨r, w', h4, hQ w r w' h2 h5, h6⟩, h7⟩, h8⟩⟩
/-- locals that are forgotten -/
def msk : List Bool → Lo → Lo
  | true :: m, _ :: t => none :: msk m t
  | false :: m, x :: t => x :: msk m t
  | _, t => t
theorem msk_len : ∀ (m : List Bool) (lv : Lo), (msk m lv).length = lv.length
  | [], lv => by unfold msk; rfl
  | true :: m, [] => rfl
  | false :: m, [] => rfl
  | true :: m, x :: t => congrArg Nat.succ (msk_len m t)
  | false :: m, x :: t => congrArg Nat.succ (msk_len m t)
theorem msk_get : ∀ (m : List Bool) (lv : Lo) (i : Nat) (v : AV), (msk m lv)[i]? = some (some v) → lv[i]? = some (some v)
  | [], lv, i, v, h => by unfold msk at h; exact h
  | true :: m, [], i, v, h => h
  | false :: m, [], i, v, h => h
  | true :: m, x :: t, 0, v, h => by cases h
  | true :: m, x :: t, i + 1, v, h => msk_get m t i v h
  | false :: m, x :: t, 0, v, h => h
  | false :: m, x :: t, i + 1, v, h => msk_get m t i v h
theorem Lh_msk {nL : Nat} {ls : Array Slot} {lv : Lo} (m : List Bool) (h : Lh nL ls lv) : Lh nL ls (msk m lv) := by
  refine ⟨(msk_len m lv).trans h.1, h.2.1, h.2.2.1, fun q hq => ?_⟩
  obtain ⟨j, v, h1, h2⟩ := (qp_mem _ 0 q).mp hq
  exact h.2.2.2 q ((qp_mem _ 0 q).mpr ⟨j, v, msk_get m lv j v h1, h2⟩)
section QMATH
variable {l : Launch} {G : GT} {y : MethodName} {cc : ByteArray} {t : Tab} {nL : Nat} {ret : Option FieldType} {d mc ms : Nat} {Qp : Option AV → Wo → Prop} {g : gF}
variable {k n : Nat} {w : Wo} {pc pc' tgt : Nat} {lv lv' : Lo} {st st' : List AV} {off x z : Int} {a : Nat}
theorem Mach.mmax {idx : Nat} (M : Mach l G y cc t nL ret d mc ms Qp g) (hl : CLS y.cls idx yJ9_max_7cf53 2) (hq : qlk t pc = some (.invokestatic idx, 3)) (hx1 : inI x) (hz1 : inI z) (hd : 0 < d) (hk : k ≤ mc) (hn : n ≤ ms) (hcat : Nat.ble (stc st) 8 = true) (kk : g k n w (pc + 3) lv (vi (max x z) :: st)) : g k n w pc lv (vi z :: vi x :: st) := by
  obtain ⟨p, e, s, m, args, below, meth, c, A, hx, hb, ht, hml, hr', hlk, hown, hts, hnm, hA, hAB, hB, hK, hSt, rfl⟩ := M
  obtain ⟨g1, g2, g3, -⟩ := hl
  intro H locs ls hP hD hS hl2
  have hcat2 := Nat.le_of_ble_eq_true hcat
  refine va_mmax hx hb (hml.trans hl2.2.1.symm) hown (hts _ g1) (hts _ g2) (hts _ g3) (hts _ cd_J9_max_7cf53) (by show 1 ≤ d; omega) (by rw [stc_eq]; show stc st + 13 ≤ 64 * d; omega) hk hn (qdec ht hq) ?_
  have e1 := kk H locs ls hP hD hS hl2
  have e2 : iI (max x z) = if iI x < iI z then iI z else iI x := by
    by_cases h : x < z
    · rw [if_pos ((iI_lt hx1 hz1).mpr h)]; congr 1; omega
    · rw [if_neg (fun q => h ((iI_lt hx1 hz1).mp q))]; congr 1; omega
  rw [List.map_cons, show qv (vi (max x z)) = .int (iI (max x z)) from rfl, e2] at e1
  exact e1
theorem Mach.mmin {idx : Nat} (M : Mach l G y cc t nL ret d mc ms Qp g) (hl : CLS y.cls idx yJ9_min_7cf53 2) (hq : qlk t pc = some (.invokestatic idx, 3)) (hx1 : inI x) (hz1 : inI z) (hd : 0 < d) (hk : k ≤ mc) (hn : n ≤ ms) (hcat : Nat.ble (stc st) 8 = true) (kk : g k n w (pc + 3) lv (vi (min x z) :: st)) : g k n w pc lv (vi z :: vi x :: st) := by
  obtain ⟨p, e, s, m, args, below, meth, c, A, hx, hb, ht, hml, hr', hlk, hown, hts, hnm, hA, hAB, hB, hK, hSt, rfl⟩ := M
  obtain ⟨g1, g2, g3, -⟩ := hl
  intro H locs ls hP hD hS hl2
  have hcat2 := Nat.le_of_ble_eq_true hcat
  refine va_mmin hx hb (hml.trans hl2.2.1.symm) hown (hts _ g1) (hts _ g2) (hts _ g3) (hts _ cd_J9_min_7cf53) (by show 1 ≤ d; omega) (by rw [stc_eq]; show stc st + 13 ≤ 64 * d; omega) hk hn (qdec ht hq) ?_
  have e1 := kk H locs ls hP hD hS hl2
  have e2 : iI (min x z) = if iI z < iI x then iI z else iI x := by
    by_cases h : z < x
    · rw [if_pos ((iI_lt hz1 hx1).mpr h)]; congr 1; omega
    · rw [if_neg (fun q => h ((iI_lt hz1 hx1).mp q))]; congr 1; omega
  rw [List.map_cons, show qv (vi (min x z)) = .int (iI (min x z)) from rfl, e2] at e1
  exact e1
theorem Mach.fgt (M : Mach l G y cc t nL ret d mc ms Qp g) (mk : List Bool) (kk : g k n w pc (msk mk lv) st) : g k n w pc lv st := by
  obtain ⟨p, e, s, m, args, below, meth, c, A, hx, hb, ht, hml, hr', hlk, hown, hts, hnm, hA, hAB, hB, hK, hSt, rfl⟩ := M
  intro H locs ls hP hD hS hl
  exact kk H locs ls hP hD hS (Lh_msk mk hl)
end QMATH
