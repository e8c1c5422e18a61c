/-! the class: cells are copied -/
set_option maxRecDepth 20000 in
theorem ac_X4_31 : Cond.methodLink RX4 31 arraycopyName ∈ lw_g := lw_g_in (List.mem_of_getElem? (i := 773) (by decide +kernel)) rfl
set_option maxRecDepth 20000 in
theorem ac_X9_82 : Cond.methodLink RX9 82 arraycopyName ∈ lw_g := lw_g_in (List.mem_of_getElem? (i := 1257) (by decide +kernel)) rfl
set_option maxRecDepth 20000 in
theorem ac_sta : Cond.static arraycopyName ∈ lw_g := lw_g_in (List.mem_of_getElem? (i := 687) (by decide +kernel)) rfl
set_option maxRecDepth 20000 in
theorem ac_nat : Cond.native arraycopyName ∈ lw_g := lw_g_in (List.mem_of_getElem? (i := 688) (by decide +kernel)) rfl
set_option maxRecDepth 20000 in
theorem ac_ini : Cond.initialized "java/lang/System" ∈ lw_g := lw_g_in (List.mem_of_getElem? (i := 140) (by decide +kernel)) rfl
def cpN (f h : Nat → Int) (i j m : Nat) : Nat → Int := fun q => if j ≤ q ∧ q < j + m then f (i + (q - j)) else h q
theorem iI_n0 {i : Nat} (h : i < 2147483648) : ¬ iI (i : Int) < 0 := fun q => absurd ((iI_lt (a := (i : Int)) (b := 0) ⟨by omega, by omega⟩ inI_0).mp q) (by omega)
section QACO
variable {l : Launch} {G : GT} {y : MethodName} {cc : ByteArray} {t : Tab} {nL : Nat} {ret : Option FieldType} {d mc ms : Nat} {Qp : Option AV → Wo → Prop} {g : gF}
variable {k n : Nat} {w : Wo} {pc : Nat} {lv : Lo} {st : List AV} {a : Nat}
theorem Mach.acopy {idx a0 n0 n1 : Nat} {f h : Nat → Int} (i j mm : Nat) (M : Mach l G y cc t nL ret d mc ms Qp g) (hl : Cond.methodLink y.cls idx arraycopyName ∈ lw_g) (hq : qlk t pc = some (.invokestatic idx, 3)) (he0 : lk w a0 = some (Ar 0 n0 f)) (he1 : lk w a = some (Ar 0 n1 h)) (h4 : i + mm ≤ n0) (h5 : j + mm ≤ n1) (hN0 : n0 < 2147483648) (hN1 : n1 < 2147483648) (hd : 0 < d) (hcat : Nat.ble (stc st) 8 = true)
    (kk : g k n (up w a (Ar 0 n1 (cpN f h i j mm))) (pc + 3) lv st) : g k n w pc lv (vi (mm : Nat) :: vi (j : Nat) :: vr a :: vi (i : Nat) :: vr a0 :: st) := by
  obtain ⟨p, e, s, m, args, below, meth, c, A, hx, hb, ht, hml, hr', hlk, hown, hts, hnm, hA, hAB, hB, hK, hSt, rfl⟩ := M
  intro H locs ls hP hD hS hl2
  have hcat2 := Nat.le_of_ble_eq_true hcat
  obtain ⟨p0, hp0⟩ := lk_place he0
  obtain ⟨p1, hp1⟩ := lk_place he1
  refine va_copyi hx hb (hml.trans hl2.2.1.symm) hown (hts _ hl) (hts _ ac_nat) (hts _ ac_sta) (hts _ ac_ini) hK hP hD hS p0 p1 0 0 (f := fun k => iI (f k)) (g := fun k => iI (h k)) (n0 := n0) (n1 := n1) (qm_place hp0) (qm_place hp1) rfl rfl rfl (iI_n0 (by omega)) (iI_n0 (by omega)) (iI_n0 (by omega)) (by rw [iI_clN (by omega), iI_clN (by omega)]; exact h4) (by rw [iI_clN (by omega), iI_clN (by omega)]; exact h5) (fun _ _ => rfl) (by show 1 ≤ d; omega) (by rw [stc_eq]; show stc st + 18 ≤ 64 * d; omega) (qdec ht hq) (fun H1 locs1 hP1 hD1 hS1 => ?_)
  have es : (w.map (qm G)).set p1 (a, .inl (gA G 0, n1, .inl (va_cpy (fun k => iI (f k)) (fun k => iI (h k)) (iI (i : Int)).toNatClampNeg (iI (j : Int)).toNatClampNeg (iI (mm : Int)).toNatClampNeg))) = (up w a (Ar 0 n1 (cpN f h i j mm))).map (qm G) := by
    have ef : (va_cpy (fun k => iI (f k)) (fun k => iI (h k)) i j mm) = (fun k => iI (cpN f h i j mm k)) := by
      funext q
      unfold va_cpy cpN
      split <;> rfl
    rw [← up_set hD hp1, iI_clN (by omega), iI_clN (by omega), iI_clN (by omega), ef]
    rfl
  rw [es] at hP1 hD1
  exact kk H1 locs1 ls hP1 hD1 hS1 hl2
end QACO
/-- an object of rows: so wide, so many at the most, these -/
def isRw (p q wd cap : Nat) (L : List Rw) (w : Wo) : Prop := lk w p = some (Ob 3 [vi (wd : Nat), vr q, vi ((L.length : Nat) : Int)]) ∧ ∃ f, lk w q = some (Ar 0 (cap * wd) f) ∧ L.length ≤ cap ∧ ∀ i k : Nat, i < L.length → k < wd → f (wd * i + k) = gR L i k
/-- nothing but two cells is changed -/
def Frm (p q : Nat) (w w' : Wo) : Prop := ∀ a : Nat, a ≠ p → a ≠ q → lk w' a = lk w a
theorem Frm.rf {p q : Nat} {w : Wo} : Frm p q w w := fun _ _ _ => rfl
theorem Frm.u1 {p q : Nat} {w w' : Wo} {c : Ce} (h : Frm p q w w') : Frm p q w (up w' p c) := fun a h1 h2 => (lk_up_n h1).trans (h a h1 h2)
theorem Frm.u2 {p q : Nat} {w w' : Wo} {c : Ce} (h : Frm p q w w') : Frm p q w (up w' q c) := fun a h1 h2 => (lk_up_n h2).trans (h a h1 h2)
theorem gR_set {L : List Rw} {i j : Nat} {r : Rw} (hi : i < L.length) : gR (L.set i r) j = if j = i then r else gR L j := by
  unfold gR
  rw [List.getD_eq_getElem?_getD, List.getD_eq_getElem?_getD]
  by_cases e : j = i
  · subst e
    rw [if_pos rfl, List.getElem?_set_self hi]
    rfl
  · rw [if_neg e, List.getElem?_set_ne (Ne.symm e)]
/-- a cell of a row anew -/
def lSet (L : List Rw) (i k : Nat) (v : Int) : List Rw := L.set i (uN (gR L i) k v)
theorem lSet_len {L : List Rw} {i k : Nat} {v : Int} : (lSet L i k v).length = L.length := by unfold lSet; rw [List.length_set]

set_option maxHeartbeats 4000000 in
set_option maxRecDepth 100000 in
theorem kX4_get7 (l : Launch) (G : GT) (p q cap : Nat) (hcap : cap ≤ 100) (L : List Rw) (i : Int) (k : Int) (hi : -2147483648 ≤ i ∧ i ≤ 2147483647) (hk : -2147483648 ≤ k ∧ k ≤ 2147483647) : Ctr l G yX4_get cX4_get 4 ((Option.some Jvm.ClassFile.FieldType.int)) 1 0 0 [vr p, vi i, vi k] (fun w => isRw p q 7 cap L w) (fun w r w' => r = some (vi (if (0 ≤ i ∧ i < ((L.length : Nat) : Int)) ∧ 0 ≤ k ∧ k < 7 then gR L i.toNat k.toNat else -2)) ∧ w' = w) := by
  refine Ctr.of (t := tX4_get) (lv0 := [some (vr p), some (vi i), some (vi k), none]) (by decide +kernel) tX4_get_ok rfl rfl (fun w g hP M => ?_)
  have hP0 := hP
  obtain ⟨hO, f, hC, hlc, hf⟩ := hP
  have hpq : p ≠ q := fun e => by rw [e, hC] at hO; cases hO
  have hqp : q ≠ p := fun e => hpq e.symm
  refine M.run 1 (pc' := 1) (lv' := [some (vr p), some (vi i), some (vi k), none]) (st' := [vi i]) rfl ?_
  refine M.if_lt (tgt := 24) rfl (qI (by omega)) (by decide) (fun h1 => ?_) (fun h1 => ?_)
  · skip
    refine M.run 1 (pc' := 26) (lv' := [some (vr p), some (vi i), some (vi k), none]) (st' := [vi (-2)]) rfl ?_
    exact M.iret rfl (Nat.zero_le _) (Nat.zero_le _) ⟨reI (if_neg (by omega)).symm, rfl⟩
  · skip
    refine M.run 2 (pc' := 6) (lv' := [some (vr p), some (vi i), some (vi k), none]) (st' := [vr p, vi i]) rfl ?_
    refine M.get fl_X4_25 rfl hO (kf := 2) (v := vi ((L.length : Nat) : Int)) rfl ?_
    refine M.icmp_ge (tgt := 24) rfl (qI (by omega)) (qI (by omega)) (by decide) (fun h9 => ?_) (fun h9 => ?_)
    · skip
      refine M.run 1 (pc' := 26) (lv' := [some (vr p), some (vi i), some (vi k), none]) (st' := [vi (-2)]) rfl ?_
      exact M.iret rfl (Nat.zero_le _) (Nat.zero_le _) ⟨reI (if_neg (by omega)).symm, rfl⟩
    · skip
      refine M.run 1 (pc' := 13) (lv' := [some (vr p), some (vi i), some (vi k), none]) (st' := [vi k]) rfl ?_
      refine M.if_lt (tgt := 24) rfl (qI (by omega)) (by decide) (fun h13 => ?_) (fun h13 => ?_)
      · skip
        refine M.run 1 (pc' := 26) (lv' := [some (vr p), some (vi i), some (vi k), none]) (st' := [vi (-2)]) rfl ?_
        exact M.iret rfl (Nat.zero_le _) (Nat.zero_le _) ⟨reI (if_neg (by omega)).symm, rfl⟩
      · skip
        refine M.run 2 (pc' := 18) (lv' := [some (vr p), some (vi i), some (vi k), none]) (st' := [vr p, vi k]) rfl ?_
        refine M.get fl_X4_15 rfl hO (kf := 0) (v := vi ((7 : Nat) : Int)) rfl ?_
        refine M.icmp_lt (tgt := 27) rfl (qI (by omega)) (qI (by omega)) (by decide) (fun h21 => ?_) (fun h21 => ?_)
        · skip
          have hall : (0 ≤ i ∧ i < ((L.length : Nat) : Int)) ∧ 0 ≤ k ∧ k < 7 := by omega
          obtain ⟨e, rfl⟩ := Int.eq_ofNat_of_zero_le (show (0 : Int) ≤ i from hall.1.1)
          obtain ⟨c, rfl⟩ := Int.eq_ofNat_of_zero_le (show (0 : Int) ≤ k from hall.2.1)
          refine M.run 2 (pc' := 29) (lv' := [some (vr p), some (vi ((e : Nat) : Int)), some (vi ((c : Nat) : Int)), none]) (st' := [vr p, vi ((e : Nat) : Int)]) rfl ?_
          refine M.get fl_X4_15 rfl hO (kf := 0) (v := vi ((7 : Nat) : Int)) rfl ?_
          refine M.run 5 (pc' := 37) (lv' := [some (vr p), some (vi ((e : Nat) : Int)), some (vi ((c : Nat) : Int)), some (vi ((((e : Nat) : Int) * ((7 : Nat) : Int)) + ((c : Nat) : Int)))]) (st' := [vi ((((e : Nat) : Int) * ((7 : Nat) : Int)) + ((c : Nat) : Int))]) rfl ?_
          refine M.if_lt (tgt := 58) rfl (qI (by omega)) (by decide) (fun h37 => ?_) (fun h37 => ?_)
          · skip
            refine M.run 1 (pc' := 60) (lv' := [some (vr p), some (vi ((e : Nat) : Int)), some (vi ((c : Nat) : Int)), some (vi ((((e : Nat) : Int) * ((7 : Nat) : Int)) + ((c : Nat) : Int)))]) (st' := [vi (-2)]) rfl ?_
            exact M.iret rfl (Nat.zero_le _) (Nat.zero_le _) ⟨reI (if_neg (by omega)).symm, rfl⟩
          · skip
            refine M.run 2 (pc' := 42) (lv' := [some (vr p), some (vi ((e : Nat) : Int)), some (vi ((c : Nat) : Int)), some (vi ((((e : Nat) : Int) * ((7 : Nat) : Int)) + ((c : Nat) : Int)))]) (st' := [vr p, vi ((((e : Nat) : Int) * ((7 : Nat) : Int)) + ((c : Nat) : Int))]) rfl ?_
            refine M.get fl_X4_21 rfl hO (kf := 1) (v := vr q) rfl ?_
            refine M.alen rfl hC (by decide) ?_
            refine M.icmp_ge (tgt := 58) rfl (qI (by omega)) (qI (by omega)) (by decide) (fun h46 => ?_) (fun h46 => ?_)
            · skip
              refine M.run 1 (pc' := 60) (lv' := [some (vr p), some (vi ((e : Nat) : Int)), some (vi ((c : Nat) : Int)), some (vi ((((e : Nat) : Int) * ((7 : Nat) : Int)) + ((c : Nat) : Int)))]) (st' := [vi (-2)]) rfl ?_
              exact M.iret rfl (Nat.zero_le _) (Nat.zero_le _) ⟨reI (if_neg (by omega)).symm, rfl⟩
            · skip
              refine M.run 1 (pc' := 50) (lv' := [some (vr p), some (vi ((e : Nat) : Int)), some (vi ((c : Nat) : Int)), some (vi ((((e : Nat) : Int) * ((7 : Nat) : Int)) + ((c : Nat) : Int)))]) (st' := [vr p]) rfl ?_
              refine M.get fl_X4_21 rfl hO (kf := 1) (v := vr q) rfl ?_
              refine M.run 1 (pc' := 54) (lv' := [some (vr p), some (vi ((e : Nat) : Int)), some (vi ((c : Nat) : Int)), some (vi ((((e : Nat) : Int) * ((7 : Nat) : Int)) + ((c : Nat) : Int)))]) (st' := [vi ((((e : Nat) : Int) * ((7 : Nat) : Int)) + ((c : Nat) : Int)), vr q]) rfl ?_
              refine M.ialdN (e * 7 + c) rfl hC (by omega) (by omega) ?_
              refine M.run 1 (pc' := 60) (lv' := [some (vr p), some (vi ((e : Nat) : Int)), some (vi ((c : Nat) : Int)), some (vi ((((e : Nat) : Int) * ((7 : Nat) : Int)) + ((c : Nat) : Int)))]) (st' := [vi (f (e * 7 + c))]) rfl ?_
              exact M.iret rfl (Nat.zero_le _) (Nat.zero_le _) ⟨reI (by rw [if_pos hall, show e * 7 + c = 7 * e + c by omega]; exact hf e c (by omega) (by omega)), rfl⟩
        · skip
          refine M.run 1 (pc' := 26) (lv' := [some (vr p), some (vi i), some (vi k), none]) (st' := [vi (-2)]) rfl ?_
          exact M.iret rfl (Nat.zero_le _) (Nat.zero_le _) ⟨reI (if_neg (by omega)).symm, rfl⟩
set_option maxHeartbeats 4000000 in
set_option maxRecDepth 100000 in
theorem kX4_countOrCell7 (l : Launch) (G : GT) (p q cap : Nat) (hcap : cap ≤ 100) (L : List Rw) (i : Int) (k : Int) (hi : -2147483648 ≤ i ∧ i ≤ 2147483647) (hk : -2147483648 ≤ k ∧ k ≤ 2147483647) : Ctr l G yX4_countOrCell cX4_countOrCell 3 ((Option.some Jvm.ClassFile.FieldType.int)) 2 0 0 [vr p, vi i, vi k] (fun w => isRw p q 7 cap L w) (fun w r w' => r = some (vi (if i = -1 then ((L.length : Nat) : Int) else if (0 ≤ i ∧ i < ((L.length : Nat) : Int)) ∧ 0 ≤ k ∧ k < 7 then gR L i.toNat k.toNat else -2)) ∧ w' = w) := by
  refine Ctr.of (t := tX4_countOrCell) (lv0 := [some (vr p), some (vi i), some (vi k)]) (by decide +kernel) tX4_countOrCell_ok rfl rfl (fun w g hP M => ?_)
  have hP0 := hP
  obtain ⟨hO, f, hC, hlc, hf⟩ := hP
  have hpq : p ≠ q := fun e => by rw [e, hC] at hO; cases hO
  have hqp : q ≠ p := fun e => hpq e.symm
  refine M.run 2 (pc' := 2) (lv' := [some (vr p), some (vi i), some (vi k)]) (st' := [vi (-1), vi i]) rfl ?_
  refine M.icmp_ne (tgt := 12) rfl (qI (by omega)) (qI (by decide)) (by decide) (fun h2 => ?_) (fun h2 => ?_)
  · skip
    refine M.run 3 (pc' := 15) (lv' := [some (vr p), some (vi i), some (vi k)]) (st' := [vi k, vi i, vr p]) rfl ?_
    refine M.callV (kX4_get7 l G p q cap hcap L i k (by omega) (by omega)) cv_X4_28 cd_X4_get rfl (st := []) rfl hO (by decide) (by decide) rfl (Nat.zero_le _) (Nat.zero_le _) hP0 (fun r1 w2 q3 => ?_)
    rw [q3.1, q3.2]
    exact M.iret rfl (Nat.zero_le _) (Nat.zero_le _) ⟨reI (if_neg (by omega)).symm, rfl⟩
  · skip
    refine M.run 1 (pc' := 6) (lv' := [some (vr p), some (vi i), some (vi k)]) (st' := [vr p]) rfl ?_
    refine M.get fl_X4_25 rfl hO (kf := 2) (v := vi ((L.length : Nat) : Int)) rfl ?_
    refine M.run 1 (pc' := 18) (lv' := [some (vr p), some (vi i), some (vi k)]) (st' := [vi ((L.length : Nat) : Int)]) rfl ?_
    exact M.iret rfl (Nat.zero_le _) (Nat.zero_le _) ⟨reI (if_pos (by omega)).symm, rfl⟩
set_option maxHeartbeats 4000000 in
set_option maxRecDepth 100000 in
theorem kX4_countOf7 (l : Launch) (G : GT) (p q cap : Nat) (hcap : cap ≤ 100) (L : List Rw) (c : Nat) (hc : c < 7) (v : Int) (hv : -2147483648 ≤ v ∧ v ≤ 2147483647) (hb : ∀ i : Nat, i < L.length → -2147483648 ≤ gR L i c ∧ gR L i c ≤ 2147483647) : Ctr l G yX4_countOf cX4_countOf 5 ((Option.some Jvm.ClassFile.FieldType.int)) 2 0 0 [vr p, vi ((c : Nat) : Int), vi v] (fun w => isRw p q 7 cap L w) (fun w r w' => r = some (vi ((mCnt (fun i => decide (gR L i c = v)) L.length : Nat) : Int)) ∧ w' = w) := by
  refine Ctr.of (t := tX4_countOf) (lv0 := [some (vr p), some (vi ((c : Nat) : Int)), some (vi v), none, none]) (by decide +kernel) tX4_countOf_ok rfl rfl (fun w g hP M => ?_)
  have hP0 := hP
  obtain ⟨hO, f, hC, hlc, hf⟩ := hP
  have hpq : p ≠ q := fun e => by rw [e, hC] at hO; cases hO
  have hqp : q ≠ p := fun e => hpq e.symm
  refine M.run 4 (pc' := 5) (lv' := [some (vr p), some (vi ((c : Nat) : Int)), some (vi v), some (vi 0), some (vi 0)]) (st' := []) rfl ?_
  have Lp5 : ∀ (N : Nat) (m : Nat) (i : Nat), (m = mCnt (fun i => decide (gR L i c = v)) i) → (i ≤ L.length) → L.length - i < N → g 0 0 w 5 [some (vr p), some (vi ((c : Nat) : Int)), some (vi v), some (vi ((m : Nat) : Int)), some (vi ((i : Nat) : Int))] [] := by
    intro N
    induction N with
    | zero => intro m i _ _ hN; exact absurd hN (Nat.not_lt_zero _)
    | succ N ih5 =>
      intro m i hm hi hN
      refine M.run 2 (pc' := 8) (lv' := [some (vr p), some (vi ((c : Nat) : Int)), some (vi v), some (vi ((m : Nat) : Int)), some (vi ((i : Nat) : Int))]) (st' := [vr p, vi ((i : Nat) : Int)]) rfl ?_
      refine M.get fl_X4_25 rfl hO (kf := 2) (v := vi ((L.length : Nat) : Int)) rfl ?_
      refine M.icmp_ge (tgt := 34) rfl (qI (by omega)) (qI (by omega)) (by decide) (fun h11 => ?_) (fun h11 => ?_)
      · skip
        refine M.run 1 (pc' := 35) (lv' := [some (vr p), some (vi ((c : Nat) : Int)), some (vi v), some (vi ((m : Nat) : Int)), some (vi ((i : Nat) : Int))]) (st' := [vi ((m : Nat) : Int)]) rfl ?_
        exact M.iret rfl (Nat.zero_le _) (Nat.zero_le _) ⟨reI (by rw [hm, show i = L.length by omega]), rfl⟩
      · skip
        have hbi := hb i (by omega)
        have hml := mCnt_le (fun i => decide (gR L i c = v)) i
        refine M.run 3 (pc' := 18) (lv' := [some (vr p), some (vi ((c : Nat) : Int)), some (vi v), some (vi ((m : Nat) : Int)), some (vi ((i : Nat) : Int))]) (st' := [vi ((c : Nat) : Int), vi ((i : Nat) : Int), vr p]) rfl ?_
        refine M.callV (kX4_get7 l G p q cap hcap L ((i : Nat) : Int) ((c : Nat) : Int) (by omega) (by omega)) cv_X4_28 cd_X4_get rfl (st := []) rfl hO (by decide) (by decide) rfl (Nat.zero_le _) (Nat.zero_le _) hP0 (fun r1 w2 q3 => ?_)
        rw [q3.1, q3.2]
        rw [show (if (0 ≤ ((i : Nat) : Int) ∧ ((i : Nat) : Int) < ((L.length : Nat) : Int)) ∧ 0 ≤ ((c : Nat) : Int) ∧ ((c : Nat) : Int) < 7 then gR L (((i : Nat) : Int)).toNat (((c : Nat) : Int)).toNat else -2) = gR L i c from if_pos (by omega)]
        refine M.run 1 (pc' := 22) (lv' := [some (vr p), some (vi ((c : Nat) : Int)), some (vi v), some (vi ((m : Nat) : Int)), some (vi ((i : Nat) : Int))]) (st' := [vi v, vi (gR L i c)]) rfl ?_
        refine M.icmp_ne (tgt := 28) rfl (qI (by omega)) (qI (by omega)) (by decide) (fun h22 => ?_) (fun h22 => ?_)
        · skip
          have hq : ¬ decide (gR L i c = v) = true := fun z => h22 (of_decide_eq_true z)
          refine M.run 2 (pc' := 5) (lv' := [some (vr p), some (vi ((c : Nat) : Int)), some (vi v), some (vi ((m : Nat) : Int)), some (vi (((i : Nat) : Int) + 1))]) (st' := []) rfl ?_
          exact ih5 m (i + 1) (by rw [hm]; exact (mCnt_n (p := fun i => decide (gR L i c = v)) (k := i) hq).symm) (by omega) (by omega)
        · skip
          have hq : decide (gR L i c = v) = true := decide_eq_true h22
          refine M.run 3 (pc' := 5) (lv' := [some (vr p), some (vi ((c : Nat) : Int)), some (vi v), some (vi (((m : Nat) : Int) + 1)), some (vi (((i : Nat) : Int) + 1))]) (st' := []) rfl ?_
          exact ih5 (m + 1) (i + 1) (by rw [hm]; exact (mCnt_y (p := fun i => decide (gR L i c = v)) (k := i) hq).symm) (by omega) (by omega)
  exact Lp5 _ 0 0 rfl (Nat.zero_le _) (Nat.lt_succ_self _)
set_option maxHeartbeats 4000000 in
set_option maxRecDepth 100000 in
theorem kX4_get9 (l : Launch) (G : GT) (p q cap : Nat) (hcap : cap ≤ 100) (L : List Rw) (i : Int) (k : Int) (hi : -2147483648 ≤ i ∧ i ≤ 2147483647) (hk : -2147483648 ≤ k ∧ k ≤ 2147483647) : Ctr l G yX4_get cX4_get 4 ((Option.some Jvm.ClassFile.FieldType.int)) 1 0 0 [vr p, vi i, vi k] (fun w => isRw p q 9 cap L w) (fun w r w' => r = some (vi (if (0 ≤ i ∧ i < ((L.length : Nat) : Int)) ∧ 0 ≤ k ∧ k < 9 then gR L i.toNat k.toNat else -2)) ∧ w' = w) := by
  refine Ctr.of (t := tX4_get) (lv0 := [some (vr p), some (vi i), some (vi k), none]) (by decide +kernel) tX4_get_ok rfl rfl (fun w g hP M => ?_)
  have hP0 := hP
  obtain ⟨hO, f, hC, hlc, hf⟩ := hP
  have hpq : p ≠ q := fun e => by rw [e, hC] at hO; cases hO
  have hqp : q ≠ p := fun e => hpq e.symm
  refine M.run 1 (pc' := 1) (lv' := [some (vr p), some (vi i), some (vi k), none]) (st' := [vi i]) rfl ?_
  refine M.if_lt (tgt := 24) rfl (qI (by omega)) (by decide) (fun h1 => ?_) (fun h1 => ?_)
  · skip
    refine M.run 1 (pc' := 26) (lv' := [some (vr p), some (vi i), some (vi k), none]) (st' := [vi (-2)]) rfl ?_
    exact M.iret rfl (Nat.zero_le _) (Nat.zero_le _) ⟨reI (if_neg (by omega)).symm, rfl⟩
  · skip
    refine M.run 2 (pc' := 6) (lv' := [some (vr p), some (vi i), some (vi k), none]) (st' := [vr p, vi i]) rfl ?_
    refine M.get fl_X4_25 rfl hO (kf := 2) (v := vi ((L.length : Nat) : Int)) rfl ?_
    refine M.icmp_ge (tgt := 24) rfl (qI (by omega)) (qI (by omega)) (by decide) (fun h9 => ?_) (fun h9 => ?_)
    · skip
      refine M.run 1 (pc' := 26) (lv' := [some (vr p), some (vi i), some (vi k), none]) (st' := [vi (-2)]) rfl ?_
      exact M.iret rfl (Nat.zero_le _) (Nat.zero_le _) ⟨reI (if_neg (by omega)).symm, rfl⟩
    · skip
      refine M.run 1 (pc' := 13) (lv' := [some (vr p), some (vi i), some (vi k), none]) (st' := [vi k]) rfl ?_
      refine M.if_lt (tgt := 24) rfl (qI (by omega)) (by decide) (fun h13 => ?_) (fun h13 => ?_)
      · skip
        refine M.run 1 (pc' := 26) (lv' := [some (vr p), some (vi i), some (vi k), none]) (st' := [vi (-2)]) rfl ?_
        exact M.iret rfl (Nat.zero_le _) (Nat.zero_le _) ⟨reI (if_neg (by omega)).symm, rfl⟩
      · skip
        refine M.run 2 (pc' := 18) (lv' := [some (vr p), some (vi i), some (vi k), none]) (st' := [vr p, vi k]) rfl ?_
        refine M.get fl_X4_15 rfl hO (kf := 0) (v := vi ((9 : Nat) : Int)) rfl ?_
        refine M.icmp_lt (tgt := 27) rfl (qI (by omega)) (qI (by omega)) (by decide) (fun h21 => ?_) (fun h21 => ?_)
        · skip
          have hall : (0 ≤ i ∧ i < ((L.length : Nat) : Int)) ∧ 0 ≤ k ∧ k < 9 := by omega
          obtain ⟨e, rfl⟩ := Int.eq_ofNat_of_zero_le (show (0 : Int) ≤ i from hall.1.1)
          obtain ⟨c, rfl⟩ := Int.eq_ofNat_of_zero_le (show (0 : Int) ≤ k from hall.2.1)
          refine M.run 2 (pc' := 29) (lv' := [some (vr p), some (vi ((e : Nat) : Int)), some (vi ((c : Nat) : Int)), none]) (st' := [vr p, vi ((e : Nat) : Int)]) rfl ?_
          refine M.get fl_X4_15 rfl hO (kf := 0) (v := vi ((9 : Nat) : Int)) rfl ?_
          refine M.run 5 (pc' := 37) (lv' := [some (vr p), some (vi ((e : Nat) : Int)), some (vi ((c : Nat) : Int)), some (vi ((((e : Nat) : Int) * ((9 : Nat) : Int)) + ((c : Nat) : Int)))]) (st' := [vi ((((e : Nat) : Int) * ((9 : Nat) : Int)) + ((c : Nat) : Int))]) rfl ?_
          refine M.if_lt (tgt := 58) rfl (qI (by omega)) (by decide) (fun h37 => ?_) (fun h37 => ?_)
          · skip
            refine M.run 1 (pc' := 60) (lv' := [some (vr p), some (vi ((e : Nat) : Int)), some (vi ((c : Nat) : Int)), some (vi ((((e : Nat) : Int) * ((9 : Nat) : Int)) + ((c : Nat) : Int)))]) (st' := [vi (-2)]) rfl ?_
            exact M.iret rfl (Nat.zero_le _) (Nat.zero_le _) ⟨reI (if_neg (by omega)).symm, rfl⟩
          · skip
            refine M.run 2 (pc' := 42) (lv' := [some (vr p), some (vi ((e : Nat) : Int)), some (vi ((c : Nat) : Int)), some (vi ((((e : Nat) : Int) * ((9 : Nat) : Int)) + ((c : Nat) : Int)))]) (st' := [vr p, vi ((((e : Nat) : Int) * ((9 : Nat) : Int)) + ((c : Nat) : Int))]) rfl ?_
            refine M.get fl_X4_21 rfl hO (kf := 1) (v := vr q) rfl ?_
            refine M.alen rfl hC (by decide) ?_
            refine M.icmp_ge (tgt := 58) rfl (qI (by omega)) (qI (by omega)) (by decide) (fun h46 => ?_) (fun h46 => ?_)
            · skip
              refine M.run 1 (pc' := 60) (lv' := [some (vr p), some (vi ((e : Nat) : Int)), some (vi ((c : Nat) : Int)), some (vi ((((e : Nat) : Int) * ((9 : Nat) : Int)) + ((c : Nat) : Int)))]) (st' := [vi (-2)]) rfl ?_
              exact M.iret rfl (Nat.zero_le _) (Nat.zero_le _) ⟨reI (if_neg (by omega)).symm, rfl⟩
            · skip
              refine M.run 1 (pc' := 50) (lv' := [some (vr p), some (vi ((e : Nat) : Int)), some (vi ((c : Nat) : Int)), some (vi ((((e : Nat) : Int) * ((9 : Nat) : Int)) + ((c : Nat) : Int)))]) (st' := [vr p]) rfl ?_
              refine M.get fl_X4_21 rfl hO (kf := 1) (v := vr q) rfl ?_
              refine M.run 1 (pc' := 54) (lv' := [some (vr p), some (vi ((e : Nat) : Int)), some (vi ((c : Nat) : Int)), some (vi ((((e : Nat) : Int) * ((9 : Nat) : Int)) + ((c : Nat) : Int)))]) (st' := [vi ((((e : Nat) : Int) * ((9 : Nat) : Int)) + ((c : Nat) : Int)), vr q]) rfl ?_
              refine M.ialdN (e * 9 + c) rfl hC (by omega) (by omega) ?_
              refine M.run 1 (pc' := 60) (lv' := [some (vr p), some (vi ((e : Nat) : Int)), some (vi ((c : Nat) : Int)), some (vi ((((e : Nat) : Int) * ((9 : Nat) : Int)) + ((c : Nat) : Int)))]) (st' := [vi (f (e * 9 + c))]) rfl ?_
              exact M.iret rfl (Nat.zero_le _) (Nat.zero_le _) ⟨reI (by rw [if_pos hall, show e * 9 + c = 9 * e + c by omega]; exact hf e c (by omega) (by omega)), rfl⟩
        · skip
          refine M.run 1 (pc' := 26) (lv' := [some (vr p), some (vi i), some (vi k), none]) (st' := [vi (-2)]) rfl ?_
          exact M.iret rfl (Nat.zero_le _) (Nat.zero_le _) ⟨reI (if_neg (by omega)).symm, rfl⟩
set_option maxHeartbeats 4000000 in
set_option maxRecDepth 100000 in
theorem kX4_countOrCell9 (l : Launch) (G : GT) (p q cap : Nat) (hcap : cap ≤ 100) (L : List Rw) (i : Int) (k : Int) (hi : -2147483648 ≤ i ∧ i ≤ 2147483647) (hk : -2147483648 ≤ k ∧ k ≤ 2147483647) : Ctr l G yX4_countOrCell cX4_countOrCell 3 ((Option.some Jvm.ClassFile.FieldType.int)) 2 0 0 [vr p, vi i, vi k] (fun w => isRw p q 9 cap L w) (fun w r w' => r = some (vi (if i = -1 then ((L.length : Nat) : Int) else if (0 ≤ i ∧ i < ((L.length : Nat) : Int)) ∧ 0 ≤ k ∧ k < 9 then gR L i.toNat k.toNat else -2)) ∧ w' = w) := by
  refine Ctr.of (t := tX4_countOrCell) (lv0 := [some (vr p), some (vi i), some (vi k)]) (by decide +kernel) tX4_countOrCell_ok rfl rfl (fun w g hP M => ?_)
  have hP0 := hP
  obtain ⟨hO, f, hC, hlc, hf⟩ := hP
  have hpq : p ≠ q := fun e => by rw [e, hC] at hO; cases hO
  have hqp : q ≠ p := fun e => hpq e.symm
  refine M.run 2 (pc' := 2) (lv' := [some (vr p), some (vi i), some (vi k)]) (st' := [vi (-1), vi i]) rfl ?_
  refine M.icmp_ne (tgt := 12) rfl (qI (by omega)) (qI (by decide)) (by decide) (fun h2 => ?_) (fun h2 => ?_)
  · skip
    refine M.run 3 (pc' := 15) (lv' := [some (vr p), some (vi i), some (vi k)]) (st' := [vi k, vi i, vr p]) rfl ?_
    refine M.callV (kX4_get9 l G p q cap hcap L i k (by omega) (by omega)) cv_X4_28 cd_X4_get rfl (st := []) rfl hO (by decide) (by decide) rfl (Nat.zero_le _) (Nat.zero_le _) hP0 (fun r1 w2 q3 => ?_)
    rw [q3.1, q3.2]
    exact M.iret rfl (Nat.zero_le _) (Nat.zero_le _) ⟨reI (if_neg (by omega)).symm, rfl⟩
  · skip
    refine M.run 1 (pc' := 6) (lv' := [some (vr p), some (vi i), some (vi k)]) (st' := [vr p]) rfl ?_
    refine M.get fl_X4_25 rfl hO (kf := 2) (v := vi ((L.length : Nat) : Int)) rfl ?_
    refine M.run 1 (pc' := 18) (lv' := [some (vr p), some (vi i), some (vi k)]) (st' := [vi ((L.length : Nat) : Int)]) rfl ?_
    exact M.iret rfl (Nat.zero_le _) (Nat.zero_le _) ⟨reI (if_pos (by omega)).symm, rfl⟩
set_option maxHeartbeats 4000000 in
set_option maxRecDepth 100000 in
theorem kX4_countOf9 (l : Launch) (G : GT) (p q cap : Nat) (hcap : cap ≤ 100) (L : List Rw) (c : Nat) (hc : c < 9) (v : Int) (hv : -2147483648 ≤ v ∧ v ≤ 2147483647) (hb : ∀ i : Nat, i < L.length → -2147483648 ≤ gR L i c ∧ gR L i c ≤ 2147483647) : Ctr l G yX4_countOf cX4_countOf 5 ((Option.some Jvm.ClassFile.FieldType.int)) 2 0 0 [vr p, vi ((c : Nat) : Int), vi v] (fun w => isRw p q 9 cap L w) (fun w r w' => r = some (vi ((mCnt (fun i => decide (gR L i c = v)) L.length : Nat) : Int)) ∧ w' = w) := by
  refine Ctr.of (t := tX4_countOf) (lv0 := [some (vr p), some (vi ((c : Nat) : Int)), some (vi v), none, none]) (by decide +kernel) tX4_countOf_ok rfl rfl (fun w g hP M => ?_)
  have hP0 := hP
  obtain ⟨hO, f, hC, hlc, hf⟩ := hP
  have hpq : p ≠ q := fun e => by rw [e, hC] at hO; cases hO
  have hqp : q ≠ p := fun e => hpq e.symm
  refine M.run 4 (pc' := 5) (lv' := [some (vr p), some (vi ((c : Nat) : Int)), some (vi v), some (vi 0), some (vi 0)]) (st' := []) rfl ?_
  have Lp5 : ∀ (N : Nat) (m : Nat) (i : Nat), (m = mCnt (fun i => decide (gR L i c = v)) i) → (i ≤ L.length) → L.length - i < N → g 0 0 w 5 [some (vr p), some (vi ((c : Nat) : Int)), some (vi v), some (vi ((m : Nat) : Int)), some (vi ((i : Nat) : Int))] [] := by
    intro N
    induction N with
    | zero => intro m i _ _ hN; exact absurd hN (Nat.not_lt_zero _)
    | succ N ih5 =>
      intro m i hm hi hN
      refine M.run 2 (pc' := 8) (lv' := [some (vr p), some (vi ((c : Nat) : Int)), some (vi v), some (vi ((m : Nat) : Int)), some (vi ((i : Nat) : Int))]) (st' := [vr p, vi ((i : Nat) : Int)]) rfl ?_
      refine M.get fl_X4_25 rfl hO (kf := 2) (v := vi ((L.length : Nat) : Int)) rfl ?_
      refine M.icmp_ge (tgt := 34) rfl (qI (by omega)) (qI (by omega)) (by decide) (fun h11 => ?_) (fun h11 => ?_)
      · skip
        refine M.run 1 (pc' := 35) (lv' := [some (vr p), some (vi ((c : Nat) : Int)), some (vi v), some (vi ((m : Nat) : Int)), some (vi ((i : Nat) : Int))]) (st' := [vi ((m : Nat) : Int)]) rfl ?_
        exact M.iret rfl (Nat.zero_le _) (Nat.zero_le _) ⟨reI (by rw [hm, show i = L.length by omega]), rfl⟩
      · skip
        have hbi := hb i (by omega)
        have hml := mCnt_le (fun i => decide (gR L i c = v)) i
        refine M.run 3 (pc' := 18) (lv' := [some (vr p), some (vi ((c : Nat) : Int)), some (vi v), some (vi ((m : Nat) : Int)), some (vi ((i : Nat) : Int))]) (st' := [vi ((c : Nat) : Int), vi ((i : Nat) : Int), vr p]) rfl ?_
        refine M.callV (kX4_get9 l G p q cap hcap L ((i : Nat) : Int) ((c : Nat) : Int) (by omega) (by omega)) cv_X4_28 cd_X4_get rfl (st := []) rfl hO (by decide) (by decide) rfl (Nat.zero_le _) (Nat.zero_le _) hP0 (fun r1 w2 q3 => ?_)
        rw [q3.1, q3.2]
        rw [show (if (0 ≤ ((i : Nat) : Int) ∧ ((i : Nat) : Int) < ((L.length : Nat) : Int)) ∧ 0 ≤ ((c : Nat) : Int) ∧ ((c : Nat) : Int) < 9 then gR L (((i : Nat) : Int)).toNat (((c : Nat) : Int)).toNat else -2) = gR L i c from if_pos (by omega)]
        refine M.run 1 (pc' := 22) (lv' := [some (vr p), some (vi ((c : Nat) : Int)), some (vi v), some (vi ((m : Nat) : Int)), some (vi ((i : Nat) : Int))]) (st' := [vi v, vi (gR L i c)]) rfl ?_
        refine M.icmp_ne (tgt := 28) rfl (qI (by omega)) (qI (by omega)) (by decide) (fun h22 => ?_) (fun h22 => ?_)
        · skip
          have hq : ¬ decide (gR L i c = v) = true := fun z => h22 (of_decide_eq_true z)
          refine M.run 2 (pc' := 5) (lv' := [some (vr p), some (vi ((c : Nat) : Int)), some (vi v), some (vi ((m : Nat) : Int)), some (vi (((i : Nat) : Int) + 1))]) (st' := []) rfl ?_
          exact ih5 m (i + 1) (by rw [hm]; exact (mCnt_n (p := fun i => decide (gR L i c = v)) (k := i) hq).symm) (by omega) (by omega)
        · skip
          have hq : decide (gR L i c = v) = true := decide_eq_true h22
          refine M.run 3 (pc' := 5) (lv' := [some (vr p), some (vi ((c : Nat) : Int)), some (vi v), some (vi (((m : Nat) : Int) + 1)), some (vi (((i : Nat) : Int) + 1))]) (st' := []) rfl ?_
          exact ih5 (m + 1) (i + 1) (by rw [hm]; exact (mCnt_y (p := fun i => decide (gR L i c = v)) (k := i) hq).symm) (by omega) (by omega)
  exact Lp5 _ 0 0 rfl (Nat.zero_le _) (Nat.lt_succ_self _)
set_option maxHeartbeats 4000000 in
set_option maxRecDepth 100000 in
theorem kX4_get4 (l : Launch) (G : GT) (p q cap : Nat) (hcap : cap ≤ 100) (L : List Rw) (i : Int) (k : Int) (hi : -2147483648 ≤ i ∧ i ≤ 2147483647) (hk : -2147483648 ≤ k ∧ k ≤ 2147483647) : Ctr l G yX4_get cX4_get 4 ((Option.some Jvm.ClassFile.FieldType.int)) 1 0 0 [vr p, vi i, vi k] (fun w => isRw p q 4 cap L w) (fun w r w' => r = some (vi (if (0 ≤ i ∧ i < ((L.length : Nat) : Int)) ∧ 0 ≤ k ∧ k < 4 then gR L i.toNat k.toNat else -2)) ∧ w' = w) := by
  refine Ctr.of (t := tX4_get) (lv0 := [some (vr p), some (vi i), some (vi k), none]) (by decide +kernel) tX4_get_ok rfl rfl (fun w g hP M => ?_)
  have hP0 := hP
  obtain ⟨hO, f, hC, hlc, hf⟩ := hP
  have hpq : p ≠ q := fun e => by rw [e, hC] at hO; cases hO
  have hqp : q ≠ p := fun e => hpq e.symm
  refine M.run 1 (pc' := 1) (lv' := [some (vr p), some (vi i), some (vi k), none]) (st' := [vi i]) rfl ?_
  refine M.if_lt (tgt := 24) rfl (qI (by omega)) (by decide) (fun h1 => ?_) (fun h1 => ?_)
  · skip
    refine M.run 1 (pc' := 26) (lv' := [some (vr p), some (vi i), some (vi k), none]) (st' := [vi (-2)]) rfl ?_
    exact M.iret rfl (Nat.zero_le _) (Nat.zero_le _) ⟨reI (if_neg (by omega)).symm, rfl⟩
  · skip
    refine M.run 2 (pc' := 6) (lv' := [some (vr p), some (vi i), some (vi k), none]) (st' := [vr p, vi i]) rfl ?_
    refine M.get fl_X4_25 rfl hO (kf := 2) (v := vi ((L.length : Nat) : Int)) rfl ?_
    refine M.icmp_ge (tgt := 24) rfl (qI (by omega)) (qI (by omega)) (by decide) (fun h9 => ?_) (fun h9 => ?_)
    · skip
      refine M.run 1 (pc' := 26) (lv' := [some (vr p), some (vi i), some (vi k), none]) (st' := [vi (-2)]) rfl ?_
      exact M.iret rfl (Nat.zero_le _) (Nat.zero_le _) ⟨reI (if_neg (by omega)).symm, rfl⟩
    · skip
      refine M.run 1 (pc' := 13) (lv' := [some (vr p), some (vi i), some (vi k), none]) (st' := [vi k]) rfl ?_
      refine M.if_lt (tgt := 24) rfl (qI (by omega)) (by decide) (fun h13 => ?_) (fun h13 => ?_)
      · skip
        refine M.run 1 (pc' := 26) (lv' := [some (vr p), some (vi i), some (vi k), none]) (st' := [vi (-2)]) rfl ?_
        exact M.iret rfl (Nat.zero_le _) (Nat.zero_le _) ⟨reI (if_neg (by omega)).symm, rfl⟩
      · skip
        refine M.run 2 (pc' := 18) (lv' := [some (vr p), some (vi i), some (vi k), none]) (st' := [vr p, vi k]) rfl ?_
        refine M.get fl_X4_15 rfl hO (kf := 0) (v := vi ((4 : Nat) : Int)) rfl ?_
        refine M.icmp_lt (tgt := 27) rfl (qI (by omega)) (qI (by omega)) (by decide) (fun h21 => ?_) (fun h21 => ?_)
        · skip
          have hall : (0 ≤ i ∧ i < ((L.length : Nat) : Int)) ∧ 0 ≤ k ∧ k < 4 := by omega
          obtain ⟨e, rfl⟩ := Int.eq_ofNat_of_zero_le (show (0 : Int) ≤ i from hall.1.1)
          obtain ⟨c, rfl⟩ := Int.eq_ofNat_of_zero_le (show (0 : Int) ≤ k from hall.2.1)
          refine M.run 2 (pc' := 29) (lv' := [some (vr p), some (vi ((e : Nat) : Int)), some (vi ((c : Nat) : Int)), none]) (st' := [vr p, vi ((e : Nat) : Int)]) rfl ?_
          refine M.get fl_X4_15 rfl hO (kf := 0) (v := vi ((4 : Nat) : Int)) rfl ?_
          refine M.run 5 (pc' := 37) (lv' := [some (vr p), some (vi ((e : Nat) : Int)), some (vi ((c : Nat) : Int)), some (vi ((((e : Nat) : Int) * ((4 : Nat) : Int)) + ((c : Nat) : Int)))]) (st' := [vi ((((e : Nat) : Int) * ((4 : Nat) : Int)) + ((c : Nat) : Int))]) rfl ?_
          refine M.if_lt (tgt := 58) rfl (qI (by omega)) (by decide) (fun h37 => ?_) (fun h37 => ?_)
          · skip
            refine M.run 1 (pc' := 60) (lv' := [some (vr p), some (vi ((e : Nat) : Int)), some (vi ((c : Nat) : Int)), some (vi ((((e : Nat) : Int) * ((4 : Nat) : Int)) + ((c : Nat) : Int)))]) (st' := [vi (-2)]) rfl ?_
            exact M.iret rfl (Nat.zero_le _) (Nat.zero_le _) ⟨reI (if_neg (by omega)).symm, rfl⟩
          · skip
            refine M.run 2 (pc' := 42) (lv' := [some (vr p), some (vi ((e : Nat) : Int)), some (vi ((c : Nat) : Int)), some (vi ((((e : Nat) : Int) * ((4 : Nat) : Int)) + ((c : Nat) : Int)))]) (st' := [vr p, vi ((((e : Nat) : Int) * ((4 : Nat) : Int)) + ((c : Nat) : Int))]) rfl ?_
            refine M.get fl_X4_21 rfl hO (kf := 1) (v := vr q) rfl ?_
            refine M.alen rfl hC (by decide) ?_
            refine M.icmp_ge (tgt := 58) rfl (qI (by omega)) (qI (by omega)) (by decide) (fun h46 => ?_) (fun h46 => ?_)
            · skip
              refine M.run 1 (pc' := 60) (lv' := [some (vr p), some (vi ((e : Nat) : Int)), some (vi ((c : Nat) : Int)), some (vi ((((e : Nat) : Int) * ((4 : Nat) : Int)) + ((c : Nat) : Int)))]) (st' := [vi (-2)]) rfl ?_
              exact M.iret rfl (Nat.zero_le _) (Nat.zero_le _) ⟨reI (if_neg (by omega)).symm, rfl⟩
            · skip
              refine M.run 1 (pc' := 50) (lv' := [some (vr p), some (vi ((e : Nat) : Int)), some (vi ((c : Nat) : Int)), some (vi ((((e : Nat) : Int) * ((4 : Nat) : Int)) + ((c : Nat) : Int)))]) (st' := [vr p]) rfl ?_
              refine M.get fl_X4_21 rfl hO (kf := 1) (v := vr q) rfl ?_
              refine M.run 1 (pc' := 54) (lv' := [some (vr p), some (vi ((e : Nat) : Int)), some (vi ((c : Nat) : Int)), some (vi ((((e : Nat) : Int) * ((4 : Nat) : Int)) + ((c : Nat) : Int)))]) (st' := [vi ((((e : Nat) : Int) * ((4 : Nat) : Int)) + ((c : Nat) : Int)), vr q]) rfl ?_
              refine M.ialdN (e * 4 + c) rfl hC (by omega) (by omega) ?_
              refine M.run 1 (pc' := 60) (lv' := [some (vr p), some (vi ((e : Nat) : Int)), some (vi ((c : Nat) : Int)), some (vi ((((e : Nat) : Int) * ((4 : Nat) : Int)) + ((c : Nat) : Int)))]) (st' := [vi (f (e * 4 + c))]) rfl ?_
              exact M.iret rfl (Nat.zero_le _) (Nat.zero_le _) ⟨reI (by rw [if_pos hall, show e * 4 + c = 4 * e + c by omega]; exact hf e c (by omega) (by omega)), rfl⟩
        · skip
          refine M.run 1 (pc' := 26) (lv' := [some (vr p), some (vi i), some (vi k), none]) (st' := [vi (-2)]) rfl ?_
          exact M.iret rfl (Nat.zero_le _) (Nat.zero_le _) ⟨reI (if_neg (by omega)).symm, rfl⟩
set_option maxHeartbeats 4000000 in
set_option maxRecDepth 100000 in
theorem kX4_countOrCell4 (l : Launch) (G : GT) (p q cap : Nat) (hcap : cap ≤ 100) (L : List Rw) (i : Int) (k : Int) (hi : -2147483648 ≤ i ∧ i ≤ 2147483647) (hk : -2147483648 ≤ k ∧ k ≤ 2147483647) : Ctr l G yX4_countOrCell cX4_countOrCell 3 ((Option.some Jvm.ClassFile.FieldType.int)) 2 0 0 [vr p, vi i, vi k] (fun w => isRw p q 4 cap L w) (fun w r w' => r = some (vi (if i = -1 then ((L.length : Nat) : Int) else if (0 ≤ i ∧ i < ((L.length : Nat) : Int)) ∧ 0 ≤ k ∧ k < 4 then gR L i.toNat k.toNat else -2)) ∧ w' = w) := by
  refine Ctr.of (t := tX4_countOrCell) (lv0 := [some (vr p), some (vi i), some (vi k)]) (by decide +kernel) tX4_countOrCell_ok rfl rfl (fun w g hP M => ?_)
  have hP0 := hP
  obtain ⟨hO, f, hC, hlc, hf⟩ := hP
  have hpq : p ≠ q := fun e => by rw [e, hC] at hO; cases hO
  have hqp : q ≠ p := fun e => hpq e.symm
  refine M.run 2 (pc' := 2) (lv' := [some (vr p), some (vi i), some (vi k)]) (st' := [vi (-1), vi i]) rfl ?_
  refine M.icmp_ne (tgt := 12) rfl (qI (by omega)) (qI (by decide)) (by decide) (fun h2 => ?_) (fun h2 => ?_)
  · skip
    refine M.run 3 (pc' := 15) (lv' := [some (vr p), some (vi i), some (vi k)]) (st' := [vi k, vi i, vr p]) rfl ?_
    refine M.callV (kX4_get4 l G p q cap hcap L i k (by omega) (by omega)) cv_X4_28 cd_X4_get rfl (st := []) rfl hO (by decide) (by decide) rfl (Nat.zero_le _) (Nat.zero_le _) hP0 (fun r1 w2 q3 => ?_)
    rw [q3.1, q3.2]
    exact M.iret rfl (Nat.zero_le _) (Nat.zero_le _) ⟨reI (if_neg (by omega)).symm, rfl⟩
  · skip
    refine M.run 1 (pc' := 6) (lv' := [some (vr p), some (vi i), some (vi k)]) (st' := [vr p]) rfl ?_
    refine M.get fl_X4_25 rfl hO (kf := 2) (v := vi ((L.length : Nat) : Int)) rfl ?_
    refine M.run 1 (pc' := 18) (lv' := [some (vr p), some (vi i), some (vi k)]) (st' := [vi ((L.length : Nat) : Int)]) rfl ?_
    exact M.iret rfl (Nat.zero_le _) (Nat.zero_le _) ⟨reI (if_pos (by omega)).symm, rfl⟩
set_option maxHeartbeats 4000000 in
set_option maxRecDepth 100000 in
theorem kX4_countOf4 (l : Launch) (G : GT) (p q cap : Nat) (hcap : cap ≤ 100) (L : List Rw) (c : Nat) (hc : c < 4) (v : Int) (hv : -2147483648 ≤ v ∧ v ≤ 2147483647) (hb : ∀ i : Nat, i < L.length → -2147483648 ≤ gR L i c ∧ gR L i c ≤ 2147483647) : Ctr l G yX4_countOf cX4_countOf 5 ((Option.some Jvm.ClassFile.FieldType.int)) 2 0 0 [vr p, vi ((c : Nat) : Int), vi v] (fun w => isRw p q 4 cap L w) (fun w r w' => r = some (vi ((mCnt (fun i => decide (gR L i c = v)) L.length : Nat) : Int)) ∧ w' = w) := by
  refine Ctr.of (t := tX4_countOf) (lv0 := [some (vr p), some (vi ((c : Nat) : Int)), some (vi v), none, none]) (by decide +kernel) tX4_countOf_ok rfl rfl (fun w g hP M => ?_)
  have hP0 := hP
  obtain ⟨hO, f, hC, hlc, hf⟩ := hP
  have hpq : p ≠ q := fun e => by rw [e, hC] at hO; cases hO
  have hqp : q ≠ p := fun e => hpq e.symm
  refine M.run 4 (pc' := 5) (lv' := [some (vr p), some (vi ((c : Nat) : Int)), some (vi v), some (vi 0), some (vi 0)]) (st' := []) rfl ?_
  have Lp5 : ∀ (N : Nat) (m : Nat) (i : Nat), (m = mCnt (fun i => decide (gR L i c = v)) i) → (i ≤ L.length) → L.length - i < N → g 0 0 w 5 [some (vr p), some (vi ((c : Nat) : Int)), some (vi v), some (vi ((m : Nat) : Int)), some (vi ((i : Nat) : Int))] [] := by
    intro N
    induction N with
    | zero => intro m i _ _ hN; exact absurd hN (Nat.not_lt_zero _)
    | succ N ih5 =>
      intro m i hm hi hN
      refine M.run 2 (pc' := 8) (lv' := [some (vr p), some (vi ((c : Nat) : Int)), some (vi v), some (vi ((m : Nat) : Int)), some (vi ((i : Nat) : Int))]) (st' := [vr p, vi ((i : Nat) : Int)]) rfl ?_
      refine M.get fl_X4_25 rfl hO (kf := 2) (v := vi ((L.length : Nat) : Int)) rfl ?_
      refine M.icmp_ge (tgt := 34) rfl (qI (by omega)) (qI (by omega)) (by decide) (fun h11 => ?_) (fun h11 => ?_)
      · skip
        refine M.run 1 (pc' := 35) (lv' := [some (vr p), some (vi ((c : Nat) : Int)), some (vi v), some (vi ((m : Nat) : Int)), some (vi ((i : Nat) : Int))]) (st' := [vi ((m : Nat) : Int)]) rfl ?_
        exact M.iret rfl (Nat.zero_le _) (Nat.zero_le _) ⟨reI (by rw [hm, show i = L.length by omega]), rfl⟩
      · skip
        have hbi := hb i (by omega)
        have hml := mCnt_le (fun i => decide (gR L i c = v)) i
        refine M.run 3 (pc' := 18) (lv' := [some (vr p), some (vi ((c : Nat) : Int)), some (vi v), some (vi ((m : Nat) : Int)), some (vi ((i : Nat) : Int))]) (st' := [vi ((c : Nat) : Int), vi ((i : Nat) : Int), vr p]) rfl ?_
        refine M.callV (kX4_get4 l G p q cap hcap L ((i : Nat) : Int) ((c : Nat) : Int) (by omega) (by omega)) cv_X4_28 cd_X4_get rfl (st := []) rfl hO (by decide) (by decide) rfl (Nat.zero_le _) (Nat.zero_le _) hP0 (fun r1 w2 q3 => ?_)
        rw [q3.1, q3.2]
        rw [show (if (0 ≤ ((i : Nat) : Int) ∧ ((i : Nat) : Int) < ((L.length : Nat) : Int)) ∧ 0 ≤ ((c : Nat) : Int) ∧ ((c : Nat) : Int) < 4 then gR L (((i : Nat) : Int)).toNat (((c : Nat) : Int)).toNat else -2) = gR L i c from if_pos (by omega)]
        refine M.run 1 (pc' := 22) (lv' := [some (vr p), some (vi ((c : Nat) : Int)), some (vi v), some (vi ((m : Nat) : Int)), some (vi ((i : Nat) : Int))]) (st' := [vi v, vi (gR L i c)]) rfl ?_
        refine M.icmp_ne (tgt := 28) rfl (qI (by omega)) (qI (by omega)) (by decide) (fun h22 => ?_) (fun h22 => ?_)
        · skip
          have hq : ¬ decide (gR L i c = v) = true := fun z => h22 (of_decide_eq_true z)
          refine M.run 2 (pc' := 5) (lv' := [some (vr p), some (vi ((c : Nat) : Int)), some (vi v), some (vi ((m : Nat) : Int)), some (vi (((i : Nat) : Int) + 1))]) (st' := []) rfl ?_
          exact ih5 m (i + 1) (by rw [hm]; exact (mCnt_n (p := fun i => decide (gR L i c = v)) (k := i) hq).symm) (by omega) (by omega)
        · skip
          have hq : decide (gR L i c = v) = true := decide_eq_true h22
          refine M.run 3 (pc' := 5) (lv' := [some (vr p), some (vi ((c : Nat) : Int)), some (vi v), some (vi (((m : Nat) : Int) + 1)), some (vi (((i : Nat) : Int) + 1))]) (st' := []) rfl ?_
          exact ih5 (m + 1) (i + 1) (by rw [hm]; exact (mCnt_y (p := fun i => decide (gR L i c = v)) (k := i) hq).symm) (by omega) (by omega)
  exact Lp5 _ 0 0 rfl (Nat.zero_le _) (Nat.lt_succ_self _)
set_option maxHeartbeats 4000000 in
set_option maxRecDepth 100000 in
theorem kX4_put7 (l : Launch) (G : GT) (p q cap : Nat) (hcap : cap ≤ 100) (L : List Rw) (i k : Nat) (hi : i < L.length) (hk : k < 7) (v : Int) : Ctr l G yX4_put cX4_put 5 ((Option.none : Option Jvm.ClassFile.FieldType)) 1 0 0 [vr p, vi ((i : Nat) : Int), vi ((k : Nat) : Int), vi v] (fun w => isRw p q 7 cap L w) (fun w r w' => r = none ∧ isRw p q 7 cap (lSet L i k (v)) w' ∧ Frm p q w w') := by
  refine Ctr.of (t := tX4_put) (lv0 := [some (vr p), some (vi ((i : Nat) : Int)), some (vi ((k : Nat) : Int)), some (vi v), none]) (by decide +kernel) tX4_put_ok rfl rfl (fun w g hP M => ?_)
  have hP0 := hP
  obtain ⟨hO, f, hC, hlc, hf⟩ := hP
  have hpq : p ≠ q := fun e => by rw [e, hC] at hO; cases hO
  have hqp : q ≠ p := fun e => hpq e.symm
  refine M.run 1 (pc' := 1) (lv' := [some (vr p), some (vi ((i : Nat) : Int)), some (vi ((k : Nat) : Int)), some (vi v), none]) (st' := [vi ((i : Nat) : Int)]) rfl ?_
  refine M.if_lt (tgt := 24) rfl (qI (by omega)) (by decide) (fun h1 => ?_) (fun h1 => ?_)
  · skip
    omega
  · skip
    refine M.run 2 (pc' := 6) (lv' := [some (vr p), some (vi ((i : Nat) : Int)), some (vi ((k : Nat) : Int)), some (vi v), none]) (st' := [vr p, vi ((i : Nat) : Int)]) rfl ?_
    refine M.get fl_X4_25 rfl hO (kf := 2) (v := vi ((L.length : Nat) : Int)) rfl ?_
    refine M.icmp_ge (tgt := 24) rfl (qI (by omega)) (qI (by omega)) (by decide) (fun h9 => ?_) (fun h9 => ?_)
    · skip
      omega
    · skip
      refine M.run 1 (pc' := 13) (lv' := [some (vr p), some (vi ((i : Nat) : Int)), some (vi ((k : Nat) : Int)), some (vi v), none]) (st' := [vi ((k : Nat) : Int)]) rfl ?_
      refine M.if_lt (tgt := 24) rfl (qI (by omega)) (by decide) (fun h13 => ?_) (fun h13 => ?_)
      · skip
        omega
      · skip
        refine M.run 2 (pc' := 18) (lv' := [some (vr p), some (vi ((i : Nat) : Int)), some (vi ((k : Nat) : Int)), some (vi v), none]) (st' := [vr p, vi ((k : Nat) : Int)]) rfl ?_
        refine M.get fl_X4_15 rfl hO (kf := 0) (v := vi ((7 : Nat) : Int)) rfl ?_
        refine M.icmp_lt (tgt := 25) rfl (qI (by omega)) (qI (by omega)) (by decide) (fun h21 => ?_) (fun h21 => ?_)
        · skip
          refine M.run 2 (pc' := 27) (lv' := [some (vr p), some (vi ((i : Nat) : Int)), some (vi ((k : Nat) : Int)), some (vi v), none]) (st' := [vr p, vi ((i : Nat) : Int)]) rfl ?_
          refine M.get fl_X4_15 rfl hO (kf := 0) (v := vi ((7 : Nat) : Int)) rfl ?_
          refine M.run 5 (pc' := 37) (lv' := [some (vr p), some (vi ((i : Nat) : Int)), some (vi ((k : Nat) : Int)), some (vi v), some (vi ((((i : Nat) : Int) * ((7 : Nat) : Int)) + ((k : Nat) : Int)))]) (st' := [vi ((((i : Nat) : Int) * ((7 : Nat) : Int)) + ((k : Nat) : Int))]) rfl ?_
          refine M.if_lt (tgt := 58) rfl (qI (by omega)) (by decide) (fun h37 => ?_) (fun h37 => ?_)
          · skip
            omega
          · skip
            refine M.run 2 (pc' := 43) (lv' := [some (vr p), some (vi ((i : Nat) : Int)), some (vi ((k : Nat) : Int)), some (vi v), some (vi ((((i : Nat) : Int) * ((7 : Nat) : Int)) + ((k : Nat) : Int)))]) (st' := [vr p, vi ((((i : Nat) : Int) * ((7 : Nat) : Int)) + ((k : Nat) : Int))]) rfl ?_
            refine M.get fl_X4_21 rfl hO (kf := 1) (v := vr q) rfl ?_
            refine M.alen rfl hC (by decide) ?_
            refine M.icmp_ge (tgt := 58) rfl (qI (by omega)) (qI (by omega)) (by decide) (fun h47 => ?_) (fun h47 => ?_)
            · skip
              omega
            · skip
              refine M.run 1 (pc' := 51) (lv' := [some (vr p), some (vi ((i : Nat) : Int)), some (vi ((k : Nat) : Int)), some (vi v), some (vi ((((i : Nat) : Int) * ((7 : Nat) : Int)) + ((k : Nat) : Int)))]) (st' := [vr p]) rfl ?_
              refine M.get fl_X4_21 rfl hO (kf := 1) (v := vr q) rfl ?_
              refine M.run 2 (pc' := 57) (lv' := [some (vr p), some (vi ((i : Nat) : Int)), some (vi ((k : Nat) : Int)), some (vi v), some (vi ((((i : Nat) : Int) * ((7 : Nat) : Int)) + ((k : Nat) : Int)))]) (st' := [vi v, vi ((((i : Nat) : Int) * ((7 : Nat) : Int)) + ((k : Nat) : Int)), vr q]) rfl ?_
              refine M.iastN (i * 7 + k) rfl hC (by omega) (by omega) ?_
              have f2 : lk (up w q (Ar 0 (cap * 7) (uN f (i * 7 + k) v))) p = some (Ob 3 [vi ((7 : Nat) : Int), vr q, vi ((L.length : Nat) : Int)]) := (lk_up_n hpq).trans hO
              have f3 : lk (up w q (Ar 0 (cap * 7) (uN f (i * 7 + k) v))) q = some (Ar 0 (cap * 7) (uN f (i * 7 + k) v)) := lk_up_s hC
              have fr4 : Frm p q w (up w q (Ar 0 (cap * 7) (uN f (i * 7 + k) v))) := (Frm.rf).u2
              generalize up w q (Ar 0 (cap * 7) (uN f (i * 7 + k) v)) = w1 at f2 f3 fr4 ⊢
              exact M.vret rfl (Nat.zero_le _) (Nat.zero_le _) ⟨rfl, ⟨by rw [lSet_len]; exact f2, _, f3, by rw [lSet_len]; exact hlc, fun j c hj hc => by
                    rw [lSet_len] at hj
                    unfold lSet
                    rw [gR_set hi]
                    by_cases e : j = i
                    · subst e
                      rw [if_pos rfl]
                      by_cases e2 : c = k
                      · subst e2
                        rw [show 7 * j + c = j * 7 + c by omega, uN_s, uN_s]
                      · rw [uN_o e2, uN_o (by omega)]; exact hf j c hj hc
                    · rw [if_neg e, uN_o (by omega)]; exact hf j c hj hc⟩, fr4⟩
        · skip
          omega
set_option maxHeartbeats 4000000 in
set_option maxRecDepth 100000 in
theorem kX4_raise7 (l : Launch) (G : GT) (p q cap : Nat) (hcap : cap ≤ 100) (L : List Rw) (i k : Nat) (hi : i < L.length) (hk : k < 7) (v : Int) : Ctr l G yX4_raise cX4_raise 5 ((Option.none : Option Jvm.ClassFile.FieldType)) 1 0 0 [vr p, vi ((i : Nat) : Int), vi ((k : Nat) : Int), vi v] (fun w => isRw p q 7 cap L w) (fun w r w' => r = none ∧ isRw p q 7 cap (lSet L i k (gR L i k + v)) w' ∧ Frm p q w w') := by
  refine Ctr.of (t := tX4_raise) (lv0 := [some (vr p), some (vi ((i : Nat) : Int)), some (vi ((k : Nat) : Int)), some (vi v), none]) (by decide +kernel) tX4_raise_ok rfl rfl (fun w g hP M => ?_)
  have hP0 := hP
  obtain ⟨hO, f, hC, hlc, hf⟩ := hP
  have hpq : p ≠ q := fun e => by rw [e, hC] at hO; cases hO
  have hqp : q ≠ p := fun e => hpq e.symm
  refine M.run 1 (pc' := 1) (lv' := [some (vr p), some (vi ((i : Nat) : Int)), some (vi ((k : Nat) : Int)), some (vi v), none]) (st' := [vi ((i : Nat) : Int)]) rfl ?_
  refine M.if_lt (tgt := 24) rfl (qI (by omega)) (by decide) (fun h1 => ?_) (fun h1 => ?_)
  · skip
    omega
  · skip
    refine M.run 2 (pc' := 6) (lv' := [some (vr p), some (vi ((i : Nat) : Int)), some (vi ((k : Nat) : Int)), some (vi v), none]) (st' := [vr p, vi ((i : Nat) : Int)]) rfl ?_
    refine M.get fl_X4_25 rfl hO (kf := 2) (v := vi ((L.length : Nat) : Int)) rfl ?_
    refine M.icmp_ge (tgt := 24) rfl (qI (by omega)) (qI (by omega)) (by decide) (fun h9 => ?_) (fun h9 => ?_)
    · skip
      omega
    · skip
      refine M.run 1 (pc' := 13) (lv' := [some (vr p), some (vi ((i : Nat) : Int)), some (vi ((k : Nat) : Int)), some (vi v), none]) (st' := [vi ((k : Nat) : Int)]) rfl ?_
      refine M.if_lt (tgt := 24) rfl (qI (by omega)) (by decide) (fun h13 => ?_) (fun h13 => ?_)
      · skip
        omega
      · skip
        refine M.run 2 (pc' := 18) (lv' := [some (vr p), some (vi ((i : Nat) : Int)), some (vi ((k : Nat) : Int)), some (vi v), none]) (st' := [vr p, vi ((k : Nat) : Int)]) rfl ?_
        refine M.get fl_X4_15 rfl hO (kf := 0) (v := vi ((7 : Nat) : Int)) rfl ?_
        refine M.icmp_lt (tgt := 25) rfl (qI (by omega)) (qI (by omega)) (by decide) (fun h21 => ?_) (fun h21 => ?_)
        · skip
          refine M.run 2 (pc' := 27) (lv' := [some (vr p), some (vi ((i : Nat) : Int)), some (vi ((k : Nat) : Int)), some (vi v), none]) (st' := [vr p, vi ((i : Nat) : Int)]) rfl ?_
          refine M.get fl_X4_15 rfl hO (kf := 0) (v := vi ((7 : Nat) : Int)) rfl ?_
          refine M.run 5 (pc' := 37) (lv' := [some (vr p), some (vi ((i : Nat) : Int)), some (vi ((k : Nat) : Int)), some (vi v), some (vi ((((i : Nat) : Int) * ((7 : Nat) : Int)) + ((k : Nat) : Int)))]) (st' := [vi ((((i : Nat) : Int) * ((7 : Nat) : Int)) + ((k : Nat) : Int))]) rfl ?_
          refine M.if_lt (tgt := 61) rfl (qI (by omega)) (by decide) (fun h37 => ?_) (fun h37 => ?_)
          · skip
            omega
          · skip
            refine M.run 2 (pc' := 43) (lv' := [some (vr p), some (vi ((i : Nat) : Int)), some (vi ((k : Nat) : Int)), some (vi v), some (vi ((((i : Nat) : Int) * ((7 : Nat) : Int)) + ((k : Nat) : Int)))]) (st' := [vr p, vi ((((i : Nat) : Int) * ((7 : Nat) : Int)) + ((k : Nat) : Int))]) rfl ?_
            refine M.get fl_X4_21 rfl hO (kf := 1) (v := vr q) rfl ?_
            refine M.alen rfl hC (by decide) ?_
            refine M.icmp_ge (tgt := 61) rfl (qI (by omega)) (qI (by omega)) (by decide) (fun h47 => ?_) (fun h47 => ?_)
            · skip
              omega
            · skip
              refine M.run 1 (pc' := 51) (lv' := [some (vr p), some (vi ((i : Nat) : Int)), some (vi ((k : Nat) : Int)), some (vi v), some (vi ((((i : Nat) : Int) * ((7 : Nat) : Int)) + ((k : Nat) : Int)))]) (st' := [vr p]) rfl ?_
              refine M.get fl_X4_21 rfl hO (kf := 1) (v := vr q) rfl ?_
              refine M.run 2 (pc' := 57) (lv' := [some (vr p), some (vi ((i : Nat) : Int)), some (vi ((k : Nat) : Int)), some (vi v), some (vi ((((i : Nat) : Int) * ((7 : Nat) : Int)) + ((k : Nat) : Int)))]) (st' := [vi ((((i : Nat) : Int) * ((7 : Nat) : Int)) + ((k : Nat) : Int)), vr q, vi ((((i : Nat) : Int) * ((7 : Nat) : Int)) + ((k : Nat) : Int)), vr q]) rfl ?_
              refine M.ialdN (i * 7 + k) rfl hC (by omega) (by omega) ?_
              refine M.run 2 (pc' := 60) (lv' := [some (vr p), some (vi ((i : Nat) : Int)), some (vi ((k : Nat) : Int)), some (vi v), some (vi ((((i : Nat) : Int) * ((7 : Nat) : Int)) + ((k : Nat) : Int)))]) (st' := [vi ((f (i * 7 + k)) + v), vi ((((i : Nat) : Int) * ((7 : Nat) : Int)) + ((k : Nat) : Int)), vr q]) rfl ?_
              refine M.iastN (i * 7 + k) rfl hC (by omega) (by omega) ?_
              have f2 : lk (up w q (Ar 0 (cap * 7) (uN f (i * 7 + k) ((f (i * 7 + k)) + v)))) p = some (Ob 3 [vi ((7 : Nat) : Int), vr q, vi ((L.length : Nat) : Int)]) := (lk_up_n hpq).trans hO
              have f3 : lk (up w q (Ar 0 (cap * 7) (uN f (i * 7 + k) ((f (i * 7 + k)) + v)))) q = some (Ar 0 (cap * 7) (uN f (i * 7 + k) ((f (i * 7 + k)) + v))) := lk_up_s hC
              have fr4 : Frm p q w (up w q (Ar 0 (cap * 7) (uN f (i * 7 + k) ((f (i * 7 + k)) + v)))) := (Frm.rf).u2
              generalize up w q (Ar 0 (cap * 7) (uN f (i * 7 + k) ((f (i * 7 + k)) + v))) = w1 at f2 f3 fr4 ⊢
              exact M.vret rfl (Nat.zero_le _) (Nat.zero_le _) ⟨rfl, ⟨by rw [lSet_len]; exact f2, _, f3, by rw [lSet_len]; exact hlc, fun j c hj hc => by
                    rw [lSet_len] at hj
                    unfold lSet
                    rw [gR_set hi]
                    by_cases e : j = i
                    · subst e
                      rw [if_pos rfl]
                      by_cases e2 : c = k
                      · subst e2
                        rw [show 7 * j + c = j * 7 + c by omega, uN_s, uN_s]; rw [← hf j c hj hk, show 7 * j + c = j * 7 + c by omega]
                      · rw [uN_o e2, uN_o (by omega)]; exact hf j c hj hc
                    · rw [if_neg e, uN_o (by omega)]; exact hf j c hj hc⟩, fr4⟩
        · skip
          omega
set_option maxHeartbeats 4000000 in
set_option maxRecDepth 100000 in
theorem kX4_addMessage7 (l : Launch) (G : GT) (p q cap : Nat) (hcap : cap ≤ 100) (L : List Rw) (kind c serial fr tt claims tried : Int) : Ctr l G yX4_addMessage cX4_addMessage 9 ((Option.none : Option Jvm.ClassFile.FieldType)) 1 0 0 [vr p, vi kind, vi c, vi serial, vi fr, vi tt, vi claims, vi tried] (fun w => isRw p q 7 cap L w) (fun w r w' => r = none ∧ isRw p q 7 cap (if L.length = cap then L else L ++ [rwM kind c serial fr tt claims tried]) w' ∧ Frm p q w w') := by
  refine Ctr.of (t := tX4_addMessage) (lv0 := [some (vr p), some (vi kind), some (vi c), some (vi serial), some (vi fr), some (vi tt), some (vi claims), some (vi tried), none]) (by decide +kernel) tX4_addMessage_ok rfl rfl (fun w g hP M => ?_)
  have hP0 := hP
  obtain ⟨hO, f, hC, hlc, hf⟩ := hP
  have hpq : p ≠ q := fun e => by rw [e, hC] at hO; cases hO
  have hqp : q ≠ p := fun e => hpq e.symm
  refine M.run 1 (pc' := 1) (lv' := [some (vr p), some (vi kind), some (vi c), some (vi serial), some (vi fr), some (vi tt), some (vi claims), some (vi tried), none]) (st' := [vr p]) rfl ?_
  refine M.get fl_X4_25 rfl hO (kf := 2) (v := vi ((L.length : Nat) : Int)) rfl ?_
  refine M.run 1 (pc' := 5) (lv' := [some (vr p), some (vi kind), some (vi c), some (vi serial), some (vi fr), some (vi tt), some (vi claims), some (vi tried), none]) (st' := [vr p, vi ((L.length : Nat) : Int)]) rfl ?_
  refine M.get fl_X4_15 rfl hO (kf := 0) (v := vi ((7 : Nat) : Int)) rfl ?_
  refine M.run 3 (pc' := 12) (lv' := [some (vr p), some (vi kind), some (vi c), some (vi serial), some (vi fr), some (vi tt), some (vi claims), some (vi tried), some (vi (((L.length : Nat) : Int) * ((7 : Nat) : Int)))]) (st' := [vr p]) rfl ?_
  refine M.get fl_X4_15 rfl hO (kf := 0) (v := vi ((7 : Nat) : Int)) rfl ?_
  refine M.run 1 (pc' := 17) (lv' := [some (vr p), some (vi kind), some (vi c), some (vi serial), some (vi fr), some (vi tt), some (vi claims), some (vi tried), some (vi (((L.length : Nat) : Int) * ((7 : Nat) : Int)))]) (st' := [vi 7, vi ((7 : Nat) : Int)]) rfl ?_
  refine M.icmp_lt (tgt := 40) rfl (qI (by omega)) (qI (by decide)) (by decide) (fun h17 => ?_) (fun h17 => ?_)
  · skip
    omega
  · skip
    refine M.run 1 (pc' := 22) (lv' := [some (vr p), some (vi kind), some (vi c), some (vi serial), some (vi fr), some (vi tt), some (vi claims), some (vi tried), some (vi (((L.length : Nat) : Int) * ((7 : Nat) : Int)))]) (st' := [vi (((L.length : Nat) : Int) * ((7 : Nat) : Int))]) rfl ?_
    refine M.if_lt (tgt := 40) rfl (qI (by omega)) (by decide) (fun h22 => ?_) (fun h22 => ?_)
    · skip
      omega
    · skip
      refine M.run 1 (pc' := 26) (lv' := [some (vr p), some (vi kind), some (vi c), some (vi serial), some (vi fr), some (vi tt), some (vi claims), some (vi tried), some (vi (((L.length : Nat) : Int) * ((7 : Nat) : Int)))]) (st' := [vr p]) rfl ?_
      refine M.get fl_X4_15 rfl hO (kf := 0) (v := vi ((7 : Nat) : Int)) rfl ?_
      refine M.run 1 (pc' := 30) (lv' := [some (vr p), some (vi kind), some (vi c), some (vi serial), some (vi fr), some (vi tt), some (vi claims), some (vi tried), some (vi (((L.length : Nat) : Int) * ((7 : Nat) : Int)))]) (st' := [vr p, vi ((7 : Nat) : Int)]) rfl ?_
      refine M.get fl_X4_21 rfl hO (kf := 1) (v := vr q) rfl ?_
      refine M.alen rfl hC (by decide) ?_
      refine M.run 2 (pc' := 37) (lv' := [some (vr p), some (vi kind), some (vi c), some (vi serial), some (vi fr), some (vi tt), some (vi claims), some (vi tried), some (vi (((L.length : Nat) : Int) * ((7 : Nat) : Int)))]) (st' := [vi ((((cap * 7) : Nat) : Int) - (((L.length : Nat) : Int) * ((7 : Nat) : Int))), vi ((7 : Nat) : Int)]) rfl ?_
      refine M.icmp_le (tgt := 41) rfl (qI (by omega)) (qI (by omega)) (by decide) (fun h37 => ?_) (fun h37 => ?_)
      · skip
        refine M.run 1 (pc' := 42) (lv' := [some (vr p), some (vi kind), some (vi c), some (vi serial), some (vi fr), some (vi tt), some (vi claims), some (vi tried), some (vi (((L.length : Nat) : Int) * ((7 : Nat) : Int)))]) (st' := [vr p]) rfl ?_
        refine M.get fl_X4_21 rfl hO (kf := 1) (v := vr q) rfl ?_
        refine M.run 4 (pc' := 50) (lv' := [some (vr p), some (vi kind), some (vi c), some (vi serial), some (vi fr), some (vi tt), some (vi claims), some (vi tried), some (vi (((L.length : Nat) : Int) * ((7 : Nat) : Int)))]) (st' := [vi kind, vi ((((L.length : Nat) : Int) * ((7 : Nat) : Int)) + 0), vr q]) rfl ?_
        refine M.iastN (L.length * 7 + 0) rfl hC (by omega) (by omega) ?_
        have f2 : lk (up w q (Ar 0 (cap * 7) (uN f (L.length * 7 + 0) kind))) p = some (Ob 3 [vi ((7 : Nat) : Int), vr q, vi ((L.length : Nat) : Int)]) := (lk_up_n hpq).trans hO
        have f3 : lk (up w q (Ar 0 (cap * 7) (uN f (L.length * 7 + 0) kind))) q = some (Ar 0 (cap * 7) (uN f (L.length * 7 + 0) kind)) := lk_up_s hC
        have fr4 : Frm p q w (up w q (Ar 0 (cap * 7) (uN f (L.length * 7 + 0) kind))) := (Frm.rf).u2
        generalize up w q (Ar 0 (cap * 7) (uN f (L.length * 7 + 0) kind)) = w1 at f2 f3 fr4 ⊢
        refine M.run 1 (pc' := 52) (lv' := [some (vr p), some (vi kind), some (vi c), some (vi serial), some (vi fr), some (vi tt), some (vi claims), some (vi tried), some (vi (((L.length : Nat) : Int) * ((7 : Nat) : Int)))]) (st' := [vr p]) rfl ?_
        refine M.get fl_X4_21 rfl f2 (kf := 1) (v := vr q) rfl ?_
        refine M.run 4 (pc' := 60) (lv' := [some (vr p), some (vi kind), some (vi c), some (vi serial), some (vi fr), some (vi tt), some (vi claims), some (vi tried), some (vi (((L.length : Nat) : Int) * ((7 : Nat) : Int)))]) (st' := [vi c, vi ((((L.length : Nat) : Int) * ((7 : Nat) : Int)) + 1), vr q]) rfl ?_
        refine M.iastN (L.length * 7 + 1) rfl f3 (by omega) (by omega) ?_
        have f6 : lk (up w1 q (Ar 0 (cap * 7) (uN (uN f (L.length * 7 + 0) kind) (L.length * 7 + 1) c))) p = some (Ob 3 [vi ((7 : Nat) : Int), vr q, vi ((L.length : Nat) : Int)]) := (lk_up_n hpq).trans f2
        have f7 : lk (up w1 q (Ar 0 (cap * 7) (uN (uN f (L.length * 7 + 0) kind) (L.length * 7 + 1) c))) q = some (Ar 0 (cap * 7) (uN (uN f (L.length * 7 + 0) kind) (L.length * 7 + 1) c)) := lk_up_s f3
        have fr8 : Frm p q w (up w1 q (Ar 0 (cap * 7) (uN (uN f (L.length * 7 + 0) kind) (L.length * 7 + 1) c))) := fr4.u2
        generalize up w1 q (Ar 0 (cap * 7) (uN (uN f (L.length * 7 + 0) kind) (L.length * 7 + 1) c)) = w5 at f6 f7 fr8 ⊢
        refine M.run 1 (pc' := 62) (lv' := [some (vr p), some (vi kind), some (vi c), some (vi serial), some (vi fr), some (vi tt), some (vi claims), some (vi tried), some (vi (((L.length : Nat) : Int) * ((7 : Nat) : Int)))]) (st' := [vr p]) rfl ?_
        refine M.get fl_X4_21 rfl f6 (kf := 1) (v := vr q) rfl ?_
        refine M.run 4 (pc' := 70) (lv' := [some (vr p), some (vi kind), some (vi c), some (vi serial), some (vi fr), some (vi tt), some (vi claims), some (vi tried), some (vi (((L.length : Nat) : Int) * ((7 : Nat) : Int)))]) (st' := [vi serial, vi ((((L.length : Nat) : Int) * ((7 : Nat) : Int)) + 2), vr q]) rfl ?_
        refine M.iastN (L.length * 7 + 2) rfl f7 (by omega) (by omega) ?_
        have f10 : lk (up w5 q (Ar 0 (cap * 7) (uN (uN (uN f (L.length * 7 + 0) kind) (L.length * 7 + 1) c) (L.length * 7 + 2) serial))) p = some (Ob 3 [vi ((7 : Nat) : Int), vr q, vi ((L.length : Nat) : Int)]) := (lk_up_n hpq).trans f6
        have f11 : lk (up w5 q (Ar 0 (cap * 7) (uN (uN (uN f (L.length * 7 + 0) kind) (L.length * 7 + 1) c) (L.length * 7 + 2) serial))) q = some (Ar 0 (cap * 7) (uN (uN (uN f (L.length * 7 + 0) kind) (L.length * 7 + 1) c) (L.length * 7 + 2) serial)) := lk_up_s f7
        have fr12 : Frm p q w (up w5 q (Ar 0 (cap * 7) (uN (uN (uN f (L.length * 7 + 0) kind) (L.length * 7 + 1) c) (L.length * 7 + 2) serial))) := fr8.u2
        generalize up w5 q (Ar 0 (cap * 7) (uN (uN (uN f (L.length * 7 + 0) kind) (L.length * 7 + 1) c) (L.length * 7 + 2) serial)) = w9 at f10 f11 fr12 ⊢
        refine M.run 1 (pc' := 72) (lv' := [some (vr p), some (vi kind), some (vi c), some (vi serial), some (vi fr), some (vi tt), some (vi claims), some (vi tried), some (vi (((L.length : Nat) : Int) * ((7 : Nat) : Int)))]) (st' := [vr p]) rfl ?_
        refine M.get fl_X4_21 rfl f10 (kf := 1) (v := vr q) rfl ?_
        refine M.run 4 (pc' := 81) (lv' := [some (vr p), some (vi kind), some (vi c), some (vi serial), some (vi fr), some (vi tt), some (vi claims), some (vi tried), some (vi (((L.length : Nat) : Int) * ((7 : Nat) : Int)))]) (st' := [vi fr, vi ((((L.length : Nat) : Int) * ((7 : Nat) : Int)) + 3), vr q]) rfl ?_
        refine M.iastN (L.length * 7 + 3) rfl f11 (by omega) (by omega) ?_
        have f14 : lk (up w9 q (Ar 0 (cap * 7) (uN (uN (uN (uN f (L.length * 7 + 0) kind) (L.length * 7 + 1) c) (L.length * 7 + 2) serial) (L.length * 7 + 3) fr))) p = some (Ob 3 [vi ((7 : Nat) : Int), vr q, vi ((L.length : Nat) : Int)]) := (lk_up_n hpq).trans f10
        have f15 : lk (up w9 q (Ar 0 (cap * 7) (uN (uN (uN (uN f (L.length * 7 + 0) kind) (L.length * 7 + 1) c) (L.length * 7 + 2) serial) (L.length * 7 + 3) fr))) q = some (Ar 0 (cap * 7) (uN (uN (uN (uN f (L.length * 7 + 0) kind) (L.length * 7 + 1) c) (L.length * 7 + 2) serial) (L.length * 7 + 3) fr)) := lk_up_s f11
        have fr16 : Frm p q w (up w9 q (Ar 0 (cap * 7) (uN (uN (uN (uN f (L.length * 7 + 0) kind) (L.length * 7 + 1) c) (L.length * 7 + 2) serial) (L.length * 7 + 3) fr))) := fr12.u2
        generalize up w9 q (Ar 0 (cap * 7) (uN (uN (uN (uN f (L.length * 7 + 0) kind) (L.length * 7 + 1) c) (L.length * 7 + 2) serial) (L.length * 7 + 3) fr)) = w13 at f14 f15 fr16 ⊢
        refine M.run 1 (pc' := 83) (lv' := [some (vr p), some (vi kind), some (vi c), some (vi serial), some (vi fr), some (vi tt), some (vi claims), some (vi tried), some (vi (((L.length : Nat) : Int) * ((7 : Nat) : Int)))]) (st' := [vr p]) rfl ?_
        refine M.get fl_X4_21 rfl f14 (kf := 1) (v := vr q) rfl ?_
        refine M.run 4 (pc' := 92) (lv' := [some (vr p), some (vi kind), some (vi c), some (vi serial), some (vi fr), some (vi tt), some (vi claims), some (vi tried), some (vi (((L.length : Nat) : Int) * ((7 : Nat) : Int)))]) (st' := [vi tt, vi ((((L.length : Nat) : Int) * ((7 : Nat) : Int)) + 4), vr q]) rfl ?_
        refine M.iastN (L.length * 7 + 4) rfl f15 (by omega) (by omega) ?_
        have f18 : lk (up w13 q (Ar 0 (cap * 7) (uN (uN (uN (uN (uN f (L.length * 7 + 0) kind) (L.length * 7 + 1) c) (L.length * 7 + 2) serial) (L.length * 7 + 3) fr) (L.length * 7 + 4) tt))) p = some (Ob 3 [vi ((7 : Nat) : Int), vr q, vi ((L.length : Nat) : Int)]) := (lk_up_n hpq).trans f14
        have f19 : lk (up w13 q (Ar 0 (cap * 7) (uN (uN (uN (uN (uN f (L.length * 7 + 0) kind) (L.length * 7 + 1) c) (L.length * 7 + 2) serial) (L.length * 7 + 3) fr) (L.length * 7 + 4) tt))) q = some (Ar 0 (cap * 7) (uN (uN (uN (uN (uN f (L.length * 7 + 0) kind) (L.length * 7 + 1) c) (L.length * 7 + 2) serial) (L.length * 7 + 3) fr) (L.length * 7 + 4) tt)) := lk_up_s f15
        have fr20 : Frm p q w (up w13 q (Ar 0 (cap * 7) (uN (uN (uN (uN (uN f (L.length * 7 + 0) kind) (L.length * 7 + 1) c) (L.length * 7 + 2) serial) (L.length * 7 + 3) fr) (L.length * 7 + 4) tt))) := fr16.u2
        generalize up w13 q (Ar 0 (cap * 7) (uN (uN (uN (uN (uN f (L.length * 7 + 0) kind) (L.length * 7 + 1) c) (L.length * 7 + 2) serial) (L.length * 7 + 3) fr) (L.length * 7 + 4) tt)) = w17 at f18 f19 fr20 ⊢
        refine M.run 1 (pc' := 94) (lv' := [some (vr p), some (vi kind), some (vi c), some (vi serial), some (vi fr), some (vi tt), some (vi claims), some (vi tried), some (vi (((L.length : Nat) : Int) * ((7 : Nat) : Int)))]) (st' := [vr p]) rfl ?_
        refine M.get fl_X4_21 rfl f18 (kf := 1) (v := vr q) rfl ?_
        refine M.run 4 (pc' := 103) (lv' := [some (vr p), some (vi kind), some (vi c), some (vi serial), some (vi fr), some (vi tt), some (vi claims), some (vi tried), some (vi (((L.length : Nat) : Int) * ((7 : Nat) : Int)))]) (st' := [vi claims, vi ((((L.length : Nat) : Int) * ((7 : Nat) : Int)) + 5), vr q]) rfl ?_
        refine M.iastN (L.length * 7 + 5) rfl f19 (by omega) (by omega) ?_
        have f22 : lk (up w17 q (Ar 0 (cap * 7) (uN (uN (uN (uN (uN (uN f (L.length * 7 + 0) kind) (L.length * 7 + 1) c) (L.length * 7 + 2) serial) (L.length * 7 + 3) fr) (L.length * 7 + 4) tt) (L.length * 7 + 5) claims))) p = some (Ob 3 [vi ((7 : Nat) : Int), vr q, vi ((L.length : Nat) : Int)]) := (lk_up_n hpq).trans f18
        have f23 : lk (up w17 q (Ar 0 (cap * 7) (uN (uN (uN (uN (uN (uN f (L.length * 7 + 0) kind) (L.length * 7 + 1) c) (L.length * 7 + 2) serial) (L.length * 7 + 3) fr) (L.length * 7 + 4) tt) (L.length * 7 + 5) claims))) q = some (Ar 0 (cap * 7) (uN (uN (uN (uN (uN (uN f (L.length * 7 + 0) kind) (L.length * 7 + 1) c) (L.length * 7 + 2) serial) (L.length * 7 + 3) fr) (L.length * 7 + 4) tt) (L.length * 7 + 5) claims)) := lk_up_s f19
        have fr24 : Frm p q w (up w17 q (Ar 0 (cap * 7) (uN (uN (uN (uN (uN (uN f (L.length * 7 + 0) kind) (L.length * 7 + 1) c) (L.length * 7 + 2) serial) (L.length * 7 + 3) fr) (L.length * 7 + 4) tt) (L.length * 7 + 5) claims))) := fr20.u2
        generalize up w17 q (Ar 0 (cap * 7) (uN (uN (uN (uN (uN (uN f (L.length * 7 + 0) kind) (L.length * 7 + 1) c) (L.length * 7 + 2) serial) (L.length * 7 + 3) fr) (L.length * 7 + 4) tt) (L.length * 7 + 5) claims)) = w21 at f22 f23 fr24 ⊢
        refine M.run 1 (pc' := 105) (lv' := [some (vr p), some (vi kind), some (vi c), some (vi serial), some (vi fr), some (vi tt), some (vi claims), some (vi tried), some (vi (((L.length : Nat) : Int) * ((7 : Nat) : Int)))]) (st' := [vr p]) rfl ?_
        refine M.get fl_X4_21 rfl f22 (kf := 1) (v := vr q) rfl ?_
        refine M.run 4 (pc' := 115) (lv' := [some (vr p), some (vi kind), some (vi c), some (vi serial), some (vi fr), some (vi tt), some (vi claims), some (vi tried), some (vi (((L.length : Nat) : Int) * ((7 : Nat) : Int)))]) (st' := [vi tried, vi ((((L.length : Nat) : Int) * ((7 : Nat) : Int)) + 6), vr q]) rfl ?_
        refine M.iastN (L.length * 7 + 6) rfl f23 (by omega) (by omega) ?_
        have f26 : lk (up w21 q (Ar 0 (cap * 7) (uN (uN (uN (uN (uN (uN (uN f (L.length * 7 + 0) kind) (L.length * 7 + 1) c) (L.length * 7 + 2) serial) (L.length * 7 + 3) fr) (L.length * 7 + 4) tt) (L.length * 7 + 5) claims) (L.length * 7 + 6) tried))) p = some (Ob 3 [vi ((7 : Nat) : Int), vr q, vi ((L.length : Nat) : Int)]) := (lk_up_n hpq).trans f22
        have f27 : lk (up w21 q (Ar 0 (cap * 7) (uN (uN (uN (uN (uN (uN (uN f (L.length * 7 + 0) kind) (L.length * 7 + 1) c) (L.length * 7 + 2) serial) (L.length * 7 + 3) fr) (L.length * 7 + 4) tt) (L.length * 7 + 5) claims) (L.length * 7 + 6) tried))) q = some (Ar 0 (cap * 7) (uN (uN (uN (uN (uN (uN (uN f (L.length * 7 + 0) kind) (L.length * 7 + 1) c) (L.length * 7 + 2) serial) (L.length * 7 + 3) fr) (L.length * 7 + 4) tt) (L.length * 7 + 5) claims) (L.length * 7 + 6) tried)) := lk_up_s f23
        have fr28 : Frm p q w (up w21 q (Ar 0 (cap * 7) (uN (uN (uN (uN (uN (uN (uN f (L.length * 7 + 0) kind) (L.length * 7 + 1) c) (L.length * 7 + 2) serial) (L.length * 7 + 3) fr) (L.length * 7 + 4) tt) (L.length * 7 + 5) claims) (L.length * 7 + 6) tried))) := fr24.u2
        generalize up w21 q (Ar 0 (cap * 7) (uN (uN (uN (uN (uN (uN (uN f (L.length * 7 + 0) kind) (L.length * 7 + 1) c) (L.length * 7 + 2) serial) (L.length * 7 + 3) fr) (L.length * 7 + 4) tt) (L.length * 7 + 5) claims) (L.length * 7 + 6) tried)) = w25 at f26 f27 fr28 ⊢
        refine M.run 2 (pc' := 118) (lv' := [some (vr p), some (vi kind), some (vi c), some (vi serial), some (vi fr), some (vi tt), some (vi claims), some (vi tried), some (vi (((L.length : Nat) : Int) * ((7 : Nat) : Int)))]) (st' := [vr p, vr p]) rfl ?_
        refine M.get fl_X4_25 rfl f26 (kf := 2) (v := vi ((L.length : Nat) : Int)) rfl ?_
        refine M.run 2 (pc' := 123) (lv' := [some (vr p), some (vi kind), some (vi c), some (vi serial), some (vi fr), some (vi tt), some (vi claims), some (vi tried), some (vi (((L.length : Nat) : Int) * ((7 : Nat) : Int)))]) (st' := [vi (((L.length : Nat) : Int) + 1), vr p]) rfl ?_
        refine M.put fl_X4_25 rfl f26 rfl rfl (Nat.le_of_ble_eq_true rfl) ?_
        have f30 : lk (up w25 p (Ob 3 ([vi ((7 : Nat) : Int), vr q, vi ((L.length : Nat) : Int)].set 2 (vi (((L.length : Nat) : Int) + 1))))) p = some (Ob 3 [vi ((7 : Nat) : Int), vr q, vi (((L.length : Nat) : Int) + 1)]) := lk_up_s f26
        have f31 : lk (up w25 p (Ob 3 ([vi ((7 : Nat) : Int), vr q, vi ((L.length : Nat) : Int)].set 2 (vi (((L.length : Nat) : Int) + 1))))) q = some (Ar 0 (cap * 7) (uN (uN (uN (uN (uN (uN (uN f (L.length * 7 + 0) kind) (L.length * 7 + 1) c) (L.length * 7 + 2) serial) (L.length * 7 + 3) fr) (L.length * 7 + 4) tt) (L.length * 7 + 5) claims) (L.length * 7 + 6) tried)) := (lk_up_n hqp).trans f27
        have fr32 : Frm p q w (up w25 p (Ob 3 ([vi ((7 : Nat) : Int), vr q, vi ((L.length : Nat) : Int)].set 2 (vi (((L.length : Nat) : Int) + 1))))) := fr28.u1
        generalize up w25 p (Ob 3 ([vi ((7 : Nat) : Int), vr q, vi ((L.length : Nat) : Int)].set 2 (vi (((L.length : Nat) : Int) + 1)))) = w29 at f30 f31 fr32 ⊢
        exact M.vret rfl (Nat.zero_le _) (Nat.zero_le _) (by
            obtain ⟨p1, p2, p3⟩ := put7 (f := f) (x := L.length * 7 + 1) (c := 0) (v0 := kind) (v1 := c) (v2 := serial) (v3 := fr) (v4 := tt) (v5 := claims) (v6 := tried) (v := 0) (by omega)
            rw [if_neg (by omega)]
            refine ⟨rfl, ⟨by rw [List.length_append]; exact f30, _, f31, by rw [List.length_append]; show L.length + 1 ≤ cap; omega, fun i k hi hk => ?_⟩, fr32⟩
            rw [List.length_append] at hi
            have hi2 : i < L.length + 1 := hi
            by_cases e : i < L.length
            · rw [gR_app e, uN_o (by omega), uN_o (by omega), uN_o (by omega), uN_o (by omega), uN_o (by omega), uN_o (by omega), uN_o (by omega)]; exact hf i k e hk
            · have e2 : i = L.length := by omega
              subst e2
              rw [gR_last]
              match k, hk with
              | 0, _ => rw [uN_o (by omega), uN_o (by omega), uN_o (by omega), uN_o (by omega), uN_o (by omega), uN_o (by omega), show 7 * L.length + 0 = L.length * 7 + 0 by omega, uN_s]; rfl
              | 1, _ => rw [uN_o (by omega), uN_o (by omega), uN_o (by omega), uN_o (by omega), uN_o (by omega), show 7 * L.length + 1 = L.length * 7 + 1 by omega, uN_s]; rfl
              | 2, _ => rw [uN_o (by omega), uN_o (by omega), uN_o (by omega), uN_o (by omega), show 7 * L.length + 2 = L.length * 7 + 2 by omega, uN_s]; rfl
              | 3, _ => rw [uN_o (by omega), uN_o (by omega), uN_o (by omega), show 7 * L.length + 3 = L.length * 7 + 3 by omega, uN_s]; rfl
              | 4, _ => rw [uN_o (by omega), uN_o (by omega), show 7 * L.length + 4 = L.length * 7 + 4 by omega, uN_s]; rfl
              | 5, _ => rw [uN_o (by omega), show 7 * L.length + 5 = L.length * 7 + 5 by omega, uN_s]; rfl
              | 6, _ => rw [show 7 * L.length + 6 = L.length * 7 + 6 by omega, uN_s]; rfl
              | k + 7, h => exact absurd h (by omega))
      · skip
        exact M.vret rfl (Nat.zero_le _) (Nat.zero_le _) ⟨rfl, by rw [if_pos (by omega)]; exact ⟨hO, f, hC, hlc, hf⟩, Frm.rf⟩
set_option maxHeartbeats 4000000 in
set_option maxRecDepth 100000 in
theorem kX4_remove7 (l : Launch) (G : GT) (p q cap : Nat) (hcap : cap ≤ 100) (L : List Rw) (i : Nat) (hi : i < L.length) : Ctr l G yX4_remove cX4_remove 4 ((Option.none : Option Jvm.ClassFile.FieldType)) 1 0 0 [vr p, vi ((i : Nat) : Int)] (fun w => isRw p q 7 cap L w) (fun w r w' => r = none ∧ isRw p q 7 cap (L.eraseIdx i) w' ∧ Frm p q w w') := by
  refine Ctr.of (t := tX4_remove) (lv0 := [some (vr p), some (vi ((i : Nat) : Int)), none, none]) (by decide +kernel) tX4_remove_ok rfl rfl (fun w g hP M => ?_)
  have hP0 := hP
  obtain ⟨hO, f, hC, hlc, hf⟩ := hP
  have hpq : p ≠ q := fun e => by rw [e, hC] at hO; cases hO
  have hqp : q ≠ p := fun e => hpq e.symm
  refine M.run 4 (pc' := 4) (lv' := [some (vr p), some (vi ((i : Nat) : Int)), none, none]) (st' := [vr p, vi (((i : Nat) : Int) + 1)]) rfl ?_
  refine M.get fl_X4_15 rfl hO (kf := 0) (v := vi ((7 : Nat) : Int)) rfl ?_
  refine M.run 3 (pc' := 10) (lv' := [some (vr p), some (vi ((i : Nat) : Int)), some (vi ((((i : Nat) : Int) + 1) * ((7 : Nat) : Int))), none]) (st' := [vr p]) rfl ?_
  refine M.get fl_X4_25 rfl hO (kf := 2) (v := vi ((L.length : Nat) : Int)) rfl ?_
  refine M.run 1 (pc' := 14) (lv' := [some (vr p), some (vi ((i : Nat) : Int)), some (vi ((((i : Nat) : Int) + 1) * ((7 : Nat) : Int))), none]) (st' := [vr p, vi ((L.length : Nat) : Int)]) rfl ?_
  refine M.get fl_X4_15 rfl hO (kf := 0) (v := vi ((7 : Nat) : Int)) rfl ?_
  refine M.run 4 (pc' := 21) (lv' := [some (vr p), some (vi ((i : Nat) : Int)), some (vi ((((i : Nat) : Int) + 1) * ((7 : Nat) : Int))), some (vi ((((L.length : Nat) : Int) * ((7 : Nat) : Int)) - ((((i : Nat) : Int) + 1) * ((7 : Nat) : Int))))]) (st' := []) rfl ?_
  rw [show (((L.length : Nat) : Int) * ((7 : Nat) : Int)) - ((((i : Nat) : Int) + 1) * ((7 : Nat) : Int)) = (((L.length - i - 1) * 7 : Nat) : Int) from by omega]
  refine M.run 1 (pc' := 22) (lv' := [some (vr p), some (vi ((i : Nat) : Int)), some (vi ((((i : Nat) : Int) + 1) * ((7 : Nat) : Int))), some (vi (((L.length - i - 1) * 7 : Nat) : Int))]) (st' := [vi ((i : Nat) : Int)]) rfl ?_
  refine M.if_lt (tgt := 56) rfl (qI (by omega)) (by decide) (fun h22 => ?_) (fun h22 => ?_)
  · skip
    omega
  · skip
    refine M.run 2 (pc' := 27) (lv' := [some (vr p), some (vi ((i : Nat) : Int)), some (vi ((((i : Nat) : Int) + 1) * ((7 : Nat) : Int))), some (vi (((L.length - i - 1) * 7 : Nat) : Int))]) (st' := [vr p, vi ((i : Nat) : Int)]) rfl ?_
    refine M.get fl_X4_25 rfl hO (kf := 2) (v := vi ((L.length : Nat) : Int)) rfl ?_
    refine M.icmp_ge (tgt := 56) rfl (qI (by omega)) (qI (by omega)) (by decide) (fun h30 => ?_) (fun h30 => ?_)
    · skip
      omega
    · skip
      refine M.run 2 (pc' := 35) (lv' := [some (vr p), some (vi ((i : Nat) : Int)), some (vi ((((i : Nat) : Int) + 1) * ((7 : Nat) : Int))), some (vi (((L.length - i - 1) * 7 : Nat) : Int))]) (st' := [vr p, vi ((((i : Nat) : Int) + 1) * ((7 : Nat) : Int))]) rfl ?_
      refine M.get fl_X4_15 rfl hO (kf := 0) (v := vi ((7 : Nat) : Int)) rfl ?_
      refine M.icmp_lt (tgt := 56) rfl (qI (by omega)) (qI (by omega)) (by decide) (fun h38 => ?_) (fun h38 => ?_)
      · skip
        omega
      · skip
        refine M.run 1 (pc' := 42) (lv' := [some (vr p), some (vi ((i : Nat) : Int)), some (vi ((((i : Nat) : Int) + 1) * ((7 : Nat) : Int))), some (vi (((L.length - i - 1) * 7 : Nat) : Int))]) (st' := [vi (((L.length - i - 1) * 7 : Nat) : Int)]) rfl ?_
        refine M.if_lt (tgt := 56) rfl (qI (by omega)) (by decide) (fun h42 => ?_) (fun h42 => ?_)
        · skip
          omega
        · skip
          refine M.run 2 (pc' := 47) (lv' := [some (vr p), some (vi ((i : Nat) : Int)), some (vi ((((i : Nat) : Int) + 1) * ((7 : Nat) : Int))), some (vi (((L.length - i - 1) * 7 : Nat) : Int))]) (st' := [vr p, vi (((L.length - i - 1) * 7 : Nat) : Int)]) rfl ?_
          refine M.get fl_X4_21 rfl hO (kf := 1) (v := vr q) rfl ?_
          refine M.alen rfl hC (by decide) ?_
          refine M.run 2 (pc' := 53) (lv' := [some (vr p), some (vi ((i : Nat) : Int)), some (vi ((((i : Nat) : Int) + 1) * ((7 : Nat) : Int))), some (vi (((L.length - i - 1) * 7 : Nat) : Int))]) (st' := [vi ((((cap * 7) : Nat) : Int) - ((((i : Nat) : Int) + 1) * ((7 : Nat) : Int))), vi (((L.length - i - 1) * 7 : Nat) : Int)]) rfl ?_
          refine M.icmp_le (tgt := 57) rfl (qI (by omega)) (qI (by omega)) (by decide) (fun h53 => ?_) (fun h53 => ?_)
          · skip
            refine M.run 1 (pc' := 58) (lv' := [some (vr p), some (vi ((i : Nat) : Int)), some (vi ((((i : Nat) : Int) + 1) * ((7 : Nat) : Int))), some (vi (((L.length - i - 1) * 7 : Nat) : Int))]) (st' := [vr p]) rfl ?_
            refine M.get fl_X4_21 rfl hO (kf := 1) (v := vr q) rfl ?_
            refine M.run 2 (pc' := 63) (lv' := [some (vr p), some (vi ((i : Nat) : Int)), some (vi ((((i : Nat) : Int) + 1) * ((7 : Nat) : Int))), some (vi (((L.length - i - 1) * 7 : Nat) : Int))]) (st' := [vr p, vi ((((i : Nat) : Int) + 1) * ((7 : Nat) : Int)), vr q]) rfl ?_
            refine M.get fl_X4_21 rfl hO (kf := 1) (v := vr q) rfl ?_
            refine M.run 2 (pc' := 68) (lv' := [some (vr p), some (vi ((i : Nat) : Int)), some (vi ((((i : Nat) : Int) + 1) * ((7 : Nat) : Int))), some (vi (((L.length - i - 1) * 7 : Nat) : Int))]) (st' := [vr p, vi ((((i : Nat) : Int) + 1) * ((7 : Nat) : Int)), vr q, vi ((((i : Nat) : Int) + 1) * ((7 : Nat) : Int)), vr q]) rfl ?_
            refine M.get fl_X4_15 rfl hO (kf := 0) (v := vi ((7 : Nat) : Int)) rfl ?_
            refine M.run 1 (pc' := 72) (lv' := [some (vr p), some (vi ((i : Nat) : Int)), some (vi ((((i : Nat) : Int) + 1) * ((7 : Nat) : Int))), some (vi (((L.length - i - 1) * 7 : Nat) : Int))]) (st' := [vi (((((i : Nat) : Int) + 1) * ((7 : Nat) : Int)) - ((7 : Nat) : Int)), vr q, vi ((((i : Nat) : Int) + 1) * ((7 : Nat) : Int)), vr q]) rfl ?_
            rw [show ((((i : Nat) : Int) + 1) * ((7 : Nat) : Int)) - ((7 : Nat) : Int) = ((i * 7 : Nat) : Int) from by omega]
            refine M.run 1 (pc' := 73) (lv' := [some (vr p), some (vi ((i : Nat) : Int)), some (vi ((((i : Nat) : Int) + 1) * ((7 : Nat) : Int))), some (vi (((L.length - i - 1) * 7 : Nat) : Int))]) (st' := [vi (((L.length - i - 1) * 7 : Nat) : Int), vi ((i * 7 : Nat) : Int), vr q, vi ((((i : Nat) : Int) + 1) * ((7 : Nat) : Int)), vr q]) rfl ?_
            refine M.acopy ((i + 1) * 7) (i * 7) ((L.length - i - 1) * 7) ac_X4_31 rfl hC hC (by omega) (by omega) (by omega) (by omega) (by decide) rfl ?_
            have f2 : lk (up w q (Ar 0 (cap * 7) (cpN f f ((i + 1) * 7) (i * 7) ((L.length - i - 1) * 7)))) p = some (Ob 3 [vi ((7 : Nat) : Int), vr q, vi ((L.length : Nat) : Int)]) := (lk_up_n hpq).trans hO
            have f3 : lk (up w q (Ar 0 (cap * 7) (cpN f f ((i + 1) * 7) (i * 7) ((L.length - i - 1) * 7)))) q = some (Ar 0 (cap * 7) (cpN f f ((i + 1) * 7) (i * 7) ((L.length - i - 1) * 7))) := lk_up_s hC
            have fr4 : Frm p q w (up w q (Ar 0 (cap * 7) (cpN f f ((i + 1) * 7) (i * 7) ((L.length - i - 1) * 7)))) := (Frm.rf).u2
            generalize up w q (Ar 0 (cap * 7) (cpN f f ((i + 1) * 7) (i * 7) ((L.length - i - 1) * 7))) = w1 at f2 f3 fr4 ⊢
            refine M.run 2 (pc' := 78) (lv' := [some (vr p), some (vi ((i : Nat) : Int)), some (vi ((((i : Nat) : Int) + 1) * ((7 : Nat) : Int))), some (vi (((L.length - i - 1) * 7 : Nat) : Int))]) (st' := [vr p, vr p]) rfl ?_
            refine M.get fl_X4_25 rfl f2 (kf := 2) (v := vi ((L.length : Nat) : Int)) rfl ?_
            refine M.run 2 (pc' := 83) (lv' := [some (vr p), some (vi ((i : Nat) : Int)), some (vi ((((i : Nat) : Int) + 1) * ((7 : Nat) : Int))), some (vi (((L.length - i - 1) * 7 : Nat) : Int))]) (st' := [vi (((L.length : Nat) : Int) - 1), vr p]) rfl ?_
            refine M.put fl_X4_25 rfl f2 rfl rfl (Nat.le_of_ble_eq_true rfl) ?_
            have f6 : lk (up w1 p (Ob 3 ([vi ((7 : Nat) : Int), vr q, vi ((L.length : Nat) : Int)].set 2 (vi (((L.length : Nat) : Int) - 1))))) p = some (Ob 3 [vi ((7 : Nat) : Int), vr q, vi (((L.length : Nat) : Int) - 1)]) := lk_up_s f2
            have f7 : lk (up w1 p (Ob 3 ([vi ((7 : Nat) : Int), vr q, vi ((L.length : Nat) : Int)].set 2 (vi (((L.length : Nat) : Int) - 1))))) q = some (Ar 0 (cap * 7) (cpN f f ((i + 1) * 7) (i * 7) ((L.length - i - 1) * 7))) := (lk_up_n hqp).trans f3
            have fr8 : Frm p q w (up w1 p (Ob 3 ([vi ((7 : Nat) : Int), vr q, vi ((L.length : Nat) : Int)].set 2 (vi (((L.length : Nat) : Int) - 1))))) := fr4.u1
            generalize up w1 p (Ob 3 ([vi ((7 : Nat) : Int), vr q, vi ((L.length : Nat) : Int)].set 2 (vi (((L.length : Nat) : Int) - 1)))) = w5 at f6 f7 fr8 ⊢
            exact M.vret rfl (Nat.zero_le _) (Nat.zero_le _) (by
                have hle : (L.eraseIdx i).length = L.length - 1 := by rw [List.length_eraseIdx, if_pos hi]
                refine ⟨rfl, ⟨by rw [hle, show ((L.length - 1 : Nat) : Int) = ((L.length : Nat) : Int) - 1 by omega]; exact f6, _, f7, by rw [hle]; omega, fun j c hj hc => ?_⟩, fr8⟩
                rw [hle] at hj
                unfold cpN
                by_cases e : j < i
                · rw [gR_er_lt e, if_neg (by omega)]; exact hf j c (by omega) hc
                · rw [gR_er_ge (by omega), if_pos (by omega), ← hf (j + 1) c (by omega) hc]; congr 1; omega)
          · skip
            omega
set_option maxHeartbeats 4000000 in
set_option maxRecDepth 100000 in
theorem kX4_remove9 (l : Launch) (G : GT) (p q cap : Nat) (hcap : cap ≤ 100) (L : List Rw) (i : Nat) (hi : i < L.length) : Ctr l G yX4_remove cX4_remove 4 ((Option.none : Option Jvm.ClassFile.FieldType)) 1 0 0 [vr p, vi ((i : Nat) : Int)] (fun w => isRw p q 9 cap L w) (fun w r w' => r = none ∧ isRw p q 9 cap (L.eraseIdx i) w' ∧ Frm p q w w') := by
  refine Ctr.of (t := tX4_remove) (lv0 := [some (vr p), some (vi ((i : Nat) : Int)), none, none]) (by decide +kernel) tX4_remove_ok rfl rfl (fun w g hP M => ?_)
  have hP0 := hP
  obtain ⟨hO, f, hC, hlc, hf⟩ := hP
  have hpq : p ≠ q := fun e => by rw [e, hC] at hO; cases hO
  have hqp : q ≠ p := fun e => hpq e.symm
  refine M.run 4 (pc' := 4) (lv' := [some (vr p), some (vi ((i : Nat) : Int)), none, none]) (st' := [vr p, vi (((i : Nat) : Int) + 1)]) rfl ?_
  refine M.get fl_X4_15 rfl hO (kf := 0) (v := vi ((9 : Nat) : Int)) rfl ?_
  refine M.run 3 (pc' := 10) (lv' := [some (vr p), some (vi ((i : Nat) : Int)), some (vi ((((i : Nat) : Int) + 1) * ((9 : Nat) : Int))), none]) (st' := [vr p]) rfl ?_
  refine M.get fl_X4_25 rfl hO (kf := 2) (v := vi ((L.length : Nat) : Int)) rfl ?_
  refine M.run 1 (pc' := 14) (lv' := [some (vr p), some (vi ((i : Nat) : Int)), some (vi ((((i : Nat) : Int) + 1) * ((9 : Nat) : Int))), none]) (st' := [vr p, vi ((L.length : Nat) : Int)]) rfl ?_
  refine M.get fl_X4_15 rfl hO (kf := 0) (v := vi ((9 : Nat) : Int)) rfl ?_
  refine M.run 4 (pc' := 21) (lv' := [some (vr p), some (vi ((i : Nat) : Int)), some (vi ((((i : Nat) : Int) + 1) * ((9 : Nat) : Int))), some (vi ((((L.length : Nat) : Int) * ((9 : Nat) : Int)) - ((((i : Nat) : Int) + 1) * ((9 : Nat) : Int))))]) (st' := []) rfl ?_
  rw [show (((L.length : Nat) : Int) * ((9 : Nat) : Int)) - ((((i : Nat) : Int) + 1) * ((9 : Nat) : Int)) = (((L.length - i - 1) * 9 : Nat) : Int) from by omega]
  refine M.run 1 (pc' := 22) (lv' := [some (vr p), some (vi ((i : Nat) : Int)), some (vi ((((i : Nat) : Int) + 1) * ((9 : Nat) : Int))), some (vi (((L.length - i - 1) * 9 : Nat) : Int))]) (st' := [vi ((i : Nat) : Int)]) rfl ?_
  refine M.if_lt (tgt := 56) rfl (qI (by omega)) (by decide) (fun h22 => ?_) (fun h22 => ?_)
  · skip
    omega
  · skip
    refine M.run 2 (pc' := 27) (lv' := [some (vr p), some (vi ((i : Nat) : Int)), some (vi ((((i : Nat) : Int) + 1) * ((9 : Nat) : Int))), some (vi (((L.length - i - 1) * 9 : Nat) : Int))]) (st' := [vr p, vi ((i : Nat) : Int)]) rfl ?_
    refine M.get fl_X4_25 rfl hO (kf := 2) (v := vi ((L.length : Nat) : Int)) rfl ?_
    refine M.icmp_ge (tgt := 56) rfl (qI (by omega)) (qI (by omega)) (by decide) (fun h30 => ?_) (fun h30 => ?_)
    · skip
      omega
    · skip
      refine M.run 2 (pc' := 35) (lv' := [some (vr p), some (vi ((i : Nat) : Int)), some (vi ((((i : Nat) : Int) + 1) * ((9 : Nat) : Int))), some (vi (((L.length - i - 1) * 9 : Nat) : Int))]) (st' := [vr p, vi ((((i : Nat) : Int) + 1) * ((9 : Nat) : Int))]) rfl ?_
      refine M.get fl_X4_15 rfl hO (kf := 0) (v := vi ((9 : Nat) : Int)) rfl ?_
      refine M.icmp_lt (tgt := 56) rfl (qI (by omega)) (qI (by omega)) (by decide) (fun h38 => ?_) (fun h38 => ?_)
      · skip
        omega
      · skip
        refine M.run 1 (pc' := 42) (lv' := [some (vr p), some (vi ((i : Nat) : Int)), some (vi ((((i : Nat) : Int) + 1) * ((9 : Nat) : Int))), some (vi (((L.length - i - 1) * 9 : Nat) : Int))]) (st' := [vi (((L.length - i - 1) * 9 : Nat) : Int)]) rfl ?_
        refine M.if_lt (tgt := 56) rfl (qI (by omega)) (by decide) (fun h42 => ?_) (fun h42 => ?_)
        · skip
          omega
        · skip
          refine M.run 2 (pc' := 47) (lv' := [some (vr p), some (vi ((i : Nat) : Int)), some (vi ((((i : Nat) : Int) + 1) * ((9 : Nat) : Int))), some (vi (((L.length - i - 1) * 9 : Nat) : Int))]) (st' := [vr p, vi (((L.length - i - 1) * 9 : Nat) : Int)]) rfl ?_
          refine M.get fl_X4_21 rfl hO (kf := 1) (v := vr q) rfl ?_
          refine M.alen rfl hC (by decide) ?_
          refine M.run 2 (pc' := 53) (lv' := [some (vr p), some (vi ((i : Nat) : Int)), some (vi ((((i : Nat) : Int) + 1) * ((9 : Nat) : Int))), some (vi (((L.length - i - 1) * 9 : Nat) : Int))]) (st' := [vi ((((cap * 9) : Nat) : Int) - ((((i : Nat) : Int) + 1) * ((9 : Nat) : Int))), vi (((L.length - i - 1) * 9 : Nat) : Int)]) rfl ?_
          refine M.icmp_le (tgt := 57) rfl (qI (by omega)) (qI (by omega)) (by decide) (fun h53 => ?_) (fun h53 => ?_)
          · skip
            refine M.run 1 (pc' := 58) (lv' := [some (vr p), some (vi ((i : Nat) : Int)), some (vi ((((i : Nat) : Int) + 1) * ((9 : Nat) : Int))), some (vi (((L.length - i - 1) * 9 : Nat) : Int))]) (st' := [vr p]) rfl ?_
            refine M.get fl_X4_21 rfl hO (kf := 1) (v := vr q) rfl ?_
            refine M.run 2 (pc' := 63) (lv' := [some (vr p), some (vi ((i : Nat) : Int)), some (vi ((((i : Nat) : Int) + 1) * ((9 : Nat) : Int))), some (vi (((L.length - i - 1) * 9 : Nat) : Int))]) (st' := [vr p, vi ((((i : Nat) : Int) + 1) * ((9 : Nat) : Int)), vr q]) rfl ?_
            refine M.get fl_X4_21 rfl hO (kf := 1) (v := vr q) rfl ?_
            refine M.run 2 (pc' := 68) (lv' := [some (vr p), some (vi ((i : Nat) : Int)), some (vi ((((i : Nat) : Int) + 1) * ((9 : Nat) : Int))), some (vi (((L.length - i - 1) * 9 : Nat) : Int))]) (st' := [vr p, vi ((((i : Nat) : Int) + 1) * ((9 : Nat) : Int)), vr q, vi ((((i : Nat) : Int) + 1) * ((9 : Nat) : Int)), vr q]) rfl ?_
            refine M.get fl_X4_15 rfl hO (kf := 0) (v := vi ((9 : Nat) : Int)) rfl ?_
            refine M.run 1 (pc' := 72) (lv' := [some (vr p), some (vi ((i : Nat) : Int)), some (vi ((((i : Nat) : Int) + 1) * ((9 : Nat) : Int))), some (vi (((L.length - i - 1) * 9 : Nat) : Int))]) (st' := [vi (((((i : Nat) : Int) + 1) * ((9 : Nat) : Int)) - ((9 : Nat) : Int)), vr q, vi ((((i : Nat) : Int) + 1) * ((9 : Nat) : Int)), vr q]) rfl ?_
            rw [show ((((i : Nat) : Int) + 1) * ((9 : Nat) : Int)) - ((9 : Nat) : Int) = ((i * 9 : Nat) : Int) from by omega]
            refine M.run 1 (pc' := 73) (lv' := [some (vr p), some (vi ((i : Nat) : Int)), some (vi ((((i : Nat) : Int) + 1) * ((9 : Nat) : Int))), some (vi (((L.length - i - 1) * 9 : Nat) : Int))]) (st' := [vi (((L.length - i - 1) * 9 : Nat) : Int), vi ((i * 9 : Nat) : Int), vr q, vi ((((i : Nat) : Int) + 1) * ((9 : Nat) : Int)), vr q]) rfl ?_
            refine M.acopy ((i + 1) * 9) (i * 9) ((L.length - i - 1) * 9) ac_X4_31 rfl hC hC (by omega) (by omega) (by omega) (by omega) (by decide) rfl ?_
            have f2 : lk (up w q (Ar 0 (cap * 9) (cpN f f ((i + 1) * 9) (i * 9) ((L.length - i - 1) * 9)))) p = some (Ob 3 [vi ((9 : Nat) : Int), vr q, vi ((L.length : Nat) : Int)]) := (lk_up_n hpq).trans hO
            have f3 : lk (up w q (Ar 0 (cap * 9) (cpN f f ((i + 1) * 9) (i * 9) ((L.length - i - 1) * 9)))) q = some (Ar 0 (cap * 9) (cpN f f ((i + 1) * 9) (i * 9) ((L.length - i - 1) * 9))) := lk_up_s hC
            have fr4 : Frm p q w (up w q (Ar 0 (cap * 9) (cpN f f ((i + 1) * 9) (i * 9) ((L.length - i - 1) * 9)))) := (Frm.rf).u2
            generalize up w q (Ar 0 (cap * 9) (cpN f f ((i + 1) * 9) (i * 9) ((L.length - i - 1) * 9))) = w1 at f2 f3 fr4 ⊢
            refine M.run 2 (pc' := 78) (lv' := [some (vr p), some (vi ((i : Nat) : Int)), some (vi ((((i : Nat) : Int) + 1) * ((9 : Nat) : Int))), some (vi (((L.length - i - 1) * 9 : Nat) : Int))]) (st' := [vr p, vr p]) rfl ?_
            refine M.get fl_X4_25 rfl f2 (kf := 2) (v := vi ((L.length : Nat) : Int)) rfl ?_
            refine M.run 2 (pc' := 83) (lv' := [some (vr p), some (vi ((i : Nat) : Int)), some (vi ((((i : Nat) : Int) + 1) * ((9 : Nat) : Int))), some (vi (((L.length - i - 1) * 9 : Nat) : Int))]) (st' := [vi (((L.length : Nat) : Int) - 1), vr p]) rfl ?_
            refine M.put fl_X4_25 rfl f2 rfl rfl (Nat.le_of_ble_eq_true rfl) ?_
            have f6 : lk (up w1 p (Ob 3 ([vi ((9 : Nat) : Int), vr q, vi ((L.length : Nat) : Int)].set 2 (vi (((L.length : Nat) : Int) - 1))))) p = some (Ob 3 [vi ((9 : Nat) : Int), vr q, vi (((L.length : Nat) : Int) - 1)]) := lk_up_s f2
            have f7 : lk (up w1 p (Ob 3 ([vi ((9 : Nat) : Int), vr q, vi ((L.length : Nat) : Int)].set 2 (vi (((L.length : Nat) : Int) - 1))))) q = some (Ar 0 (cap * 9) (cpN f f ((i + 1) * 9) (i * 9) ((L.length - i - 1) * 9))) := (lk_up_n hqp).trans f3
            have fr8 : Frm p q w (up w1 p (Ob 3 ([vi ((9 : Nat) : Int), vr q, vi ((L.length : Nat) : Int)].set 2 (vi (((L.length : Nat) : Int) - 1))))) := fr4.u1
            generalize up w1 p (Ob 3 ([vi ((9 : Nat) : Int), vr q, vi ((L.length : Nat) : Int)].set 2 (vi (((L.length : Nat) : Int) - 1)))) = w5 at f6 f7 fr8 ⊢
            exact M.vret rfl (Nat.zero_le _) (Nat.zero_le _) (by
                have hle : (L.eraseIdx i).length = L.length - 1 := by rw [List.length_eraseIdx, if_pos hi]
                refine ⟨rfl, ⟨by rw [hle, show ((L.length - 1 : Nat) : Int) = ((L.length : Nat) : Int) - 1 by omega]; exact f6, _, f7, by rw [hle]; omega, fun j c hj hc => ?_⟩, fr8⟩
                rw [hle] at hj
                unfold cpN
                by_cases e : j < i
                · rw [gR_er_lt e, if_neg (by omega)]; exact hf j c (by omega) hc
                · rw [gR_er_ge (by omega), if_pos (by omega), ← hf (j + 1) c (by omega) hc]; congr 1; omega)
          · skip
            omega
