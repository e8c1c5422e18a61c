set_option maxRecDepth 20000 in
theorem fs_X10_243 : Cond.fieldLink RX10 243 "LongCarrier" "TIMER_COLUMNS" "[I" ∈ lw_g := lw_g_in (List.mem_of_getElem? (i := 1076) (by decide +kernel)) rfl
section QSTA
variable {l : Launch} {G : GT} {y : MethodName} {cc : ByteArray} {t : Tab} {nL : Nat} {ret : Option FieldType} {d mc ms : Nat} {Qp : Option AV → Wo → Prop} {g : gF}
variable {k n : Nat} {w : Wo} {pc : Nat} {lv : Lo} {st : List AV} {idx : Nat}
theorem Mach.getsT (M : Mach l G y cc t nL ret d mc ms Qp g) (hl : Cond.fieldLink y.cls idx "LongCarrier" "TIMER_COLUMNS" "[I" ∈ lw_g) (hq : qlk t pc = some (.getstatic idx, 3)) (kk : g k n w (pc + 3) lv (vr (gT G) :: st)) : g k n w pc lv st := by
  obtain ⟨p, e, s, m, args, below, meth, c, A, hx, hb, ht, hml, hr', hlk, hown, hts, hnm, hA, hAB, hB, hK, hSt, rfl⟩ := M
  intro H locs ls hP hD hS hl2
  exact va_gets hx hb (va_Z.narrow hSt.2.2.1 hAB) hS hown (hts _ hl) (fun _ h => h) (qdec ht hq) (kk H locs ls hP hD hS hl2)
theorem Mach.getsN (M : Mach l G y cc t nL ret d mc ms Qp g) (hl : y.cls = "LongCarrier$Reader") (hq : qlk t pc = some (.getstatic 25, 3)) (kk : g k n w (pc + 3) lv (vr (gN G) :: st)) : g k n w pc lv st := by
  obtain ⟨p, e, s, m, args, below, meth, c, A, hx, hb, ht, hml, hr', hlk, hown, hts, hnm, hA, hAB, hB, hK, hSt, rfl⟩ := M
  intro H locs ls hP hD hS hl2
  exact va_getsN hx hb (va_Z.narrow hSt.1 hAB) hS (hl ▸ hown) (va_Nw.use rfl hSt.2.2.2.2.1.1) (fun _ h => h) (qdec ht hq) (kk H locs ls hP hD hS hl2)
theorem Mach.alenT (M : Mach l G y cc t nL ret d mc ms Qp g) (hq : qlk t pc = some (.arraylength, 1)) (kk : g k n w (pc + 1) lv (vi 6 :: st)) : g k n w pc lv (vr (gT G) :: st) := by
  obtain ⟨p, e, s, m, args, below, meth, c, A, hx, hb, ht, hml, hr', hlk, hown, hts, hnm, hA, hAB, hB, hK, hSt, rfl⟩ := M
  intro H locs ls hP hD hS hl
  exact va_tlen hx hb (va_T.narrow hSt.2.2.2.1 hAB) hS (v := iI 6) rfl (qdec ht hq) (kk H locs ls hP hD hS hl)
theorem Mach.ialdT (i : Nat) (M : Mach l G y cc t nL ret d mc ms Qp g) (hq : qlk t pc = some (.iaload, 1)) (hi : i < 6) (kk : g k n w (pc + 1) lv (vi (tcq i) :: st)) : g k n w pc lv (vi ((i : Nat) : Int) :: vr (gT G) :: st) := by
  obtain ⟨p, e, s, m, args, below, meth, c, A, hx, hb, ht, hml, hr', hlk, hown, hts, hnm, hA, hAB, hB, hK, hSt, rfl⟩ := M
  intro H locs ls hP hD hS hl
  exact va_ti hx hb (va_T.narrow hSt.2.2.2.1 hAB) hS (i := iI (i : Int)) (fun q => q.elim (iI_n0 (by omega)) (fun z => by rw [iI_clN (by omega)] at z; omega)) (v := .int (iI (tcq i))) (by rw [iI_clN (by omega)]) (qdec ht hq) (kk H locs ls hP hD hS hl)
end QSTA
theorem tcq_t {k : Nat} (h : k < 6) : tcq k = ((tmC k : Nat) : Int) ∧ tmC k < 9 := by
  match k, h with
  | 0, _ => exact ⟨rfl, by decide⟩
  | 1, _ => exact ⟨rfl, by decide⟩
  | 2, _ => exact ⟨rfl, by decide⟩
  | 3, _ => exact ⟨rfl, by decide⟩
  | 4, _ => exact ⟨rfl, by decide⟩
  | 5, _ => exact ⟨rfl, by decide⟩
  | n + 6, h => exact absurd h (by omega)
theorem cc_n {y z : Int} {Lx : List Rw} {m k : Int} (hm : m = k + 1) : (if y = -1 then ((Lx.length : Nat) : Int) else if (0 ≤ y ∧ y < ((Lx.length : Nat) : Int)) ∧ 0 ≤ z ∧ z < m then gR Lx y.toNat z.toNat else -2) = (if y = -1 then ((Lx.length : Nat) : Int) else if (0 ≤ y ∧ y < ((Lx.length : Nat) : Int)) ∧ 0 ≤ z ∧ z ≤ k then gR Lx y.toNat z.toNat else -2) := by
  congr 1
  exact ite_congr (propext ⟨fun q => ⟨q.1, q.2.1, by omega⟩, fun q => ⟨q.1, q.2.1, by omega⟩⟩) (fun _ => rfl) (fun _ => rfl)
theorem lnI_t {z : Int} (h : 0 ≤ z ∧ z ≤ 3) : lnI z = z.toNat := by
  unfold lnI
  (repeat' split) <;> omega
theorem cc_b {Lx : List Rw} (y z : Int) : (if y = -1 then ((Lx.length : Nat) : Int) else if (0 ≤ y ∧ y < ((Lx.length : Nat) : Int)) ∧ 0 ≤ z ∧ z < 4 then gR Lx y.toNat z.toNat else -2) = (if y = -1 then ((Lx.length : Nat) : Int) else if (0 ≤ y ∧ y < ((Lx.length : Nat) : Int)) ∧ 0 ≤ z ∧ z ≤ 3 then gR Lx y.toNat (lnI z) else -2) := by
  congr 1
  exact ite_congr (propext ⟨fun q => ⟨q.1, q.2.1, by omega⟩, fun q => ⟨q.1, q.2.1, by omega⟩⟩) (fun q => by rw [lnI_t q.2]) (fun _ => rfl)

set_option maxHeartbeats 4000000 in
set_option maxRecDepth 100000 in
theorem kX10_about (l : Launch) (G : GT) (kb : Nat) (tl fx fx2 : Nat → Int) (X : Nat → Int → Option Gn) (cl : Nat → Int) (D : Dy) (L : List Dy) (tl2 : Nat → Int) (D2 : Dy) (L2 : List Dy) (tp : Nat → Int) (nt fs fp : Int) (hT : Tok tl) (n : Int) (hd : Dok n D) (hn : n ≤ 1500000000) (hJ : Jok D) (hi : Inv D) (h9 : D.1 18 ≤ 9999) (hZ : Tz tl) (hru : -1 ≤ tl 2 ∧ tl 2 < tl 1) (y : Int) (hy : -2147483648 ≤ y ∧ y ≤ 2147483647)  : Ctr l G yX10_about cX10_about 2 ((Option.some Jvm.ClassFile.FieldType.int)) 1 0 0 [vr kb, vi y] (fun w => isEn G (kb + 850) (aA kb) (tz (kb + 1)) tl fx X cl 1 D w ∧ isKr kb fx fx2 L tl2 D2 L2 tp nt fs fp w) (fun w r w' => r = some (vi (if y = 5 then nt else if 0 ≤ y ∧ y ≤ 8 then (if y = 3 then ((L.length : Nat) : Int) else tl y.toNat) else -2)) ∧ w' = w) := by
  refine Ctr.of (t := tX10_about) (lv0 := [some (vr kb), some (vi y)]) (by decide +kernel) tX10_about_ok rfl rfl (fun w g hP M => ?_)
  obtain ⟨f_, E_, hsg1, hsg2, hsg3, hsg4⟩ := hP.2.2.1
  refine M.run 1 (pc' := 1) (lv' := [some (vr kb), some (vi y)]) (st' := [vi y]) rfl ?_
  by_cases hs1_0 : y = 0
  · refine M.tswIn (tgt := 52) (off := 51) rfl (qI (by omega)) (by omega) (by omega) (by rw [hs1_0]; rfl) (by decide) ?_
    refine M.run 1 (pc' := 53) (lv' := [some (vr kb), some (vi y)]) (st' := [vr kb]) rfl ?_
    refine M.get fl_X10_23 rfl (hP.2.1) (kf := 2) (v := vr ((tz (kb + 1)) 0)) rfl ?_
    refine M.get fl_X10_255 rfl hP.1.2.1.1 (kf := 0) (v := vi (tl 0)) rfl ?_
    exact M.iret rfl (Nat.zero_le _) (Nat.zero_le _) ⟨reI (by rw [hs1_0]; rfl), rfl⟩
  by_cases hs1_1 : y = 1
  · refine M.tswIn (tgt := 60) (off := 59) rfl (qI (by omega)) (by omega) (by omega) (by rw [hs1_1]; rfl) (by decide) ?_
    refine M.run 1 (pc' := 61) (lv' := [some (vr kb), some (vi y)]) (st' := [vr kb]) rfl ?_
    refine M.get fl_X10_23 rfl (hP.2.1) (kf := 2) (v := vr ((tz (kb + 1)) 0)) rfl ?_
    refine M.get fl_X10_93 rfl hP.1.2.1.1 (kf := 9) (v := vi (tl 1)) rfl ?_
    exact M.iret rfl (Nat.zero_le _) (Nat.zero_le _) ⟨reI (by rw [hs1_1]; rfl), rfl⟩
  by_cases hs1_2 : y = 2
  · refine M.tswIn (tgt := 68) (off := 67) rfl (qI (by omega)) (by omega) (by omega) (by rw [hs1_2]; rfl) (by decide) ?_
    refine M.run 1 (pc' := 69) (lv' := [some (vr kb), some (vi y)]) (st' := [vr kb]) rfl ?_
    refine M.get fl_X10_23 rfl (hP.2.1) (kf := 2) (v := vr ((tz (kb + 1)) 0)) rfl ?_
    refine M.get fl_X10_106 rfl hP.1.2.1.1 (kf := 11) (v := vi (tl 2)) rfl ?_
    exact M.iret rfl (Nat.zero_le _) (Nat.zero_le _) ⟨reI (by rw [hs1_2]; rfl), rfl⟩
  by_cases hs1_3 : y = 3
  · refine M.tswIn (tgt := 76) (off := 75) rfl (qI (by omega)) (by omega) (by omega) (by rw [hs1_3]; rfl) (by decide) ?_
    refine M.run 1 (pc' := 77) (lv' := [some (vr kb), some (vi y)]) (st' := [vr kb]) rfl ?_
    refine M.get fl_X10_12 rfl (hP.2.1) (kf := 0) (v := vr (kb + 1)) rfl ?_
    refine M.get fl_X10_258 rfl hsg3.1 (kf := 4) (v := vi ((L.length : Nat) : Int)) rfl ?_
    exact M.iret rfl (Nat.zero_le _) (Nat.zero_le _) ⟨reI (by rw [hs1_3]; rfl), rfl⟩
  by_cases hs1_4 : y = 4
  · refine M.tswIn (tgt := 84) (off := 83) rfl (qI (by omega)) (by omega) (by omega) (by rw [hs1_4]; rfl) (by decide) ?_
    refine M.run 1 (pc' := 85) (lv' := [some (vr kb), some (vi y)]) (st' := [vr kb]) rfl ?_
    refine M.get fl_X10_23 rfl (hP.2.1) (kf := 2) (v := vr ((tz (kb + 1)) 0)) rfl ?_
    refine M.get fl_X10_109 rfl hP.1.2.1.1 (kf := 12) (v := vi (tl 4)) rfl ?_
    exact M.iret rfl (Nat.zero_le _) (Nat.zero_le _) ⟨reI (by rw [hs1_4]; rfl), rfl⟩
  by_cases hs1_5 : y = 5
  · refine M.tswIn (tgt := 92) (off := 91) rfl (qI (by omega)) (by omega) (by omega) (by rw [hs1_5]; rfl) (by decide) ?_
    refine M.run 1 (pc' := 93) (lv' := [some (vr kb), some (vi y)]) (st' := [vr kb]) rfl ?_
    refine M.get fl_X10_86 rfl (hP.2.1) (kf := 8) (v := vi nt) rfl ?_
    exact M.iret rfl (Nat.zero_le _) (Nat.zero_le _) ⟨reI (by rw [hs1_5]; rfl), rfl⟩
  by_cases hs1_6 : y = 6
  · refine M.tswIn (tgt := 97) (off := 96) rfl (qI (by omega)) (by omega) (by omega) (by rw [hs1_6]; rfl) (by decide) ?_
    refine M.run 1 (pc' := 98) (lv' := [some (vr kb), some (vi y)]) (st' := [vr kb]) rfl ?_
    refine M.get fl_X10_23 rfl (hP.2.1) (kf := 2) (v := vr ((tz (kb + 1)) 0)) rfl ?_
    refine M.get fl_X10_77 rfl hP.1.2.1.1 (kf := 6) (v := vi (tl 6)) rfl ?_
    exact M.iret rfl (Nat.zero_le _) (Nat.zero_le _) ⟨reI (by rw [hs1_6]; rfl), rfl⟩
  by_cases hs1_7 : y = 7
  · refine M.tswIn (tgt := 105) (off := 104) rfl (qI (by omega)) (by omega) (by omega) (by rw [hs1_7]; rfl) (by decide) ?_
    refine M.run 1 (pc' := 106) (lv' := [some (vr kb), some (vi y)]) (st' := [vr kb]) rfl ?_
    refine M.get fl_X10_23 rfl (hP.2.1) (kf := 2) (v := vr ((tz (kb + 1)) 0)) rfl ?_
    refine M.get fl_X10_80 rfl hP.1.2.1.1 (kf := 7) (v := vi (tl 7)) rfl ?_
    exact M.iret rfl (Nat.zero_le _) (Nat.zero_le _) ⟨reI (by rw [hs1_7]; rfl), rfl⟩
  by_cases hs1_8 : y = 8
  · refine M.tswIn (tgt := 113) (off := 112) rfl (qI (by omega)) (by omega) (by omega) (by rw [hs1_8]; rfl) (by decide) ?_
    refine M.run 1 (pc' := 114) (lv' := [some (vr kb), some (vi y)]) (st' := [vr kb]) rfl ?_
    refine M.get fl_X10_23 rfl (hP.2.1) (kf := 2) (v := vr ((tz (kb + 1)) 0)) rfl ?_
    refine M.get fl_X10_83 rfl hP.1.2.1.1 (kf := 8) (v := vi (tl 8)) rfl ?_
    exact M.iret rfl (Nat.zero_le _) (Nat.zero_le _) ⟨reI (by rw [hs1_8]; rfl), rfl⟩
  refine M.tswOut (tgt := 121) rfl (qI (by omega)) (by omega) (by decide) ?_
  refine M.run 1 (pc' := 123) (lv' := [some (vr kb), some (vi y)]) (st' := [vi (-2)]) rfl ?_
  exact M.iret rfl (Nat.zero_le _) (Nat.zero_le _) ⟨reI (by rw [if_neg (by omega), if_neg (by omega)]), rfl⟩
set_option maxHeartbeats 4000000 in
set_option maxRecDepth 100000 in
theorem kX10_is (l : Launch) (G : GT) (kb : Nat) (tl fx fx2 : Nat → Int) (X : Nat → Int → Option Gn) (cl : Nat → Int) (D : Dy) (L : List Dy) (tl2 : Nat → Int) (D2 : Dy) (L2 : List Dy) (tp : Nat → Int) (nt fs fp : Int) (hT : Tok tl) (n : Int) (hd : Dok n D) (hn : n ≤ 1500000000) (hJ : Jok D) (hi : Inv D) (h9 : D.1 18 ≤ 9999) (hZ : Tz tl) (hru : -1 ≤ tl 2 ∧ tl 2 < tl 1) (y : Int) (hy : -2147483648 ≤ y ∧ y ≤ 2147483647)  : Ctr l G yX10_is cX10_is 2 ((Option.some Jvm.ClassFile.FieldType.int)) 1 0 0 [vr kb, vi y] (fun w => isEn G (kb + 850) (aA kb) (tz (kb + 1)) tl fx X cl 1 D w ∧ isKr kb fx fx2 L tl2 D2 L2 tp nt fs fp w) (fun w r w' => r = some (vi (if 0 ≤ y ∧ y ≤ 4 then D.1 (18 + y.toNat) else -2)) ∧ w' = w) := by
  refine Ctr.of (t := tX10_is) (lv0 := [some (vr kb), some (vi y)]) (by decide +kernel) tX10_is_ok rfl rfl (fun w g hP M => ?_)
  refine M.run 1 (pc' := 1) (lv' := [some (vr kb), some (vi y)]) (st' := [vi y]) rfl ?_
  by_cases hs1_0 : y = 0
  · refine M.tswIn (tgt := 36) (off := 35) rfl (qI (by omega)) (by omega) (by omega) (by rw [hs1_0]; rfl) (by decide) ?_
    refine M.run 1 (pc' := 37) (lv' := [some (vr kb), some (vi y)]) (st' := [vr kb]) rfl ?_
    refine M.get fl_X10_28 rfl (hP.2.1) (kf := 3) (v := vr ((aA kb) 0)) rfl ?_
    refine M.get fl_X10_134 rfl hP.1.1.1 (kf := 0) (v := vi (D.1 18)) rfl ?_
    exact M.iret rfl (Nat.zero_le _) (Nat.zero_le _) ⟨reI (by rw [hs1_0]; rfl), rfl⟩
  by_cases hs1_1 : y = 1
  · refine M.tswIn (tgt := 44) (off := 43) rfl (qI (by omega)) (by omega) (by omega) (by rw [hs1_1]; rfl) (by decide) ?_
    refine M.run 1 (pc' := 45) (lv' := [some (vr kb), some (vi y)]) (st' := [vr kb]) rfl ?_
    refine M.get fl_X10_28 rfl (hP.2.1) (kf := 3) (v := vr ((aA kb) 0)) rfl ?_
    refine M.get fl_X10_173 rfl hP.1.1.1 (kf := 2) (v := vi (D.1 19)) rfl ?_
    exact M.iret rfl (Nat.zero_le _) (Nat.zero_le _) ⟨reI (by rw [hs1_1]; rfl), rfl⟩
  by_cases hs1_2 : y = 2
  · refine M.tswIn (tgt := 52) (off := 51) rfl (qI (by omega)) (by omega) (by omega) (by rw [hs1_2]; rfl) (by decide) ?_
    refine M.run 1 (pc' := 53) (lv' := [some (vr kb), some (vi y)]) (st' := [vr kb]) rfl ?_
    refine M.get fl_X10_28 rfl (hP.2.1) (kf := 3) (v := vr ((aA kb) 0)) rfl ?_
    refine M.get fl_X10_246 rfl hP.1.1.1 (kf := 1) (v := vi (D.1 20)) rfl ?_
    exact M.iret rfl (Nat.zero_le _) (Nat.zero_le _) ⟨reI (by rw [hs1_2]; rfl), rfl⟩
  by_cases hs1_3 : y = 3
  · refine M.tswIn (tgt := 60) (off := 59) rfl (qI (by omega)) (by omega) (by omega) (by rw [hs1_3]; rfl) (by decide) ?_
    refine M.run 1 (pc' := 61) (lv' := [some (vr kb), some (vi y)]) (st' := [vr kb]) rfl ?_
    refine M.get fl_X10_28 rfl (hP.2.1) (kf := 3) (v := vr ((aA kb) 0)) rfl ?_
    refine M.get fl_X10_137 rfl hP.1.1.1 (kf := 3) (v := vi (D.1 21)) rfl ?_
    exact M.iret rfl (Nat.zero_le _) (Nat.zero_le _) ⟨reI (by rw [hs1_3]; rfl), rfl⟩
  by_cases hs1_4 : y = 4
  · refine M.tswIn (tgt := 68) (off := 67) rfl (qI (by omega)) (by omega) (by omega) (by rw [hs1_4]; rfl) (by decide) ?_
    refine M.run 1 (pc' := 69) (lv' := [some (vr kb), some (vi y)]) (st' := [vr kb]) rfl ?_
    refine M.get fl_X10_28 rfl (hP.2.1) (kf := 3) (v := vr ((aA kb) 0)) rfl ?_
    refine M.get fl_X10_249 rfl hP.1.1.1 (kf := 4) (v := vi (D.1 22)) rfl ?_
    exact M.iret rfl (Nat.zero_le _) (Nat.zero_le _) ⟨reI (by rw [hs1_4]; rfl), rfl⟩
  refine M.tswOut (tgt := 76) rfl (qI (by omega)) (by omega) (by decide) ?_
  refine M.run 1 (pc' := 78) (lv' := [some (vr kb), some (vi y)]) (st' := [vi (-2)]) rfl ?_
  exact M.iret rfl (Nat.zero_le _) (Nat.zero_le _) ⟨reI (by rw [if_neg (by omega)]), rfl⟩
set_option maxHeartbeats 4000000 in
set_option maxRecDepth 100000 in
theorem kX10_fault (l : Launch) (G : GT) (kb : Nat) (tl fx fx2 : Nat → Int) (X : Nat → Int → Option Gn) (cl : Nat → Int) (D : Dy) (L : List Dy) (tl2 : Nat → Int) (D2 : Dy) (L2 : List Dy) (tp : Nat → Int) (nt fs fp : Int) (hT : Tok tl) (n : Int) (hd : Dok n D) (hn : n ≤ 1500000000) (hJ : Jok D) (hi : Inv D) (h9 : D.1 18 ≤ 9999) (hZ : Tz tl) (hru : -1 ≤ tl 2 ∧ tl 2 < tl 1) (y : Int) (hy : -2147483648 ≤ y ∧ y ≤ 2147483647)  : Ctr l G yX10_fault cX10_fault 2 ((Option.some Jvm.ClassFile.FieldType.int)) 1 0 0 [vr kb, vi y] (fun w => isEn G (kb + 850) (aA kb) (tz (kb + 1)) tl fx X cl 1 D w ∧ isKr kb fx fx2 L tl2 D2 L2 tp nt fs fp w) (fun w r w' => r = some (vi (if y = 0 then fs else if y = 1 then fp else -1)) ∧ w' = w) := by
  refine Ctr.of (t := tX10_fault) (lv0 := [some (vr kb), some (vi y)]) (by decide +kernel) tX10_fault_ok rfl rfl (fun w g hP M => ?_)
  refine M.run 1 (pc' := 1) (lv' := [some (vr kb), some (vi y)]) (st' := [vi y]) rfl ?_
  refine M.if_ne (tgt := 9) rfl (qI (by omega)) (by decide) (fun h1 => ?_) (fun h1 => ?_)
  · skip
    refine M.run 2 (pc' := 11) (lv' := [some (vr kb), some (vi y)]) (st' := [vi 1, vi y]) rfl ?_
    refine M.icmp_ne (tgt := 19) rfl (qI (by omega)) (qI (by decide)) (by decide) (fun h11 => ?_) (fun h11 => ?_)
    · skip
      refine M.run 1 (pc' := 20) (lv' := [some (vr kb), some (vi y)]) (st' := [vi (-1)]) rfl ?_
      exact M.iret rfl (Nat.zero_le _) (Nat.zero_le _) ⟨reI (by rw [if_neg h1, if_neg h11]), rfl⟩
    · skip
      refine M.run 1 (pc' := 15) (lv' := [some (vr kb), some (vi y)]) (st' := [vr kb]) rfl ?_
      refine M.get fl_X10_59 rfl (hP.2.1) (kf := 10) (v := vi fp) rfl ?_
      exact M.iret rfl (Nat.zero_le _) (Nat.zero_le _) ⟨reI (by rw [if_neg h1, if_pos h11]), rfl⟩
  · skip
    refine M.run 1 (pc' := 5) (lv' := [some (vr kb), some (vi y)]) (st' := [vr kb]) rfl ?_
    refine M.get fl_X10_55 rfl (hP.2.1) (kf := 9) (v := vi fs) rfl ?_
    exact M.iret rfl (Nat.zero_le _) (Nat.zero_le _) ⟨reI (by rw [if_pos h1]), rfl⟩
set_option maxHeartbeats 4000000 in
set_option maxRecDepth 100000 in
theorem kX10_book (l : Launch) (G : GT) (kb : Nat) (tl fx fx2 : Nat → Int) (X : Nat → Int → Option Gn) (cl : Nat → Int) (D : Dy) (L : List Dy) (tl2 : Nat → Int) (D2 : Dy) (L2 : List Dy) (tp : Nat → Int) (nt fs fp : Int) (hT : Tok tl) (n : Int) (hd : Dok n D) (hn : n ≤ 1500000000) (hJ : Jok D) (hi : Inv D) (h9 : D.1 18 ≤ 9999) (hZ : Tz tl) (hru : -1 ≤ tl 2 ∧ tl 2 < tl 1) (y : Int) (z : Int) (hy : -2147483648 ≤ y ∧ y ≤ 2147483647) (hz : -2147483648 ≤ z ∧ z ≤ 2147483647)  : Ctr l G yX10_book cX10_book 3 ((Option.some Jvm.ClassFile.FieldType.int)) 3 0 0 [vr kb, vi y, vi z] (fun w => isEn G (kb + 850) (aA kb) (tz (kb + 1)) tl fx X cl 1 D w ∧ isKr kb fx fx2 L tl2 D2 L2 tp nt fs fp w) (fun w r w' => r = some (vi (if y = -1 then ((D.2.2.2.2.length : Nat) : Int) else if (0 ≤ y ∧ y < ((D.2.2.2.2.length : Nat) : Int)) ∧ 0 ≤ z ∧ z ≤ 3 then gR D.2.2.2.2 y.toNat (lnI z) else -2)) ∧ w' = w) := by
  refine Ctr.of (t := tX10_book) (lv0 := [some (vr kb), some (vi y), some (vi z)]) (by decide +kernel) tX10_book_ok rfl rfl (fun w g hP M => ?_)
  refine M.run 1 (pc' := 1) (lv' := [some (vr kb), some (vi y), some (vi z)]) (st' := [vr kb]) rfl ?_
  refine M.get fl_X10_28 rfl (hP.2.1) (kf := 3) (v := vr ((aA kb) 0)) rfl ?_
  refine M.get fl_X10_252 rfl hP.1.1.1 (kf := 10) (v := vr ((aA kb) 11)) rfl ?_
  refine M.run 2 (pc' := 9) (lv' := [some (vr kb), some (vi y), some (vi z)]) (st' := [vi z, vi y, vr ((aA kb) 11)]) rfl ?_
  refine M.callV (kX4_countOrCell4 l G ((aA kb) 11) ((aA kb) 12) 25 (by decide) D.2.2.2.2 y z (by omega) (by omega)) cv_X10_231 cd_X4_countOrCell rfl (st := []) rfl (iS_k hP.1.1).1 (by decide) (by decide) rfl (Nat.zero_le _) (Nat.zero_le _) (iS_k hP.1.1) (fun r1 w2 q3 => ?_)
  rw [q3.1, q3.2]
  exact M.iret rfl (Nat.zero_le _) (Nat.zero_le _) ⟨reI (cc_b y z), rfl⟩
set_option maxHeartbeats 4000000 in
set_option maxRecDepth 100000 in
theorem kX10_flight (l : Launch) (G : GT) (kb : Nat) (tl fx fx2 : Nat → Int) (X : Nat → Int → Option Gn) (cl : Nat → Int) (D : Dy) (L : List Dy) (tl2 : Nat → Int) (D2 : Dy) (L2 : List Dy) (tp : Nat → Int) (nt fs fp : Int) (hT : Tok tl) (n : Int) (hd : Dok n D) (hn : n ≤ 1500000000) (hJ : Jok D) (hi : Inv D) (h9 : D.1 18 ≤ 9999) (hZ : Tz tl) (hru : -1 ≤ tl 2 ∧ tl 2 < tl 1) (y : Int) (z : Int) (hy : -2147483648 ≤ y ∧ y ≤ 2147483647) (hz : -2147483648 ≤ z ∧ z ≤ 2147483647)  : Ctr l G yX10_flight cX10_flight 3 ((Option.some Jvm.ClassFile.FieldType.int)) 3 0 0 [vr kb, vi y, vi z] (fun w => isEn G (kb + 850) (aA kb) (tz (kb + 1)) tl fx X cl 1 D w ∧ isKr kb fx fx2 L tl2 D2 L2 tp nt fs fp w) (fun w r w' => r = some (vi (if y = -1 then ((D.2.2.1.length : Nat) : Int) else if (0 ≤ y ∧ y < ((D.2.2.1.length : Nat) : Int)) ∧ 0 ≤ z ∧ z ≤ 8 then gR D.2.2.1 y.toNat z.toNat else -2)) ∧ w' = w) := by
  refine Ctr.of (t := tX10_flight) (lv0 := [some (vr kb), some (vi y), some (vi z)]) (by decide +kernel) tX10_flight_ok rfl rfl (fun w g hP M => ?_)
  refine M.run 1 (pc' := 1) (lv' := [some (vr kb), some (vi y), some (vi z)]) (st' := [vr kb]) rfl ?_
  refine M.get fl_X10_28 rfl (hP.2.1) (kf := 3) (v := vr ((aA kb) 0)) rfl ?_
  refine M.get fl_X10_234 rfl hP.1.1.1 (kf := 8) (v := vr ((aA kb) 7)) rfl ?_
  refine M.run 2 (pc' := 9) (lv' := [some (vr kb), some (vi y), some (vi z)]) (st' := [vi z, vi y, vr ((aA kb) 7)]) rfl ?_
  refine M.callV (kX4_countOrCell9 l G ((aA kb) 7) ((aA kb) 8) 40 (by decide) D.2.2.1 y z (by omega) (by omega)) cv_X10_231 cd_X4_countOrCell rfl (st := []) rfl (iS_f hP.1.1).1 (by decide) (by decide) rfl (Nat.zero_le _) (Nat.zero_le _) (iS_f hP.1.1) (fun r1 w2 q3 => ?_)
  rw [q3.1, q3.2]
  exact M.iret rfl (Nat.zero_le _) (Nat.zero_le _) ⟨reI (cc_n (m := 9) (k := 8) (by omega)), rfl⟩
set_option maxHeartbeats 4000000 in
set_option maxRecDepth 100000 in
theorem kX10_out (l : Launch) (G : GT) (kb : Nat) (tl fx fx2 : Nat → Int) (X : Nat → Int → Option Gn) (cl : Nat → Int) (D : Dy) (L : List Dy) (tl2 : Nat → Int) (D2 : Dy) (L2 : List Dy) (tp : Nat → Int) (nt fs fp : Int) (hT : Tok tl) (n : Int) (hd : Dok n D) (hn : n ≤ 1500000000) (hJ : Jok D) (hi : Inv D) (h9 : D.1 18 ≤ 9999) (hZ : Tz tl) (hru : -1 ≤ tl 2 ∧ tl 2 < tl 1) (x : Int) (y : Int) (z : Int) (hx : -2147483648 ≤ x ∧ x ≤ 2147483647) (hy : -2147483648 ≤ y ∧ y ≤ 2147483647) (hz : -2147483648 ≤ z ∧ z ≤ 2147483647)  : Ctr l G yX10_out cX10_out 4 ((Option.some Jvm.ClassFile.FieldType.int)) 3 0 0 [vr kb, vi x, vi y, vi z] (fun w => isEn G (kb + 850) (aA kb) (tz (kb + 1)) tl fx X cl 1 D w ∧ isKr kb fx fx2 L tl2 D2 L2 tp nt fs fp w) (fun w r w' => r = some (vi (if 0 ≤ x ∧ x ≤ 1 then (if y = -1 then (((D.2.1 x.toNat).length : Nat) : Int) else if (0 ≤ y ∧ y < (((D.2.1 x.toNat).length : Nat) : Int)) ∧ 0 ≤ z ∧ z ≤ 6 then gR (D.2.1 x.toNat) y.toNat z.toNat else -2) else -2)) ∧ w' = w) := by
  refine Ctr.of (t := tX10_out) (lv0 := [some (vr kb), some (vi x), some (vi y), some (vi z)]) (by decide +kernel) tX10_out_ok rfl rfl (fun w g hP M => ?_)
  refine M.run 1 (pc' := 1) (lv' := [some (vr kb), some (vi x), some (vi y), some (vi z)]) (st' := [vi x]) rfl ?_
  refine M.if_lt (tgt := 9) rfl (qI (by omega)) (by decide) (fun h1 => ?_) (fun h1 => ?_)
  · skip
    refine M.run 1 (pc' := 11) (lv' := [some (vr kb), some (vi x), some (vi y), some (vi z)]) (st' := [vi (-2)]) rfl ?_
    exact M.iret rfl (Nat.zero_le _) (Nat.zero_le _) ⟨reI (if_neg (by omega)).symm, rfl⟩
  · skip
    refine M.run 2 (pc' := 6) (lv' := [some (vr kb), some (vi x), some (vi y), some (vi z)]) (st' := [vi 1, vi x]) rfl ?_
    refine M.icmp_le (tgt := 12) rfl (qI (by omega)) (qI (by decide)) (by decide) (fun h6 => ?_) (fun h6 => ?_)
    · skip
      obtain ⟨c, rfl⟩ := Int.eq_ofNat_of_zero_le (show (0 : Int) ≤ x from (by omega))
      refine M.run 1 (pc' := 13) (lv' := [some (vr kb), some (vi ((c : Nat) : Int)), some (vi y), some (vi z)]) (st' := [vr kb]) rfl ?_
      refine M.get fl_X10_28 rfl (hP.2.1) (kf := 3) (v := vr ((aA kb) 0)) rfl ?_
      refine M.run 1 (pc' := 17) (lv' := [some (vr kb), some (vi ((c : Nat) : Int)), some (vi y), some (vi z)]) (st' := [vi ((c : Nat) : Int), vr ((aA kb) 0)]) rfl ?_
      refine M.callV (qS_line l G (kb + 850) (aA kb) (tz (kb + 1)) tl fx X cl 1 D c (by omega)) cv_X10_227 cd_X6_line rfl (st := []) rfl hP.1.1.1 (by decide) (by decide) rfl (Nat.zero_le _) (Nat.zero_le _) hP.1 (fun r1 w2 q3 => ?_)
      rw [q3.1, q3.2]
      refine M.run 2 (pc' := 22) (lv' := [some (vr kb), some (vi ((c : Nat) : Int)), some (vi y), some (vi z)]) (st' := [vi z, vi y, vr ((aA kb) (3 + 2 * c))]) rfl ?_
      refine M.callV (kX4_countOrCell7 l G ((aA kb) (3 + 2 * c)) ((aA kb) (4 + 2 * c)) 24 (by decide) (D.2.1 c) y z (by omega) (by omega)) cv_X10_231 cd_X4_countOrCell rfl (st := []) rfl (iS_l hP.1.1 (s := c) (by omega)).1 (by decide) (by decide) rfl (Nat.zero_le _) (Nat.zero_le _) (iS_l hP.1.1 (s := c) (by omega)) (fun r5 w6 q7 => ?_)
      rw [q7.1, q7.2]
      exact M.iret rfl (Nat.zero_le _) (Nat.zero_le _) ⟨reI ((cc_n (m := 7) (k := 6) (by omega)).trans (if_pos (by omega)).symm), rfl⟩
    · skip
      refine M.run 1 (pc' := 11) (lv' := [some (vr kb), some (vi x), some (vi y), some (vi z)]) (st' := [vi (-2)]) rfl ?_
      exact M.iret rfl (Nat.zero_le _) (Nat.zero_le _) ⟨reI (if_neg (by omega)).symm, rfl⟩
set_option maxHeartbeats 4000000 in
set_option maxRecDepth 100000 in
theorem kX10_ledger (l : Launch) (G : GT) (kb : Nat) (tl fx fx2 : Nat → Int) (X : Nat → Int → Option Gn) (cl : Nat → Int) (D : Dy) (L : List Dy) (tl2 : Nat → Int) (D2 : Dy) (L2 : List Dy) (tp : Nat → Int) (nt fs fp : Int) (hT : Tok tl) (n : Int) (hd : Dok n D) (hn : n ≤ 1500000000) (hJ : Jok D) (hi : Inv D) (h9 : D.1 18 ≤ 9999) (hZ : Tz tl) (hru : -1 ≤ tl 2 ∧ tl 2 < tl 1) (y : Int) (hy : -2147483648 ≤ y ∧ y ≤ 2147483647)  : Ctr l G yX10_ledger cX10_ledger 2 ((Option.some Jvm.ClassFile.FieldType.int)) 3 0 0 [vr kb, vi y] (fun w => isEn G (kb + 850) (aA kb) (tz (kb + 1)) tl fx X cl 1 D w ∧ isKr kb fx fx2 L tl2 D2 L2 tp nt fs fp w) (fun w r w' => r = some (vi (if 0 ≤ y ∧ y ≤ 5 then ((mCnt (fun i => decide (gR D.2.2.2.2 i 1 = y)) D.2.2.2.2.length : Nat) : Int) else -2)) ∧ w' = w) := by
  refine Ctr.of (t := tX10_ledger) (lv0 := [some (vr kb), some (vi y)]) (by decide +kernel) tX10_ledger_ok rfl rfl (fun w g hP M => ?_)
  refine M.run 1 (pc' := 1) (lv' := [some (vr kb), some (vi y)]) (st' := [vi y]) rfl ?_
  refine M.if_lt (tgt := 9) rfl (qI (by omega)) (by decide) (fun h1 => ?_) (fun h1 => ?_)
  · skip
    refine M.run 1 (pc' := 11) (lv' := [some (vr kb), some (vi y)]) (st' := [vi (-2)]) rfl ?_
    exact M.iret rfl (Nat.zero_le _) (Nat.zero_le _) ⟨reI (if_neg (by omega)).symm, rfl⟩
  · skip
    refine M.run 2 (pc' := 6) (lv' := [some (vr kb), some (vi y)]) (st' := [vi 5, vi y]) rfl ?_
    refine M.icmp_le (tgt := 12) rfl (qI (by omega)) (qI (by decide)) (by decide) (fun h6 => ?_) (fun h6 => ?_)
    · skip
      refine M.run 1 (pc' := 13) (lv' := [some (vr kb), some (vi y)]) (st' := [vr kb]) rfl ?_
      refine M.get fl_X10_28 rfl (hP.2.1) (kf := 3) (v := vr ((aA kb) 0)) rfl ?_
      refine M.get fl_X10_252 rfl hP.1.1.1 (kf := 10) (v := vr ((aA kb) 11)) rfl ?_
      refine M.run 2 (pc' := 21) (lv' := [some (vr kb), some (vi y)]) (st' := [vi y, vi 1, vr ((aA kb) 11)]) rfl ?_
      refine M.callV (kX4_countOf4 l G ((aA kb) 11) ((aA kb) 12) 25 (by decide) D.2.2.2.2 1 (by decide) y (by omega) (fun i hi => by obtain ⟨q0, q1, q2, q3⟩ := Dok_br hd hi; omega)) cv_X10_264 cd_X4_countOf rfl (st := []) rfl (iS_k hP.1.1).1 (by decide) (by decide) rfl (Nat.zero_le _) (Nat.zero_le _) (iS_k hP.1.1) (fun r1 w2 q3 => ?_)
      rw [q3.1, q3.2]
      exact M.iret rfl (Nat.zero_le _) (Nat.zero_le _) ⟨reI (if_pos (by omega)).symm, rfl⟩
    · skip
      refine M.run 1 (pc' := 11) (lv' := [some (vr kb), some (vi y)]) (st' := [vi (-2)]) rfl ?_
      exact M.iret rfl (Nat.zero_le _) (Nat.zero_le _) ⟨reI (if_neg (by omega)).symm, rfl⟩
set_option maxHeartbeats 4000000 in
set_option maxRecDepth 100000 in
theorem kX10_idle (l : Launch) (G : GT) (kb : Nat) (tl fx fx2 : Nat → Int) (X : Nat → Int → Option Gn) (cl : Nat → Int) (D : Dy) (L : List Dy) (tl2 : Nat → Int) (D2 : Dy) (L2 : List Dy) (tp : Nat → Int) (nt fs fp : Int) (hT : Tok tl) (n : Int) (hd : Dok n D) (hn : n ≤ 1500000000) (hJ : Jok D) (hi : Inv D) (h9 : D.1 18 ≤ 9999) (hZ : Tz tl) (hru : -1 ≤ tl 2 ∧ tl 2 < tl 1)  : Ctr l G yX10_idle cX10_idle 1 ((Option.some Jvm.ClassFile.FieldType.boolean)) 2 0 0 [vr kb] (fun w => isEn G (kb + 850) (aA kb) (tz (kb + 1)) tl fx X cl 1 D w ∧ isKr kb fx fx2 L tl2 D2 L2 tp nt fs fp w) (fun w r w' => r = some (vi (zb (decide ((D.2.1 0).length + (D.2.1 1).length + D.2.2.1.length + D.2.2.2.1.length = 0)))) ∧ w' = w) := by
  refine Ctr.of (t := tX10_idle) (lv0 := [some (vr kb)]) (by decide +kernel) tX10_idle_ok rfl rfl (fun w g hP M => ?_)
  have hl0 := Dok_l hd (s := 0) (by decide)
  have hl1 := Dok_l hd (s := 1) (by decide)
  have hlf := Dok_f hd
  have hlt := Dok_t hd
  refine M.run 1 (pc' := 1) (lv' := [some (vr kb)]) (st' := [vr kb]) rfl ?_
  refine M.get fl_X10_28 rfl (hP.2.1) (kf := 3) (v := vr ((aA kb) 0)) rfl ?_
  refine M.run 1 (pc' := 5) (lv' := [some (vr kb)]) (st' := [vi 0, vr ((aA kb) 0)]) rfl ?_
  refine M.callV (qS_line l G (kb + 850) (aA kb) (tz (kb + 1)) tl fx X cl 1 D 0 (by omega)) cv_X10_227 cd_X6_line rfl (st := []) rfl hP.1.1.1 (by decide) (by decide) rfl (Nat.zero_le _) (Nat.zero_le _) hP.1 (fun r1 w2 q3 => ?_)
  rw [q3.1, q3.2]
  refine M.get fl_X10_240 rfl (iS_l hP.1.1 (s := 0) (by omega)).1 (kf := 2) (v := vi (((D.2.1 0).length : Nat) : Int)) rfl ?_
  refine M.if_ne (tgt := 58) rfl (qI (by omega)) (by decide) (fun h11 => ?_) (fun h11 => ?_)
  · skip
    refine M.run 1 (pc' := 59) (lv' := [some (vr kb)]) (st' := [vi 0]) rfl ?_
    exact M.zret rfl (Or.inl rfl) (Nat.zero_le _) (Nat.zero_le _) ⟨reI (by rw [decide_eq_false (by omega)]; rfl), rfl⟩
  · skip
    refine M.run 1 (pc' := 15) (lv' := [some (vr kb)]) (st' := [vr kb]) rfl ?_
    refine M.get fl_X10_28 rfl (hP.2.1) (kf := 3) (v := vr ((aA kb) 0)) rfl ?_
    refine M.run 1 (pc' := 19) (lv' := [some (vr kb)]) (st' := [vi 1, vr ((aA kb) 0)]) rfl ?_
    refine M.callV (qS_line l G (kb + 850) (aA kb) (tz (kb + 1)) tl fx X cl 1 D 1 (by omega)) cv_X10_227 cd_X6_line rfl (st := []) rfl hP.1.1.1 (by decide) (by decide) rfl (Nat.zero_le _) (Nat.zero_le _) hP.1 (fun r5 w6 q7 => ?_)
    rw [q7.1, q7.2]
    refine M.get fl_X10_240 rfl (iS_l hP.1.1 (s := 1) (by omega)).1 (kf := 2) (v := vi (((D.2.1 1).length : Nat) : Int)) rfl ?_
    refine M.if_ne (tgt := 58) rfl (qI (by omega)) (by decide) (fun h25 => ?_) (fun h25 => ?_)
    · skip
      refine M.run 1 (pc' := 59) (lv' := [some (vr kb)]) (st' := [vi 0]) rfl ?_
      exact M.zret rfl (Or.inl rfl) (Nat.zero_le _) (Nat.zero_le _) ⟨reI (by rw [decide_eq_false (by omega)]; rfl), rfl⟩
    · skip
      refine M.run 1 (pc' := 29) (lv' := [some (vr kb)]) (st' := [vr kb]) rfl ?_
      refine M.get fl_X10_28 rfl (hP.2.1) (kf := 3) (v := vr ((aA kb) 0)) rfl ?_
      refine M.get fl_X10_234 rfl hP.1.1.1 (kf := 8) (v := vr ((aA kb) 7)) rfl ?_
      refine M.get fl_X10_240 rfl (iS_f hP.1.1).1 (kf := 2) (v := vi ((D.2.2.1.length : Nat) : Int)) rfl ?_
      refine M.if_ne (tgt := 58) rfl (qI (by omega)) (by decide) (fun h38 => ?_) (fun h38 => ?_)
      · skip
        refine M.run 1 (pc' := 59) (lv' := [some (vr kb)]) (st' := [vi 0]) rfl ?_
        exact M.zret rfl (Or.inl rfl) (Nat.zero_le _) (Nat.zero_le _) ⟨reI (by rw [decide_eq_false (by omega)]; rfl), rfl⟩
      · skip
        refine M.run 1 (pc' := 42) (lv' := [some (vr kb)]) (st' := [vr kb]) rfl ?_
        refine M.get fl_X10_28 rfl (hP.2.1) (kf := 3) (v := vr ((aA kb) 0)) rfl ?_
        refine M.get fl_X10_237 rfl hP.1.1.1 (kf := 9) (v := vr ((aA kb) 9)) rfl ?_
        refine M.get fl_X10_240 rfl (iS_t hP.1.1).1 (kf := 2) (v := vi ((D.2.2.2.1.length : Nat) : Int)) rfl ?_
        refine M.if_ne (tgt := 58) rfl (qI (by omega)) (by decide) (fun h51 => ?_) (fun h51 => ?_)
        · skip
          refine M.run 1 (pc' := 59) (lv' := [some (vr kb)]) (st' := [vi 0]) rfl ?_
          exact M.zret rfl (Or.inl rfl) (Nat.zero_le _) (Nat.zero_le _) ⟨reI (by rw [decide_eq_false (by omega)]; rfl), rfl⟩
        · skip
          refine M.run 2 (pc' := 59) (lv' := [some (vr kb)]) (st' := [vi 1]) rfl ?_
          exact M.zret rfl (Or.inr rfl) (Nat.zero_le _) (Nat.zero_le _) ⟨reI (by rw [decide_eq_true (by omega)]; rfl), rfl⟩
set_option maxHeartbeats 4000000 in
set_option maxRecDepth 100000 in
theorem kX10_next (l : Launch) (G : GT) (kb : Nat) (tl fx fx2 : Nat → Int) (X : Nat → Int → Option Gn) (cl : Nat → Int) (D : Dy) (L : List Dy) (tl2 : Nat → Int) (D2 : Dy) (L2 : List Dy) (tp : Nat → Int) (nt fs fp : Int) (hT : Tok tl) (n : Int) (hd : Dok n D) (hn : n ≤ 1500000000) (hJ : Jok D) (hi : Inv D) (h9 : D.1 18 ≤ 9999) (hZ : Tz tl) (hru : -1 ≤ tl 2 ∧ tl 2 < tl 1) (y : Int) (hy : -2147483648 ≤ y ∧ y ≤ 2147483647)  : Ctr l G yX10_next cX10_next 2 ((Option.some Jvm.ClassFile.FieldType.int)) 3 0 0 [vr kb, vi y] (fun w => isEn G (kb + 850) (aA kb) (tz (kb + 1)) tl fx X cl 1 D w ∧ isKr kb fx fx2 L tl2 D2 L2 tp nt fs fp w) (fun w r w' => r = some (vi (if (0 ≤ y ∧ y ≤ 1) ∧ 0 < (D.2.1 y.toNat).length then ((mNxS tl 60 (D.1 18) : Nat) : Int) else -1)) ∧ w' = w) := by
  refine Ctr.of (t := tX10_next) (lv0 := [some (vr kb), some (vi y)]) (by decide +kernel) tX10_next_ok rfl rfl (fun w g hP M => ?_)
  have hck := Dok_clk hd
  refine M.run 1 (pc' := 1) (lv' := [some (vr kb), some (vi y)]) (st' := [vi y]) rfl ?_
  refine M.if_lt (tgt := 23) rfl (qI (by omega)) (by decide) (fun h1 => ?_) (fun h1 => ?_)
  · skip
    refine M.run 1 (pc' := 24) (lv' := [some (vr kb), some (vi y)]) (st' := [vi (-1)]) rfl ?_
    exact M.iret rfl (Nat.zero_le _) (Nat.zero_le _) ⟨reI (if_neg (fun q => by omega)).symm, rfl⟩
  · skip
    refine M.run 2 (pc' := 6) (lv' := [some (vr kb), some (vi y)]) (st' := [vi 1, vi y]) rfl ?_
    refine M.icmp_gt (tgt := 23) rfl (qI (by omega)) (qI (by decide)) (by decide) (fun h6 => ?_) (fun h6 => ?_)
    · skip
      refine M.run 1 (pc' := 24) (lv' := [some (vr kb), some (vi y)]) (st' := [vi (-1)]) rfl ?_
      exact M.iret rfl (Nat.zero_le _) (Nat.zero_le _) ⟨reI (if_neg (fun q => by omega)).symm, rfl⟩
    · skip
      obtain ⟨c, rfl⟩ := Int.eq_ofNat_of_zero_le (show (0 : Int) ≤ y from (by omega))
      have hl0 := Dok_l hd (s := c) (by omega)
      refine M.run 1 (pc' := 10) (lv' := [some (vr kb), some (vi ((c : Nat) : Int))]) (st' := [vr kb]) rfl ?_
      refine M.get fl_X10_28 rfl (hP.2.1) (kf := 3) (v := vr ((aA kb) 0)) rfl ?_
      refine M.run 1 (pc' := 14) (lv' := [some (vr kb), some (vi ((c : Nat) : Int))]) (st' := [vi ((c : Nat) : Int), vr ((aA kb) 0)]) rfl ?_
      refine M.callV (qS_line l G (kb + 850) (aA kb) (tz (kb + 1)) tl fx X cl 1 D c (by omega)) cv_X10_227 cd_X6_line rfl (st := []) rfl hP.1.1.1 (by decide) (by decide) rfl (Nat.zero_le _) (Nat.zero_le _) hP.1 (fun r1 w2 q3 => ?_)
      rw [q3.1, q3.2]
      refine M.get fl_X10_240 rfl (iS_l hP.1.1 (s := c) (by omega)).1 (kf := 2) (v := vi (((D.2.1 c).length : Nat) : Int)) rfl ?_
      refine M.if_ne (tgt := 25) rfl (qI (by omega)) (by decide) (fun h20 => ?_) (fun h20 => ?_)
      · skip
        refine M.run 1 (pc' := 26) (lv' := [some (vr kb), some (vi ((c : Nat) : Int))]) (st' := [vr kb]) rfl ?_
        refine M.get fl_X10_23 rfl (hP.2.1) (kf := 2) (v := vr ((tz (kb + 1)) 0)) rfl ?_
        refine M.run 1 (pc' := 30) (lv' := [some (vr kb), some (vi ((c : Nat) : Int))]) (st' := [vr kb, vr ((tz (kb + 1)) 0)]) rfl ?_
        refine M.get fl_X10_28 rfl (hP.2.1) (kf := 3) (v := vr ((aA kb) 0)) rfl ?_
        refine M.get fl_X10_134 rfl hP.1.1.1 (kf := 0) (v := vi (D.1 18)) rfl ?_
        refine M.callV (qO_next l G (kb + 850) (aA kb) (tz (kb + 1)) tl fx X cl 1 D hT (D.1 18) ⟨by omega, by omega⟩) cv_X10_273 cd_X9_ticksToSeen rfl (st := []) rfl hP.1.2.1.1 (by decide) (by decide) rfl (Nat.zero_le _) (Nat.zero_le _) hP.1 (fun r5 w6 q7 => ?_)
        rw [q7.1, q7.2]
        exact M.iret rfl (Nat.zero_le _) (Nat.zero_le _) ⟨reI (if_pos ⟨by omega, by show 0 < (D.2.1 c).length; omega⟩).symm, rfl⟩
      · skip
        refine M.run 1 (pc' := 24) (lv' := [some (vr kb), some (vi ((c : Nat) : Int))]) (st' := [vi (-1)]) rfl ?_
        exact M.iret rfl (Nat.zero_le _) (Nat.zero_le _) ⟨reI (if_neg (fun q => by have : 0 < (D.2.1 c).length := q.2; omega)).symm, rfl⟩
set_option maxHeartbeats 4000000 in
set_option maxRecDepth 100000 in
theorem kX10_round (l : Launch) (G : GT) (kb : Nat) (tl fx fx2 : Nat → Int) (X : Nat → Int → Option Gn) (cl : Nat → Int) (D : Dy) (L : List Dy) (tl2 : Nat → Int) (D2 : Dy) (L2 : List Dy) (tp : Nat → Int) (nt fs fp : Int) (hT : Tok tl) (n : Int) (hd : Dok n D) (hn : n ≤ 1500000000) (hJ : Jok D) (hi : Inv D) (h9 : D.1 18 ≤ 9999) (hZ : Tz tl) (hru : -1 ≤ tl 2 ∧ tl 2 < tl 1)  : Ctr l G yX10_round cX10_round 4 ((Option.some Jvm.ClassFile.FieldType.int)) 3 0 0 [vr kb] (fun w => isEn G (kb + 850) (aA kb) (tz (kb + 1)) tl fx X cl 1 D w ∧ isKr kb fx fx2 L tl2 D2 L2 tp nt fs fp w) (fun w r w' => r = some (vi (D.1 18 + ((mNxS tl 60 (D.1 18) : Nat) : Int) + tl 6 + ((mNxS tl 60 (D.1 18 + ((mNxS tl 60 (D.1 18) : Nat) : Int) + tl 6) : Nat) : Int) + tl 6 - D.1 18)) ∧ w' = w) := by
  refine Ctr.of (t := tX10_round) (lv0 := [some (vr kb), none, none, none]) (by decide +kernel) tX10_round_ok rfl rfl (fun w g hP M => ?_)
  have hck := Dok_clk hd
  have hk6 : 1 ≤ tl 6 ∧ tl 6 ≤ 20 := hT.1 6 (by decide)
  have hnx := (mNxS_60 hT (c := D.1 18) (by omega)).1
  refine M.run 1 (pc' := 1) (lv' := [some (vr kb), none, none, none]) (st' := [vr kb]) rfl ?_
  refine M.get fl_X10_28 rfl (hP.2.1) (kf := 3) (v := vr ((aA kb) 0)) rfl ?_
  refine M.get fl_X10_134 rfl hP.1.1.1 (kf := 0) (v := vi (D.1 18)) rfl ?_
  refine M.run 1 (pc' := 8) (lv' := [some (vr kb), none, none, none]) (st' := [vr kb, vi (D.1 18)]) rfl ?_
  refine M.get fl_X10_23 rfl (hP.2.1) (kf := 2) (v := vr ((tz (kb + 1)) 0)) rfl ?_
  refine M.run 1 (pc' := 12) (lv' := [some (vr kb), none, none, none]) (st' := [vr kb, vr ((tz (kb + 1)) 0), vi (D.1 18)]) rfl ?_
  refine M.get fl_X10_28 rfl (hP.2.1) (kf := 3) (v := vr ((aA kb) 0)) rfl ?_
  refine M.get fl_X10_134 rfl hP.1.1.1 (kf := 0) (v := vi (D.1 18)) rfl ?_
  refine M.callV (qO_next l G (kb + 850) (aA kb) (tz (kb + 1)) tl fx X cl 1 D hT (D.1 18) ⟨by omega, by omega⟩) cv_X10_273 cd_X9_ticksToSeen rfl (st := [vi (D.1 18)]) rfl hP.1.2.1.1 (by decide) (by decide) rfl (Nat.zero_le _) (Nat.zero_le _) hP.1 (fun r1 w2 q3 => ?_)
  rw [q3.1, q3.2]
  refine M.run 4 (pc' := 25) (lv' := [some (vr kb), some (vi ((D.1 18) + ((mNxS tl 60 (D.1 18) : Nat) : Int))), none, none]) (st' := [vr kb, vi ((D.1 18) + ((mNxS tl 60 (D.1 18) : Nat) : Int))]) rfl ?_
  refine M.get fl_X10_23 rfl (hP.2.1) (kf := 2) (v := vr ((tz (kb + 1)) 0)) rfl ?_
  refine M.get fl_X10_77 rfl hP.1.2.1.1 (kf := 6) (v := vi (tl 6)) rfl ?_
  refine M.run 4 (pc' := 35) (lv' := [some (vr kb), some (vi ((D.1 18) + ((mNxS tl 60 (D.1 18) : Nat) : Int))), some (vi (((D.1 18) + ((mNxS tl 60 (D.1 18) : Nat) : Int)) + (tl 6))), none]) (st' := [vr kb, vi (((D.1 18) + ((mNxS tl 60 (D.1 18) : Nat) : Int)) + (tl 6))]) rfl ?_
  refine M.get fl_X10_23 rfl (hP.2.1) (kf := 2) (v := vr ((tz (kb + 1)) 0)) rfl ?_
  refine M.run 1 (pc' := 39) (lv' := [some (vr kb), some (vi ((D.1 18) + ((mNxS tl 60 (D.1 18) : Nat) : Int))), some (vi (((D.1 18) + ((mNxS tl 60 (D.1 18) : Nat) : Int)) + (tl 6))), none]) (st' := [vi (((D.1 18) + ((mNxS tl 60 (D.1 18) : Nat) : Int)) + (tl 6)), vr ((tz (kb + 1)) 0), vi (((D.1 18) + ((mNxS tl 60 (D.1 18) : Nat) : Int)) + (tl 6))]) rfl ?_
  refine M.callV (qO_next l G (kb + 850) (aA kb) (tz (kb + 1)) tl fx X cl 1 D hT (((D.1 18) + ((mNxS tl 60 (D.1 18) : Nat) : Int)) + (tl 6)) ⟨by omega, by omega⟩) cv_X10_273 cd_X9_ticksToSeen rfl (st := [vi (((D.1 18) + ((mNxS tl 60 (D.1 18) : Nat) : Int)) + (tl 6))]) rfl hP.1.2.1.1 (by decide) (by decide) rfl (Nat.zero_le _) (Nat.zero_le _) hP.1 (fun r5 w6 q7 => ?_)
  rw [q7.1, q7.2]
  refine M.run 4 (pc' := 46) (lv' := [some (vr kb), some (vi ((D.1 18) + ((mNxS tl 60 (D.1 18) : Nat) : Int))), some (vi (((D.1 18) + ((mNxS tl 60 (D.1 18) : Nat) : Int)) + (tl 6))), some (vi ((((D.1 18) + ((mNxS tl 60 (D.1 18) : Nat) : Int)) + (tl 6)) + ((mNxS tl 60 (((D.1 18) + ((mNxS tl 60 (D.1 18) : Nat) : Int)) + (tl 6)) : Nat) : Int)))]) (st' := [vr kb, vi ((((D.1 18) + ((mNxS tl 60 (D.1 18) : Nat) : Int)) + (tl 6)) + ((mNxS tl 60 (((D.1 18) + ((mNxS tl 60 (D.1 18) : Nat) : Int)) + (tl 6)) : Nat) : Int))]) rfl ?_
  refine M.get fl_X10_23 rfl (hP.2.1) (kf := 2) (v := vr ((tz (kb + 1)) 0)) rfl ?_
  refine M.get fl_X10_77 rfl hP.1.2.1.1 (kf := 6) (v := vi (tl 6)) rfl ?_
  refine M.run 2 (pc' := 54) (lv' := [some (vr kb), some (vi ((D.1 18) + ((mNxS tl 60 (D.1 18) : Nat) : Int))), some (vi (((D.1 18) + ((mNxS tl 60 (D.1 18) : Nat) : Int)) + (tl 6))), some (vi ((((D.1 18) + ((mNxS tl 60 (D.1 18) : Nat) : Int)) + (tl 6)) + ((mNxS tl 60 (((D.1 18) + ((mNxS tl 60 (D.1 18) : Nat) : Int)) + (tl 6)) : Nat) : Int)))]) (st' := [vr kb, vi (((((D.1 18) + ((mNxS tl 60 (D.1 18) : Nat) : Int)) + (tl 6)) + ((mNxS tl 60 (((D.1 18) + ((mNxS tl 60 (D.1 18) : Nat) : Int)) + (tl 6)) : Nat) : Int)) + (tl 6))]) rfl ?_
  refine M.get fl_X10_28 rfl (hP.2.1) (kf := 3) (v := vr ((aA kb) 0)) rfl ?_
  refine M.get fl_X10_134 rfl hP.1.1.1 (kf := 0) (v := vi (D.1 18)) rfl ?_
  refine M.run 1 (pc' := 61) (lv' := [some (vr kb), some (vi ((D.1 18) + ((mNxS tl 60 (D.1 18) : Nat) : Int))), some (vi (((D.1 18) + ((mNxS tl 60 (D.1 18) : Nat) : Int)) + (tl 6))), some (vi ((((D.1 18) + ((mNxS tl 60 (D.1 18) : Nat) : Int)) + (tl 6)) + ((mNxS tl 60 (((D.1 18) + ((mNxS tl 60 (D.1 18) : Nat) : Int)) + (tl 6)) : Nat) : Int)))]) (st' := [vi ((((((D.1 18) + ((mNxS tl 60 (D.1 18) : Nat) : Int)) + (tl 6)) + ((mNxS tl 60 (((D.1 18) + ((mNxS tl 60 (D.1 18) : Nat) : Int)) + (tl 6)) : Nat) : Int)) + (tl 6)) - (D.1 18))]) rfl ?_
  exact M.iret rfl (Nat.zero_le _) (Nat.zero_le _) ⟨rfl, rfl⟩
set_option maxHeartbeats 4000000 in
set_option maxRecDepth 100000 in
theorem kX10_until (l : Launch) (G : GT) (kb : Nat) (tl fx fx2 : Nat → Int) (X : Nat → Int → Option Gn) (cl : Nat → Int) (D : Dy) (L : List Dy) (tl2 : Nat → Int) (D2 : Dy) (L2 : List Dy) (tp : Nat → Int) (nt fs fp : Int) (hT : Tok tl) (n : Int) (hd : Dok n D) (hn : n ≤ 1500000000) (hJ : Jok D) (hi : Inv D) (h9 : D.1 18 ≤ 9999) (hZ : Tz tl) (hru : -1 ≤ tl 2 ∧ tl 2 < tl 1) (y : Int) (hy : -2147483648 ≤ y ∧ y ≤ 2147483647)  : Ctr l G yX10_until cX10_until 2 ((Option.some Jvm.ClassFile.FieldType.int)) 3 0 0 [vr kb, vi y] (fun w => isEn G (kb + 850) (aA kb) (tz (kb + 1)) tl fx X cl 1 D w ∧ isKr kb fx fx2 L tl2 D2 L2 tp nt fs fp w) (fun w r w' => r = some (vi (if 0 ≤ y ∧ y ≤ 60 then ((mTt tl y.toNat (D.1 18) : Nat) : Int) else -1)) ∧ w' = w) := by
  refine Ctr.of (t := tX10_until) (lv0 := [some (vr kb), some (vi y)]) (by decide +kernel) tX10_until_ok rfl rfl (fun w g hP M => ?_)
  have hck := Dok_clk hd
  refine M.run 1 (pc' := 1) (lv' := [some (vr kb), some (vi y)]) (st' := [vi y]) rfl ?_
  refine M.if_lt (tgt := 10) rfl (qI (by omega)) (by decide) (fun h1 => ?_) (fun h1 => ?_)
  · skip
    refine M.run 1 (pc' := 11) (lv' := [some (vr kb), some (vi y)]) (st' := [vi (-1)]) rfl ?_
    exact M.iret rfl (Nat.zero_le _) (Nat.zero_le _) ⟨reI (if_neg (by omega)).symm, rfl⟩
  · skip
    refine M.run 2 (pc' := 7) (lv' := [some (vr kb), some (vi y)]) (st' := [vi 60, vi y]) rfl ?_
    refine M.icmp_le (tgt := 12) rfl (qI (by omega)) (qI (by decide)) (by decide) (fun h7 => ?_) (fun h7 => ?_)
    · skip
      obtain ⟨c, rfl⟩ := Int.eq_ofNat_of_zero_le (show (0 : Int) ≤ y from (by omega))
      refine M.run 1 (pc' := 13) (lv' := [some (vr kb), some (vi ((c : Nat) : Int))]) (st' := [vr kb]) rfl ?_
      refine M.get fl_X10_23 rfl (hP.2.1) (kf := 2) (v := vr ((tz (kb + 1)) 0)) rfl ?_
      refine M.run 1 (pc' := 17) (lv' := [some (vr kb), some (vi ((c : Nat) : Int))]) (st' := [vr kb, vr ((tz (kb + 1)) 0)]) rfl ?_
      refine M.get fl_X10_28 rfl (hP.2.1) (kf := 3) (v := vr ((aA kb) 0)) rfl ?_
      refine M.get fl_X10_134 rfl hP.1.1.1 (kf := 0) (v := vi (D.1 18)) rfl ?_
      refine M.run 1 (pc' := 24) (lv' := [some (vr kb), some (vi ((c : Nat) : Int))]) (st' := [vi ((c : Nat) : Int), vi (D.1 18), vr ((tz (kb + 1)) 0)]) rfl ?_
      refine M.callV (qO_sun l G (kb + 850) (aA kb) (tz (kb + 1)) tl fx X cl 1 D hT (D.1 18) ⟨by omega, by omega⟩ c (by omega)) cv_X10_270 cd_X9_ticksForSun rfl (st := []) rfl hP.1.2.1.1 (by decide) (by decide) rfl (Nat.zero_le _) (Nat.zero_le _) hP.1 (fun r1 w2 q3 => ?_)
      rw [q3.1, q3.2]
      exact M.iret rfl (Nat.zero_le _) (Nat.zero_le _) ⟨reI (if_pos (by omega)).symm, rfl⟩
    · skip
      refine M.run 1 (pc' := 11) (lv' := [some (vr kb), some (vi y)]) (st' := [vi (-1)]) rfl ?_
      exact M.iret rfl (Nat.zero_le _) (Nat.zero_le _) ⟨reI (if_neg (by omega)).symm, rfl⟩
set_option maxHeartbeats 4000000 in
set_option maxRecDepth 100000 in
theorem kX10_seen (l : Launch) (G : GT) (kb : Nat) (tl fx fx2 : Nat → Int) (X : Nat → Int → Option Gn) (cl : Nat → Int) (D : Dy) (L : List Dy) (tl2 : Nat → Int) (D2 : Dy) (L2 : List Dy) (tp : Nat → Int) (nt fs fp : Int) (hT : Tok tl) (n : Int) (hd : Dok n D) (hn : n ≤ 1500000000) (hJ : Jok D) (hi : Inv D) (h9 : D.1 18 ≤ 9999) (hZ : Tz tl) (hru : -1 ≤ tl 2 ∧ tl 2 < tl 1) (y : Int) (hy : -2147483648 ≤ y ∧ y ≤ 2147483647)  : Ctr l G yX10_seen cX10_seen 2 ((Option.some Jvm.ClassFile.FieldType.boolean)) 2 0 0 [vr kb, vi y] (fun w => isEn G (kb + 850) (aA kb) (tz (kb + 1)) tl fx X cl 1 D w ∧ isKr kb fx fx2 L tl2 D2 L2 tp nt fs fp w) (fun w r w' => r = some (vi (zb (decide ((0 ≤ y ∧ y ≤ 999) ∧ mSn tl (D.1 18 + y) = true)))) ∧ w' = w) := by
  refine Ctr.of (t := tX10_seen) (lv0 := [some (vr kb), some (vi y)]) (by decide +kernel) tX10_seen_ok rfl rfl (fun w g hP M => ?_)
  have hck := Dok_clk hd
  refine M.run 1 (pc' := 1) (lv' := [some (vr kb), some (vi y)]) (st' := [vi y]) rfl ?_
  refine M.if_lt (tgt := 34) rfl (qI (by omega)) (by decide) (fun h1 => ?_) (fun h1 => ?_)
  · skip
    refine M.run 1 (pc' := 35) (lv' := [some (vr kb), some (vi y)]) (st' := [vi 0]) rfl ?_
    exact M.zret rfl (Or.inl rfl) (Nat.zero_le _) (Nat.zero_le _) ⟨reI (by rw [decide_eq_false (fun q => by first | omega | (rw [h27] at q; exact absurd q.2 (by decide)))]; rfl), rfl⟩
  · skip
    refine M.run 2 (pc' := 8) (lv' := [some (vr kb), some (vi y)]) (st' := [vi 999, vi y]) rfl ?_
    refine M.icmp_gt (tgt := 34) rfl (qI (by omega)) (qI (by decide)) (by decide) (fun h8 => ?_) (fun h8 => ?_)
    · skip
      refine M.run 1 (pc' := 35) (lv' := [some (vr kb), some (vi y)]) (st' := [vi 0]) rfl ?_
      exact M.zret rfl (Or.inl rfl) (Nat.zero_le _) (Nat.zero_le _) ⟨reI (by rw [decide_eq_false (fun q => by first | omega | (rw [h27] at q; exact absurd q.2 (by decide)))]; rfl), rfl⟩
    · skip
      refine M.run 1 (pc' := 12) (lv' := [some (vr kb), some (vi y)]) (st' := [vr kb]) rfl ?_
      refine M.get fl_X10_23 rfl (hP.2.1) (kf := 2) (v := vr ((tz (kb + 1)) 0)) rfl ?_
      refine M.run 1 (pc' := 16) (lv' := [some (vr kb), some (vi y)]) (st' := [vr kb, vr ((tz (kb + 1)) 0)]) rfl ?_
      refine M.get fl_X10_28 rfl (hP.2.1) (kf := 3) (v := vr ((aA kb) 0)) rfl ?_
      refine M.get fl_X10_134 rfl hP.1.1.1 (kf := 0) (v := vi (D.1 18)) rfl ?_
      refine M.run 2 (pc' := 24) (lv' := [some (vr kb), some (vi y)]) (st' := [vi ((D.1 18) + y), vr ((tz (kb + 1)) 0)]) rfl ?_
      refine M.callV (qO_sees l G (kb + 850) (aA kb) (tz (kb + 1)) tl fx X cl 1 D hT ((D.1 18) + y) ⟨by omega, by omega⟩) cv_X10_267 cd_X9_sees rfl (st := []) rfl hP.1.2.1.1 (by decide) (by decide) rfl (Nat.zero_le _) (Nat.zero_le _) hP.1 (fun r1 w2 q3 => ?_)
      rw [q3.1, q3.2]
      refine M.if_eq (tgt := 34) rfl (inI_zb _) (by decide) (fun h27 => ?_) (fun h27 => ?_)
      · skip
        replace h27 := zb_f0 h27
        refine M.run 1 (pc' := 35) (lv' := [some (vr kb), some (vi y)]) (st' := [vi 0]) rfl ?_
        exact M.zret rfl (Or.inl rfl) (Nat.zero_le _) (Nat.zero_le _) ⟨reI (by rw [decide_eq_false (fun q => by first | omega | (rw [h27] at q; exact absurd q.2 (by decide)))]; rfl), rfl⟩
      · skip
        replace h27 := zb_t h27
        refine M.run 2 (pc' := 35) (lv' := [some (vr kb), some (vi y)]) (st' := [vi 1]) rfl ?_
        exact M.zret rfl (Or.inr rfl) (Nat.zero_le _) (Nat.zero_le _) ⟨reI (by rw [decide_eq_true ⟨by omega, h27⟩]; rfl), rfl⟩
set_option maxHeartbeats 4000000 in
set_option maxRecDepth 100000 in
theorem kX10_rings (l : Launch) (G : GT) (kb : Nat) (tl fx fx2 : Nat → Int) (X : Nat → Int → Option Gn) (cl : Nat → Int) (D : Dy) (L : List Dy) (tl2 : Nat → Int) (D2 : Dy) (L2 : List Dy) (tp : Nat → Int) (nt fs fp : Int) (hT : Tok tl) (n : Int) (hd : Dok n D) (hn : n ≤ 1500000000) (hJ : Jok D) (hi : Inv D) (h9 : D.1 18 ≤ 9999) (hZ : Tz tl) (hru : -1 ≤ tl 2 ∧ tl 2 < tl 1) (y : Int) (hy : -2147483648 ≤ y ∧ y ≤ 2147483647) (hrg : ∀ r ∈ D.2.2.2.1, D.1 20 < r 7 ∧ r 7 ≤ D.1 20 + 60)  : Ctr l G yX10_rings cX10_rings 2 ((Option.some Jvm.ClassFile.FieldType.int)) 3 0 0 [vr kb, vi y] (fun w => isEn G (kb + 850) (aA kb) (tz (kb + 1)) tl fx X cl 1 D w ∧ isKr kb fx fx2 L tl2 D2 L2 tp nt fs fp w) (fun w r w' => r = some (vi (if 0 ≤ y ∧ y < ((D.2.2.2.1.length : Nat) : Int) then ((mTt tl (gR D.2.2.2.1 y.toNat 7 - D.1 20).toNat (D.1 18) : Nat) : Int) else -1)) ∧ w' = w) := by
  refine Ctr.of (t := tX10_rings) (lv0 := [some (vr kb), some (vi y)]) (by decide +kernel) tX10_rings_ok rfl rfl (fun w g hP M => ?_)
  have hck := Dok_clk hd
  have hsn := Dok_sun hd
  have hlt := Dok_t hd
  refine M.run 1 (pc' := 1) (lv' := [some (vr kb), some (vi y)]) (st' := [vi y]) rfl ?_
  refine M.if_lt (tgt := 18) rfl (qI (by omega)) (by decide) (fun h1 => ?_) (fun h1 => ?_)
  · skip
    refine M.run 1 (pc' := 19) (lv' := [some (vr kb), some (vi y)]) (st' := [vi (-1)]) rfl ?_
    exact M.iret rfl (Nat.zero_le _) (Nat.zero_le _) ⟨reI (if_neg (by omega)).symm, rfl⟩
  · skip
    refine M.run 2 (pc' := 6) (lv' := [some (vr kb), some (vi y)]) (st' := [vr kb, vi y]) rfl ?_
    refine M.get fl_X10_28 rfl (hP.2.1) (kf := 3) (v := vr ((aA kb) 0)) rfl ?_
    refine M.get fl_X10_237 rfl hP.1.1.1 (kf := 9) (v := vr ((aA kb) 9)) rfl ?_
    refine M.get fl_X10_240 rfl (iS_t hP.1.1).1 (kf := 2) (v := vi ((D.2.2.2.1.length : Nat) : Int)) rfl ?_
    refine M.icmp_lt (tgt := 20) rfl (qI (by omega)) (qI (by omega)) (by decide) (fun h15 => ?_) (fun h15 => ?_)
    · skip
      obtain ⟨c, rfl⟩ := Int.eq_ofNat_of_zero_le (show (0 : Int) ≤ y from (by omega))
      have hr7 := hrg _ (gR_mem (L := D.2.2.2.1) (i := c) (by omega))
      refine M.run 1 (pc' := 21) (lv' := [some (vr kb), some (vi ((c : Nat) : Int))]) (st' := [vr kb]) rfl ?_
      refine M.get fl_X10_23 rfl (hP.2.1) (kf := 2) (v := vr ((tz (kb + 1)) 0)) rfl ?_
      refine M.run 1 (pc' := 25) (lv' := [some (vr kb), some (vi ((c : Nat) : Int))]) (st' := [vr kb, vr ((tz (kb + 1)) 0)]) rfl ?_
      refine M.get fl_X10_28 rfl (hP.2.1) (kf := 3) (v := vr ((aA kb) 0)) rfl ?_
      refine M.get fl_X10_134 rfl hP.1.1.1 (kf := 0) (v := vi (D.1 18)) rfl ?_
      refine M.run 2 (pc' := 33) (lv' := [some (vr kb), some (vi ((c : Nat) : Int))]) (st' := [vr kb, vi 1, vi (D.1 18), vr ((tz (kb + 1)) 0)]) rfl ?_
      refine M.get fl_X10_28 rfl (hP.2.1) (kf := 3) (v := vr ((aA kb) 0)) rfl ?_
      refine M.get fl_X10_237 rfl hP.1.1.1 (kf := 9) (v := vr ((aA kb) 9)) rfl ?_
      refine M.run 2 (pc' := 42) (lv' := [some (vr kb), some (vi ((c : Nat) : Int))]) (st' := [vi 7, vi ((c : Nat) : Int), vr ((aA kb) 9), vi 1, vi (D.1 18), vr ((tz (kb + 1)) 0)]) rfl ?_
      refine M.callV (qT_get l G (kb + 850) (aA kb) (tz (kb + 1)) tl fx X cl 1 D c 7 (by omega) (by decide)) cv_X10_202 cd_X4_get rfl (st := [vi 1, vi (D.1 18), vr ((tz (kb + 1)) 0)]) rfl (iS_t hP.1.1).1 (by decide) (by decide) rfl (Nat.zero_le _) (Nat.zero_le _) hP.1 (fun r1 w2 q3 => ?_)
      rw [q3.1, q3.2]
      refine M.run 1 (pc' := 46) (lv' := [some (vr kb), some (vi ((c : Nat) : Int))]) (st' := [vr kb, vi (gR D.2.2.2.1 c 7), vi 1, vi (D.1 18), vr ((tz (kb + 1)) 0)]) rfl ?_
      refine M.get fl_X10_28 rfl (hP.2.1) (kf := 3) (v := vr ((aA kb) 0)) rfl ?_
      refine M.get fl_X10_246 rfl hP.1.1.1 (kf := 1) (v := vi (D.1 20)) rfl ?_
      refine M.run 1 (pc' := 53) (lv' := [some (vr kb), some (vi ((c : Nat) : Int))]) (st' := [vi ((gR D.2.2.2.1 c 7) - (D.1 20)), vi 1, vi (D.1 18), vr ((tz (kb + 1)) 0)]) rfl ?_
      refine M.mmax cs_X10_261 rfl (qI (by decide)) (qI (by omega)) (by decide) (Nat.zero_le _) (Nat.zero_le _) rfl ?_
      rw [show max 1 ((gR D.2.2.2.1 c 7) - (D.1 20)) = (((gR D.2.2.2.1 c 7 - D.1 20).toNat : Nat) : Int) from by omega]
      refine M.callV (qO_sun l G (kb + 850) (aA kb) (tz (kb + 1)) tl fx X cl 1 D hT (D.1 18) ⟨by omega, by omega⟩ ((gR D.2.2.2.1 c 7 - D.1 20).toNat) (by omega)) cv_X10_270 cd_X9_ticksForSun rfl (st := []) rfl hP.1.2.1.1 (by decide) (by decide) rfl (Nat.zero_le _) (Nat.zero_le _) hP.1 (fun r5 w6 q7 => ?_)
      rw [q7.1, q7.2]
      exact M.iret rfl (Nat.zero_le _) (Nat.zero_le _) ⟨reI (if_pos (by omega)).symm, rfl⟩
    · skip
      refine M.run 1 (pc' := 19) (lv' := [some (vr kb), some (vi y)]) (st' := [vi (-1)]) rfl ?_
      exact M.iret rfl (Nat.zero_le _) (Nat.zero_le _) ⟨reI (if_neg (by omega)).symm, rfl⟩
set_option maxHeartbeats 4000000 in
set_option maxRecDepth 100000 in
theorem kX10_timer (l : Launch) (G : GT) (kb : Nat) (tl fx fx2 : Nat → Int) (X : Nat → Int → Option Gn) (cl : Nat → Int) (D : Dy) (L : List Dy) (tl2 : Nat → Int) (D2 : Dy) (L2 : List Dy) (tp : Nat → Int) (nt fs fp : Int) (hT : Tok tl) (n : Int) (hd : Dok n D) (hn : n ≤ 1500000000) (hJ : Jok D) (hi : Inv D) (h9 : D.1 18 ≤ 9999) (hZ : Tz tl) (hru : -1 ≤ tl 2 ∧ tl 2 < tl 1) (y : Int) (z : Int) (hy : -2147483648 ≤ y ∧ y ≤ 2147483647) (hz : -2147483648 ≤ z ∧ z ≤ 2147483647)  : Ctr l G yX10_timer cX10_timer 3 ((Option.some Jvm.ClassFile.FieldType.int)) 3 0 0 [vr kb, vi y, vi z] (fun w => isEn G (kb + 850) (aA kb) (tz (kb + 1)) tl fx X cl 1 D w ∧ isKr kb fx fx2 L tl2 D2 L2 tp nt fs fp w) (fun w r w' => r = some (vi (if y = -1 then ((D.2.2.2.1.length : Nat) : Int) else if (0 ≤ y ∧ y < ((D.2.2.2.1.length : Nat) : Int)) ∧ 0 ≤ z ∧ z ≤ 5 then gR D.2.2.2.1 y.toNat (tmC z.toNat) else -2)) ∧ w' = w) := by
  refine Ctr.of (t := tX10_timer) (lv0 := [some (vr kb), some (vi y), some (vi z)]) (by decide +kernel) tX10_timer_ok rfl rfl (fun w g hP M => ?_)
  refine M.run 2 (pc' := 2) (lv' := [some (vr kb), some (vi y), some (vi z)]) (st' := [vi (-1), vi y]) rfl ?_
  refine M.icmp_ne (tgt := 16) rfl (qI (by omega)) (qI (by decide)) (by decide) (fun h2 => ?_) (fun h2 => ?_)
  · skip
    refine M.run 1 (pc' := 17) (lv' := [some (vr kb), some (vi y), some (vi z)]) (st' := [vi z]) rfl ?_
    refine M.if_lt (tgt := 28) rfl (qI (by omega)) (by decide) (fun h17 => ?_) (fun h17 => ?_)
    · skip
      refine M.run 1 (pc' := 30) (lv' := [some (vr kb), some (vi y), some (vi z)]) (st' := [vi (-2)]) rfl ?_
      exact M.iret rfl (Nat.zero_le _) (Nat.zero_le _) ⟨reI (by rw [if_neg h2, if_neg (by omega)]), rfl⟩
    · skip
      refine M.run 1 (pc' := 21) (lv' := [some (vr kb), some (vi y), some (vi z)]) (st' := [vi z]) rfl ?_
      refine M.getsT fs_X10_243 rfl ?_
      refine M.alenT rfl ?_
      refine M.icmp_lt (tgt := 31) rfl (qI (by omega)) (qI (by decide)) (by decide) (fun h25 => ?_) (fun h25 => ?_)
      · skip
        obtain ⟨c, rfl⟩ := Int.eq_ofNat_of_zero_le (show (0 : Int) ≤ z from (by omega))
        refine M.run 1 (pc' := 32) (lv' := [some (vr kb), some (vi y), some (vi ((c : Nat) : Int))]) (st' := [vr kb]) rfl ?_
        refine M.get fl_X10_28 rfl (hP.2.1) (kf := 3) (v := vr ((aA kb) 0)) rfl ?_
        refine M.get fl_X10_237 rfl hP.1.1.1 (kf := 9) (v := vr ((aA kb) 9)) rfl ?_
        refine M.run 1 (pc' := 39) (lv' := [some (vr kb), some (vi y), some (vi ((c : Nat) : Int))]) (st' := [vi y, vr ((aA kb) 9)]) rfl ?_
        refine M.getsT fs_X10_243 rfl ?_
        refine M.run 1 (pc' := 43) (lv' := [some (vr kb), some (vi y), some (vi ((c : Nat) : Int))]) (st' := [vi ((c : Nat) : Int), vr (gT G), vi y, vr ((aA kb) 9)]) rfl ?_
        refine M.ialdT c rfl (by omega) ?_
        rw [(tcq_t (k := c) (by omega)).1]
        refine M.callV (kX4_get9 l G ((aA kb) 9) ((aA kb) 10) 16 (by decide) D.2.2.2.1 y ((tmC c : Nat) : Int) (by omega) (by have := (tcq_t (k := c) (by omega)).2; omega)) cv_X10_202 cd_X4_get rfl (st := []) rfl (iS_t hP.1.1).1 (by decide) (by decide) rfl (Nat.zero_le _) (Nat.zero_le _) (iS_t hP.1.1) (fun r1 w2 q3 => ?_)
        rw [q3.1, q3.2]
        exact M.iret rfl (Nat.zero_le _) (Nat.zero_le _) ⟨reI (by rw [if_neg h2]; exact ite_congr (propext ⟨fun q => ⟨q.1, by omega, by omega⟩, fun q => ⟨q.1, by omega, by have := (tcq_t (k := c) (by omega)).2; omega⟩⟩) (fun _ => rfl) (fun _ => rfl)), rfl⟩
      · skip
        refine M.run 1 (pc' := 30) (lv' := [some (vr kb), some (vi y), some (vi z)]) (st' := [vi (-2)]) rfl ?_
        exact M.iret rfl (Nat.zero_le _) (Nat.zero_le _) ⟨reI (by rw [if_neg h2, if_neg (by omega)]), rfl⟩
  · skip
    refine M.run 1 (pc' := 6) (lv' := [some (vr kb), some (vi y), some (vi z)]) (st' := [vr kb]) rfl ?_
    refine M.get fl_X10_28 rfl (hP.2.1) (kf := 3) (v := vr ((aA kb) 0)) rfl ?_
    refine M.get fl_X10_237 rfl hP.1.1.1 (kf := 9) (v := vr ((aA kb) 9)) rfl ?_
    refine M.get fl_X10_240 rfl (iS_t hP.1.1).1 (kf := 2) (v := vi ((D.2.2.2.1.length : Nat) : Int)) rfl ?_
    exact M.iret rfl (Nat.zero_le _) (Nat.zero_le _) ⟨reI (if_pos h2).symm, rfl⟩
