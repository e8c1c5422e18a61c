theorem iI_ushI {x : Int} {b2 : Nat} (h2 : b2 < 32) : ((iI x).toUInt32 >>> ((iI (b2 : Nat)).toUInt32 &&& Int32.toUInt32 31)).toInt32 = iI ((((x % 4294967296).toNat >>> b2 : Nat)) : Int) := by
  apply Int32.toBitVec_inj.mp
  apply BitVec.eq_of_toNat_eq
  have e2 : (iI (b2 : Nat)).toUInt32.toNat = b2 := iI_tn (by omega)
  have e3 : (Int32.toUInt32 31).toNat = 2 ^ 5 - 1 := by decide
  have e4 : (x % 4294967296).toNat >>> b2 ≤ (x % 4294967296).toNat := Nat.shiftRight_le _ _
  have e5 : (x % 4294967296).toNat < 4294967296 := by omega
  have e6 : (((((x % 4294967296).toNat >>> b2 : Nat)) : Int) % 4294967296).toNat = (x % 4294967296).toNat >>> b2 := by
    generalize (x % 4294967296).toNat >>> b2 = z at e4 ⊢
    omega
  rw [iI_bn, e6]
  show ((iI x).toUInt32 >>> ((iI (b2 : Nat)).toUInt32 &&& Int32.toUInt32 31)).toNat = _
  rw [UInt32.toNat_shiftRight, UInt32.toNat_and, e2, e3, Nat.and_two_pow_sub_one_eq_mod, show b2 % 2 ^ 5 % 32 = b2 by omega]
  show (iI x).toBitVec.toNat >>> b2 = _
  rw [iI_bn]
section QUSH
variable {l : Launch} {G : GT} {y : MethodName} {cc : ByteArray} {t : Tab} {nL : Nat} {ret : Option FieldType} {d mc ms : Nat} {Qp : Option AV → Wo → Prop} {g : gF}
variable {k n : Nat} {w : Wo} {pc : Nat} {lv : Lo} {st : List AV} {x : Int}
theorem Mach.iushrI (M : Mach l G y cc t nL ret d mc ms Qp g) (hq : qlk t pc = some (.iushr, 1)) {b2 : Nat} (h2 : b2 < 32) (kk : g k n w (pc + 1) lv (vi ((((x % 4294967296).toNat >>> b2 : Nat)) : Int) :: st)) : g k n w pc lv (vi (b2 : Nat) :: vi x :: st) := by
  obtain ⟨p, e, s, m, args, below, meth, c, A, hx, hb, ht, hml, hr', hlk, hown, hts, hnm, hA, hAB, hB, hK, hSt, rfl⟩ := M
  intro H locs ls hP hD hS hl
  exact lv_iushr hx hb (qdec ht hq) (iI_ushI h2) (kk H locs ls hP hD hS hl)
end QUSH
theorem ush_b {x : Int} {b : Nat} (hb : b = 24 ∨ b = 16 ∨ b = 8 ∨ b = 0) : ((((x % 4294967296).toNat >>> b : Nat)) : Int) % 256 = x / ((2 ^ b : Nat) : Int) % 256 := by
  rcases hb with rfl | rfl | rfl | rfl
  · rw [Nat.shiftRight_eq_div_pow]; omega
  · rw [Nat.shiftRight_eq_div_pow]; omega
  · rw [Nat.shiftRight_eq_div_pow]; omega
  · rw [Nat.shiftRight_eq_div_pow]; omega
theorem kr_nt {kb : Nat} {fx fx2 tl2 tp : Nat → Int} {D2 : Dy} {L L2 : List Dy} {nt fs fp v : Int} {w : Wo} (h : isKr kb fx fx2 L tl2 D2 L2 tp nt fs fp w) : isKr kb fx fx2 L tl2 D2 L2 tp v fs fp (up w kb (Ob 9 [vr (kb + 1), vr (kb + 412), vr (tz (kb + 1) 0), vr (aA kb 0), vr (aA kb 13), vr (aB kb 13), vr (kb + 842), vr (kb + 849), vi v, vi fs, vi fp])) := by
  obtain ⟨h1, h2, h3, h4, h5, h6, h7, h8, h9, h10, h11⟩ := h
  have q : ∀ (c : Ce) (a : Nat), kb < a → lk (up w kb c) a = lk w a := fun c a ha => lk_up_n (by omega)
  exact ⟨lk_up_s h1, rg_fr h2 (fun a ha => q _ a (by omega)), rg_fr h3 (fun a ha => q _ a (by omega)), isTo_fr h4 (fun j hj => q _ _ (by unfold tz; omega)), isS2_e h5 (fun j hj => q _ _ (by unfold nz; omega)), tr_fr h6 (fun a a1 a2 => q _ a (by omega)), txs_fr h7 (fun a ha => q _ a (by omega)), txs_fr h8 (fun a ha => q _ a (by omega)), h9, rd_fr h10 (fun a a1 a2 => q _ a (by omega)), (q _ _ (by omega)).trans h11⟩
theorem kr_tp {kb : Nat} {fx fx2 tl2 tp tq : Nat → Int} {D2 : Dy} {L L2 : List Dy} {nt fs fp : Int} {w : Wo} (h : isKr kb fx fx2 L tl2 D2 L2 tp nt fs fp w) : isKr kb fx fx2 L tl2 D2 L2 tq nt fs fp (up w (kb + 849) (Ar 0 300 tq)) := by
  obtain ⟨h1, h2, h3, h4, h5, h6, h7, h8, h9, h10, h11⟩ := h
  have q : ∀ (c : Ce) (a : Nat), a ≠ kb + 849 → lk (up w (kb + 849) c) a = lk w a := fun c a ha => lk_up_n ha
  exact ⟨(q _ _ (by omega)).trans h1, rg_fr h2 (fun a ha => q _ a (by omega)), rg_fr h3 (fun a ha => q _ a (by omega)), isTo_fr h4 (fun j hj => q _ _ (by unfold tz; omega)), isS2_e h5 (fun j hj => q _ _ (by unfold nz; omega)), tr_fr h6 (fun a a1 a2 => q _ a (by omega)), txs_fr h7 (fun a ha => q _ a (by omega)), txs_fr h8 (fun a ha => q _ a (by omega)), h9, rd_fr h10 (fun a a1 a2 => q _ a (by omega)), lk_up_s h11⟩
theorem en_out {G : GT} {kb : Nat} {fx tl : Nat → Int} {X : Nat → Int → Option Gn} {cl : Nat → Int} {D : Dy} {w : Wo} {a : Nat} {c : Ce} (h : isEn G (kb + 850) (aA kb) (tz (kb + 1)) tl fx X cl 1 D w) (ha : a = kb ∨ (kb + 826 ≤ a ∧ a < kb + 850)) : isEn G (kb + 850) (aA kb) (tz (kb + 1)) tl fx X cl 1 D (up w a c) :=
  en_o h (isS2_e h.1 (fun i hi => lk_up_n (by have := aA_r (kb := kb) i (by omega); omega))) (fun b hb => lk_up_n (by omega))

set_option maxHeartbeats 4000000 in
set_option maxRecDepth 100000 in
theorem kX10_feedFour (l : Launch) (G : GT) (kb : Nat) (tl fx fx2 : Nat → Int) (X : Nat → Int → Option Gn) (cl : Nat → Int) (D : Dy) (L : List Dy) (tl2 : Nat → Int) (D2 : Dy) (L2 : List Dy) (tp : Nat → Int) (fs fp : Int) (hT : Tok tl) (n : Int) (hd : Dok n D) (hn : n ≤ 1500000000) (hJ : Jok D) (hi : Inv D) (h9 : D.1 18 ≤ 9999) (hZ : Tz tl) (hru : -1 ≤ tl 2 ∧ tl 2 < tl 1) (t : Nat) (ht : t + 4 ≤ 300) (x : Int)  : Ctr l G yX10_feedFour cX10_feedFour 3 ((Option.none : Option Jvm.ClassFile.FieldType)) 1 0 0 [vr kb, vi x] (fun w => isEn G (kb + 850) (aA kb) (tz (kb + 1)) tl fx X cl 1 D w ∧ isKr kb fx fx2 L tl2 D2 L2 tp ((t : Nat) : Int) fs fp w) (fun w r w' => r = none ∧ isEn G (kb + 850) (aA kb) (tz (kb + 1)) tl fx X cl 1 D w' ∧ isKr kb fx fx2 L tl2 D2 L2 (fo4 tp t x) ((t + 4 : Nat) : Int) fs fp w') := by
  refine Ctr.of (t := tX10_feedFour) (lv0 := [some (vr kb), some (vi x), none]) (by decide +kernel) tX10_feedFour_ok rfl rfl (fun w g hP M => ?_)
  refine M.run 3 (pc' := 4) (lv' := [some (vr kb), some (vi x), some (vi 24)]) (st' := [vi 24]) rfl ?_
  refine M.if_lt (tgt := 59) rfl (qI (by decide)) (by decide) (fun q => absurd q (by decide)) (fun _ => ?_)
  refine M.run 1 (pc' := 8) (lv' := [some (vr kb), some (vi x), some (vi 24)]) (st' := [vr kb]) rfl ?_
  refine M.get fl_X10_86 rfl (hP.2.1) (kf := 8) (v := vi ((t : Nat) : Int)) rfl ?_
  refine M.if_lt (tgt := 26) rfl (qI (by omega)) (by decide) (fun h11 => ?_) (fun h11 => ?_)
  · skip
    omega
  · skip
    refine M.run 1 (pc' := 15) (lv' := [some (vr kb), some (vi x), some (vi 24)]) (st' := [vr kb]) rfl ?_
    refine M.get fl_X10_86 rfl (hP.2.1) (kf := 8) (v := vi ((t : Nat) : Int)) rfl ?_
    refine M.run 1 (pc' := 19) (lv' := [some (vr kb), some (vi x), some (vi 24)]) (st' := [vr kb, vi ((t : Nat) : Int)]) rfl ?_
    refine M.get fl_X10_51 rfl (hP.2.1) (kf := 7) (v := vr (kb + 849)) rfl ?_
    refine M.alen rfl (hP.2.2.2.2.2.2.2.2.2.2.2) (by decide) ?_
    refine M.icmp_lt (tgt := 27) rfl (qI (by omega)) (qI (by omega)) (by decide) (fun h23 => ?_) (fun h23 => ?_)
    · skip
      refine M.run 1 (pc' := 28) (lv' := [some (vr kb), some (vi x), some (vi 24)]) (st' := [vr kb]) rfl ?_
      refine M.get fl_X10_51 rfl (hP.2.1) (kf := 7) (v := vr (kb + 849)) rfl ?_
      refine M.run 1 (pc' := 32) (lv' := [some (vr kb), some (vi x), some (vi 24)]) (st' := [vr kb, vr (kb + 849)]) rfl ?_
      refine M.get fl_X10_86 rfl (hP.2.1) (kf := 8) (v := vi ((t : Nat) : Int)) rfl ?_
      refine M.run 2 (pc' := 37) (lv' := [some (vr kb), some (vi x), some (vi 24)]) (st' := [vi 24, vi x, vi ((t : Nat) : Int), vr (kb + 849)]) rfl ?_
      refine M.iushrI (b2 := 24) rfl (by omega) ?_
      refine M.run 1 (pc' := 41) (lv' := [some (vr kb), some (vi x), some (vi 24)]) (st' := [vi 255, vi ((((x % 4294967296).toNat >>> 24 : Nat)) : Int), vi ((t : Nat) : Int), vr (kb + 849)]) rfl ?_
      refine M.iand255 rfl ?_
      rw [ush_b (x := x) (b := 24) (by decide)]
      refine M.iastN (t) rfl (hP.2.2.2.2.2.2.2.2.2.2.2) (by omega) (by decide) ?_
      have hK1 := kr_tp (tq := (uN tp t (x / ((2 ^ 24 : Nat) : Int) % 256))) hP.2
      have hE1 := en_out (a := kb + 849) (c := Ar 0 300 (uN tp t (x / ((2 ^ 24 : Nat) : Int) % 256))) hP.1 (Or.inr (by omega))
      generalize up w (kb + 849) (Ar 0 300 (uN tp t (x / ((2 ^ 24 : Nat) : Int) % 256))) = w1 at hE1 hK1 ⊢
      refine M.run 2 (pc' := 45) (lv' := [some (vr kb), some (vi x), some (vi 24)]) (st' := [vr kb, vr kb]) rfl ?_
      refine M.get fl_X10_86 rfl (hK1.1) (kf := 8) (v := vi ((t : Nat) : Int)) rfl ?_
      refine M.run 2 (pc' := 50) (lv' := [some (vr kb), some (vi x), some (vi 24)]) (st' := [vi (((t : Nat) : Int) + 1), vr kb]) rfl ?_
      rw [show ((t : Nat) : Int) + 1 = ((t + 1 : Nat) : Int) from by omega]
      refine M.put fl_X10_86 rfl ((hK1.1)) rfl rfl (Nat.le_of_ble_eq_true rfl) ?_
      change g 0 0 (up w1 kb (Ob 9 [vr (kb + 1), vr (kb + 412), vr ((tz (kb + 1)) 0), vr ((aA kb) 0), vr ((aA kb) 13), vr (aB kb 13), vr (kb + 842), vr (kb + 849), vi ((t + 1 : Nat) : Int), vi fs, vi fp])) 53 [some (vr kb), some (vi x), some (vi 24)] []
      have hK2 := kr_nt (v := ((t + 1 : Nat) : Int)) hK1
      have hE2 := en_out (a := kb) (c := Ob 9 [vr (kb + 1), vr (kb + 412), vr ((tz (kb + 1)) 0), vr ((aA kb) 0), vr ((aA kb) 13), vr (aB kb 13), vr (kb + 842), vr (kb + 849), vi ((t + 1 : Nat) : Int), vi fs, vi fp]) hE1 (Or.inl rfl)
      generalize up w1 kb (Ob 9 [vr (kb + 1), vr (kb + 412), vr ((tz (kb + 1)) 0), vr ((aA kb) 0), vr ((aA kb) 13), vr (aB kb 13), vr (kb + 842), vr (kb + 849), vi ((t + 1 : Nat) : Int), vi fs, vi fp]) = w2 at hE2 hK2 ⊢
      refine M.run 3 (pc' := 4) (lv' := [some (vr kb), some (vi x), some (vi 16)]) (st' := [vi 16]) rfl ?_
      refine M.if_lt (tgt := 59) rfl (qI (by decide)) (by decide) (fun q => absurd q (by decide)) (fun _ => ?_)
      refine M.run 1 (pc' := 8) (lv' := [some (vr kb), some (vi x), some (vi 16)]) (st' := [vr kb]) rfl ?_
      refine M.get fl_X10_86 rfl (hK2.1) (kf := 8) (v := vi ((t + 1 : Nat) : Int)) rfl ?_
      refine M.if_lt (tgt := 26) rfl (qI (by omega)) (by decide) (fun h11 => ?_) (fun h11 => ?_)
      · skip
        omega
      · skip
        refine M.run 1 (pc' := 15) (lv' := [some (vr kb), some (vi x), some (vi 16)]) (st' := [vr kb]) rfl ?_
        refine M.get fl_X10_86 rfl (hK2.1) (kf := 8) (v := vi ((t + 1 : Nat) : Int)) rfl ?_
        refine M.run 1 (pc' := 19) (lv' := [some (vr kb), some (vi x), some (vi 16)]) (st' := [vr kb, vi ((t + 1 : Nat) : Int)]) rfl ?_
        refine M.get fl_X10_51 rfl (hK2.1) (kf := 7) (v := vr (kb + 849)) rfl ?_
        refine M.alen rfl (hK2.2.2.2.2.2.2.2.2.2.2) (by decide) ?_
        refine M.icmp_lt (tgt := 27) rfl (qI (by omega)) (qI (by omega)) (by decide) (fun h23 => ?_) (fun h23 => ?_)
        · skip
          refine M.run 1 (pc' := 28) (lv' := [some (vr kb), some (vi x), some (vi 16)]) (st' := [vr kb]) rfl ?_
          refine M.get fl_X10_51 rfl (hK2.1) (kf := 7) (v := vr (kb + 849)) rfl ?_
          refine M.run 1 (pc' := 32) (lv' := [some (vr kb), some (vi x), some (vi 16)]) (st' := [vr kb, vr (kb + 849)]) rfl ?_
          refine M.get fl_X10_86 rfl (hK2.1) (kf := 8) (v := vi ((t + 1 : Nat) : Int)) rfl ?_
          refine M.run 2 (pc' := 37) (lv' := [some (vr kb), some (vi x), some (vi 16)]) (st' := [vi 16, vi x, vi ((t + 1 : Nat) : Int), vr (kb + 849)]) rfl ?_
          refine M.iushrI (b2 := 16) rfl (by omega) ?_
          refine M.run 1 (pc' := 41) (lv' := [some (vr kb), some (vi x), some (vi 16)]) (st' := [vi 255, vi ((((x % 4294967296).toNat >>> 16 : Nat)) : Int), vi ((t + 1 : Nat) : Int), vr (kb + 849)]) rfl ?_
          refine M.iand255 rfl ?_
          rw [ush_b (x := x) (b := 16) (by decide)]
          refine M.iastN (t + 1) rfl (hK2.2.2.2.2.2.2.2.2.2.2) (by omega) (by decide) ?_
          have hK3 := kr_tp (tq := (uN (uN tp t (x / ((2 ^ 24 : Nat) : Int) % 256)) (t + 1) (x / ((2 ^ 16 : Nat) : Int) % 256))) hK2
          have hE3 := en_out (a := kb + 849) (c := Ar 0 300 (uN (uN tp t (x / ((2 ^ 24 : Nat) : Int) % 256)) (t + 1) (x / ((2 ^ 16 : Nat) : Int) % 256))) hE2 (Or.inr (by omega))
          generalize up w2 (kb + 849) (Ar 0 300 (uN (uN tp t (x / ((2 ^ 24 : Nat) : Int) % 256)) (t + 1) (x / ((2 ^ 16 : Nat) : Int) % 256))) = w3 at hE3 hK3 ⊢
          refine M.run 2 (pc' := 45) (lv' := [some (vr kb), some (vi x), some (vi 16)]) (st' := [vr kb, vr kb]) rfl ?_
          refine M.get fl_X10_86 rfl (hK3.1) (kf := 8) (v := vi ((t + 1 : Nat) : Int)) rfl ?_
          refine M.run 2 (pc' := 50) (lv' := [some (vr kb), some (vi x), some (vi 16)]) (st' := [vi (((t + 1 : Nat) : Int) + 1), vr kb]) rfl ?_
          rw [show ((t + 1 : Nat) : Int) + 1 = ((t + 2 : Nat) : Int) from by omega]
          refine M.put fl_X10_86 rfl ((hK3.1)) rfl rfl (Nat.le_of_ble_eq_true rfl) ?_
          change g 0 0 (up w3 kb (Ob 9 [vr (kb + 1), vr (kb + 412), vr ((tz (kb + 1)) 0), vr ((aA kb) 0), vr ((aA kb) 13), vr (aB kb 13), vr (kb + 842), vr (kb + 849), vi ((t + 2 : Nat) : Int), vi fs, vi fp])) 53 [some (vr kb), some (vi x), some (vi 16)] []
          have hK4 := kr_nt (v := ((t + 2 : Nat) : Int)) hK3
          have hE4 := en_out (a := kb) (c := Ob 9 [vr (kb + 1), vr (kb + 412), vr ((tz (kb + 1)) 0), vr ((aA kb) 0), vr ((aA kb) 13), vr (aB kb 13), vr (kb + 842), vr (kb + 849), vi ((t + 2 : Nat) : Int), vi fs, vi fp]) hE3 (Or.inl rfl)
          generalize up w3 kb (Ob 9 [vr (kb + 1), vr (kb + 412), vr ((tz (kb + 1)) 0), vr ((aA kb) 0), vr ((aA kb) 13), vr (aB kb 13), vr (kb + 842), vr (kb + 849), vi ((t + 2 : Nat) : Int), vi fs, vi fp]) = w4 at hE4 hK4 ⊢
          refine M.run 3 (pc' := 4) (lv' := [some (vr kb), some (vi x), some (vi 8)]) (st' := [vi 8]) rfl ?_
          refine M.if_lt (tgt := 59) rfl (qI (by decide)) (by decide) (fun q => absurd q (by decide)) (fun _ => ?_)
          refine M.run 1 (pc' := 8) (lv' := [some (vr kb), some (vi x), some (vi 8)]) (st' := [vr kb]) rfl ?_
          refine M.get fl_X10_86 rfl (hK4.1) (kf := 8) (v := vi ((t + 2 : Nat) : Int)) rfl ?_
          refine M.if_lt (tgt := 26) rfl (qI (by omega)) (by decide) (fun h11 => ?_) (fun h11 => ?_)
          · skip
            omega
          · skip
            refine M.run 1 (pc' := 15) (lv' := [some (vr kb), some (vi x), some (vi 8)]) (st' := [vr kb]) rfl ?_
            refine M.get fl_X10_86 rfl (hK4.1) (kf := 8) (v := vi ((t + 2 : Nat) : Int)) rfl ?_
            refine M.run 1 (pc' := 19) (lv' := [some (vr kb), some (vi x), some (vi 8)]) (st' := [vr kb, vi ((t + 2 : Nat) : Int)]) rfl ?_
            refine M.get fl_X10_51 rfl (hK4.1) (kf := 7) (v := vr (kb + 849)) rfl ?_
            refine M.alen rfl (hK4.2.2.2.2.2.2.2.2.2.2) (by decide) ?_
            refine M.icmp_lt (tgt := 27) rfl (qI (by omega)) (qI (by omega)) (by decide) (fun h23 => ?_) (fun h23 => ?_)
            · skip
              refine M.run 1 (pc' := 28) (lv' := [some (vr kb), some (vi x), some (vi 8)]) (st' := [vr kb]) rfl ?_
              refine M.get fl_X10_51 rfl (hK4.1) (kf := 7) (v := vr (kb + 849)) rfl ?_
              refine M.run 1 (pc' := 32) (lv' := [some (vr kb), some (vi x), some (vi 8)]) (st' := [vr kb, vr (kb + 849)]) rfl ?_
              refine M.get fl_X10_86 rfl (hK4.1) (kf := 8) (v := vi ((t + 2 : Nat) : Int)) rfl ?_
              refine M.run 2 (pc' := 37) (lv' := [some (vr kb), some (vi x), some (vi 8)]) (st' := [vi 8, vi x, vi ((t + 2 : Nat) : Int), vr (kb + 849)]) rfl ?_
              refine M.iushrI (b2 := 8) rfl (by omega) ?_
              refine M.run 1 (pc' := 41) (lv' := [some (vr kb), some (vi x), some (vi 8)]) (st' := [vi 255, vi ((((x % 4294967296).toNat >>> 8 : Nat)) : Int), vi ((t + 2 : Nat) : Int), vr (kb + 849)]) rfl ?_
              refine M.iand255 rfl ?_
              rw [ush_b (x := x) (b := 8) (by decide)]
              refine M.iastN (t + 2) rfl (hK4.2.2.2.2.2.2.2.2.2.2) (by omega) (by decide) ?_
              have hK5 := kr_tp (tq := (uN (uN (uN tp t (x / ((2 ^ 24 : Nat) : Int) % 256)) (t + 1) (x / ((2 ^ 16 : Nat) : Int) % 256)) (t + 2) (x / ((2 ^ 8 : Nat) : Int) % 256))) hK4
              have hE5 := en_out (a := kb + 849) (c := Ar 0 300 (uN (uN (uN tp t (x / ((2 ^ 24 : Nat) : Int) % 256)) (t + 1) (x / ((2 ^ 16 : Nat) : Int) % 256)) (t + 2) (x / ((2 ^ 8 : Nat) : Int) % 256))) hE4 (Or.inr (by omega))
              generalize up w4 (kb + 849) (Ar 0 300 (uN (uN (uN tp t (x / ((2 ^ 24 : Nat) : Int) % 256)) (t + 1) (x / ((2 ^ 16 : Nat) : Int) % 256)) (t + 2) (x / ((2 ^ 8 : Nat) : Int) % 256))) = w5 at hE5 hK5 ⊢
              refine M.run 2 (pc' := 45) (lv' := [some (vr kb), some (vi x), some (vi 8)]) (st' := [vr kb, vr kb]) rfl ?_
              refine M.get fl_X10_86 rfl (hK5.1) (kf := 8) (v := vi ((t + 2 : Nat) : Int)) rfl ?_
              refine M.run 2 (pc' := 50) (lv' := [some (vr kb), some (vi x), some (vi 8)]) (st' := [vi (((t + 2 : Nat) : Int) + 1), vr kb]) rfl ?_
              rw [show ((t + 2 : Nat) : Int) + 1 = ((t + 3 : Nat) : Int) from by omega]
              refine M.put fl_X10_86 rfl ((hK5.1)) rfl rfl (Nat.le_of_ble_eq_true rfl) ?_
              change g 0 0 (up w5 kb (Ob 9 [vr (kb + 1), vr (kb + 412), vr ((tz (kb + 1)) 0), vr ((aA kb) 0), vr ((aA kb) 13), vr (aB kb 13), vr (kb + 842), vr (kb + 849), vi ((t + 3 : Nat) : Int), vi fs, vi fp])) 53 [some (vr kb), some (vi x), some (vi 8)] []
              have hK6 := kr_nt (v := ((t + 3 : Nat) : Int)) hK5
              have hE6 := en_out (a := kb) (c := Ob 9 [vr (kb + 1), vr (kb + 412), vr ((tz (kb + 1)) 0), vr ((aA kb) 0), vr ((aA kb) 13), vr (aB kb 13), vr (kb + 842), vr (kb + 849), vi ((t + 3 : Nat) : Int), vi fs, vi fp]) hE5 (Or.inl rfl)
              generalize up w5 kb (Ob 9 [vr (kb + 1), vr (kb + 412), vr ((tz (kb + 1)) 0), vr ((aA kb) 0), vr ((aA kb) 13), vr (aB kb 13), vr (kb + 842), vr (kb + 849), vi ((t + 3 : Nat) : Int), vi fs, vi fp]) = w6 at hE6 hK6 ⊢
              refine M.run 3 (pc' := 4) (lv' := [some (vr kb), some (vi x), some (vi 0)]) (st' := [vi 0]) rfl ?_
              refine M.if_lt (tgt := 59) rfl (qI (by decide)) (by decide) (fun q => absurd q (by decide)) (fun _ => ?_)
              refine M.run 1 (pc' := 8) (lv' := [some (vr kb), some (vi x), some (vi 0)]) (st' := [vr kb]) rfl ?_
              refine M.get fl_X10_86 rfl (hK6.1) (kf := 8) (v := vi ((t + 3 : Nat) : Int)) rfl ?_
              refine M.if_lt (tgt := 26) rfl (qI (by omega)) (by decide) (fun h11 => ?_) (fun h11 => ?_)
              · skip
                omega
              · skip
                refine M.run 1 (pc' := 15) (lv' := [some (vr kb), some (vi x), some (vi 0)]) (st' := [vr kb]) rfl ?_
                refine M.get fl_X10_86 rfl (hK6.1) (kf := 8) (v := vi ((t + 3 : Nat) : Int)) rfl ?_
                refine M.run 1 (pc' := 19) (lv' := [some (vr kb), some (vi x), some (vi 0)]) (st' := [vr kb, vi ((t + 3 : Nat) : Int)]) rfl ?_
                refine M.get fl_X10_51 rfl (hK6.1) (kf := 7) (v := vr (kb + 849)) rfl ?_
                refine M.alen rfl (hK6.2.2.2.2.2.2.2.2.2.2) (by decide) ?_
                refine M.icmp_lt (tgt := 27) rfl (qI (by omega)) (qI (by omega)) (by decide) (fun h23 => ?_) (fun h23 => ?_)
                · skip
                  refine M.run 1 (pc' := 28) (lv' := [some (vr kb), some (vi x), some (vi 0)]) (st' := [vr kb]) rfl ?_
                  refine M.get fl_X10_51 rfl (hK6.1) (kf := 7) (v := vr (kb + 849)) rfl ?_
                  refine M.run 1 (pc' := 32) (lv' := [some (vr kb), some (vi x), some (vi 0)]) (st' := [vr kb, vr (kb + 849)]) rfl ?_
                  refine M.get fl_X10_86 rfl (hK6.1) (kf := 8) (v := vi ((t + 3 : Nat) : Int)) rfl ?_
                  refine M.run 2 (pc' := 37) (lv' := [some (vr kb), some (vi x), some (vi 0)]) (st' := [vi 0, vi x, vi ((t + 3 : Nat) : Int), vr (kb + 849)]) rfl ?_
                  refine M.iushrI (b2 := 0) rfl (by omega) ?_
                  refine M.run 1 (pc' := 41) (lv' := [some (vr kb), some (vi x), some (vi 0)]) (st' := [vi 255, vi ((((x % 4294967296).toNat >>> 0 : Nat)) : Int), vi ((t + 3 : Nat) : Int), vr (kb + 849)]) rfl ?_
                  refine M.iand255 rfl ?_
                  rw [ush_b (x := x) (b := 0) (by decide)]
                  refine M.iastN (t + 3) rfl (hK6.2.2.2.2.2.2.2.2.2.2) (by omega) (by decide) ?_
                  have hK7 := kr_tp (tq := (uN (uN (uN (uN tp t (x / ((2 ^ 24 : Nat) : Int) % 256)) (t + 1) (x / ((2 ^ 16 : Nat) : Int) % 256)) (t + 2) (x / ((2 ^ 8 : Nat) : Int) % 256)) (t + 3) (x / ((2 ^ 0 : Nat) : Int) % 256))) hK6
                  have hE7 := en_out (a := kb + 849) (c := Ar 0 300 (uN (uN (uN (uN tp t (x / ((2 ^ 24 : Nat) : Int) % 256)) (t + 1) (x / ((2 ^ 16 : Nat) : Int) % 256)) (t + 2) (x / ((2 ^ 8 : Nat) : Int) % 256)) (t + 3) (x / ((2 ^ 0 : Nat) : Int) % 256))) hE6 (Or.inr (by omega))
                  generalize up w6 (kb + 849) (Ar 0 300 (uN (uN (uN (uN tp t (x / ((2 ^ 24 : Nat) : Int) % 256)) (t + 1) (x / ((2 ^ 16 : Nat) : Int) % 256)) (t + 2) (x / ((2 ^ 8 : Nat) : Int) % 256)) (t + 3) (x / ((2 ^ 0 : Nat) : Int) % 256))) = w7 at hE7 hK7 ⊢
                  refine M.run 2 (pc' := 45) (lv' := [some (vr kb), some (vi x), some (vi 0)]) (st' := [vr kb, vr kb]) rfl ?_
                  refine M.get fl_X10_86 rfl (hK7.1) (kf := 8) (v := vi ((t + 3 : Nat) : Int)) rfl ?_
                  refine M.run 2 (pc' := 50) (lv' := [some (vr kb), some (vi x), some (vi 0)]) (st' := [vi (((t + 3 : Nat) : Int) + 1), vr kb]) rfl ?_
                  rw [show ((t + 3 : Nat) : Int) + 1 = ((t + 4 : Nat) : Int) from by omega]
                  refine M.put fl_X10_86 rfl ((hK7.1)) rfl rfl (Nat.le_of_ble_eq_true rfl) ?_
                  change g 0 0 (up w7 kb (Ob 9 [vr (kb + 1), vr (kb + 412), vr ((tz (kb + 1)) 0), vr ((aA kb) 0), vr ((aA kb) 13), vr (aB kb 13), vr (kb + 842), vr (kb + 849), vi ((t + 4 : Nat) : Int), vi fs, vi fp])) 53 [some (vr kb), some (vi x), some (vi 0)] []
                  have hK8 := kr_nt (v := ((t + 4 : Nat) : Int)) hK7
                  have hE8 := en_out (a := kb) (c := Ob 9 [vr (kb + 1), vr (kb + 412), vr ((tz (kb + 1)) 0), vr ((aA kb) 0), vr ((aA kb) 13), vr (aB kb 13), vr (kb + 842), vr (kb + 849), vi ((t + 4 : Nat) : Int), vi fs, vi fp]) hE7 (Or.inl rfl)
                  generalize up w7 kb (Ob 9 [vr (kb + 1), vr (kb + 412), vr ((tz (kb + 1)) 0), vr ((aA kb) 0), vr ((aA kb) 13), vr (aB kb 13), vr (kb + 842), vr (kb + 849), vi ((t + 4 : Nat) : Int), vi fs, vi fp]) = w8 at hE8 hK8 ⊢
                  refine M.run 3 (pc' := 4) (lv' := [some (vr kb), some (vi x), some (vi (-8))]) (st' := [vi (-8)]) rfl ?_
                  refine M.if_lt (tgt := 59) rfl (qI (by decide)) (by decide) (fun _ => ?_) (fun q => absurd q (by decide))
                  exact M.vret rfl (Nat.zero_le _) (Nat.zero_le _) ⟨rfl, hE8, hK8⟩
                · skip
                  omega
            · skip
              omega
        · skip
          omega
    · skip
      omega
set_option maxHeartbeats 4000000 in
set_option maxRecDepth 100000 in
theorem kX10_feed (l : Launch) (G : GT) (kb : Nat) (tl fx fx2 : Nat → Int) (X : Nat → Int → Option Gn) (cl : Nat → Int) (D : Dy) (L : List Dy) (tl2 : Nat → Int) (D2 : Dy) (L2 : List Dy) (tp : Nat → Int) (fs fp : Int) (hT : Tok tl) (n : Int) (hd : Dok n D) (hn : n ≤ 1500000000) (hJ : Jok D) (hi : Inv D) (h9 : D.1 18 ≤ 9999) (hZ : Tz tl) (hru : -1 ≤ tl 2 ∧ tl 2 < tl 1) (t : Nat) (ht3 : t ≤ 300) (x1 x2 x3 x4 x5 : Int)  : Ctr l G yX10_feed cX10_feed 6 ((Option.some Jvm.ClassFile.FieldType.int)) 2 0 0 [vr kb, vi x1, vi x2, vi x3, vi x4, vi x5] (fun w => isEn G (kb + 850) (aA kb) (tz (kb + 1)) tl fx X cl 1 D w ∧ isKr kb fx fx2 L tl2 D2 L2 tp ((t : Nat) : Int) fs fp w) (fun w r w' => r = some (vi (if t + 20 ≤ 300 then ((t + 20 : Nat) : Int) else -1)) ∧ isEn G (kb + 850) (aA kb) (tz (kb + 1)) tl fx X cl 1 D w' ∧ isKr kb fx fx2 L tl2 D2 L2 (if t + 20 ≤ 300 then fd5 tp t x1 x2 x3 x4 x5 else tp) (if t + 20 ≤ 300 then ((t + 20 : Nat) : Int) else ((t : Nat) : Int)) fs fp w') := by
  refine Ctr.of (t := tX10_feed) (lv0 := [some (vr kb), some (vi x1), some (vi x2), some (vi x3), some (vi x4), some (vi x5)]) (by decide +kernel) tX10_feed_ok rfl rfl (fun w g hP M => ?_)
  refine M.run 1 (pc' := 1) (lv' := [some (vr kb), some (vi x1), some (vi x2), some (vi x3), some (vi x4), some (vi x5)]) (st' := [vr kb]) rfl ?_
  refine M.get fl_X10_86 rfl (hP.2.1) (kf := 8) (v := vi ((t : Nat) : Int)) rfl ?_
  refine M.run 3 (pc' := 10) (lv' := [some (vr kb), some (vi x1), some (vi x2), some (vi x3), some (vi x4), some (vi x5)]) (st' := [vi 300, vi (((t : Nat) : Int) + 20)]) rfl ?_
  refine M.icmp_le (tgt := 15) rfl (qI (by omega)) (qI (by decide)) (by decide) (fun h10 => ?_) (fun h10 => ?_)
  · skip
    refine M.run 2 (pc' := 17) (lv' := [some (vr kb), some (vi x1), some (vi x2), some (vi x3), some (vi x4), some (vi x5)]) (st' := [vi x1, vr kb]) rfl ?_
    refine M.callV (kX10_feedFour l G kb tl fx fx2 X cl D L tl2 D2 L2 tp fs fp hT n hd hn hJ hi h9 hZ hru t (by omega) x1) cv_X10_89 cd_X10_feedFour rfl (st := []) rfl (hP.2.1) (by decide) (by decide) rfl (Nat.zero_le _) (Nat.zero_le _) ⟨hP.1, hP.2⟩ (fun r2 w3 q4 => ?_)
    obtain ⟨q4r, hE1, hK1⟩ := q4
    rw [q4r]
    refine M.run 2 (pc' := 22) (lv' := [some (vr kb), some (vi x1), some (vi x2), some (vi x3), some (vi x4), some (vi x5)]) (st' := [vi x2, vr kb]) rfl ?_
    refine M.callV (kX10_feedFour l G kb tl fx fx2 X cl D L tl2 D2 L2 (fo4 tp t x1) fs fp hT n hd hn hJ hi h9 hZ hru (t + 4) (by omega) x2) cv_X10_89 cd_X10_feedFour rfl (st := []) rfl (hK1.1) (by decide) (by decide) rfl (Nat.zero_le _) (Nat.zero_le _) ⟨hE1, hK1⟩ (fun r7 w8 q9 => ?_)
    obtain ⟨q9r, hE6, hK6⟩ := q9
    rw [q9r]
    refine M.run 2 (pc' := 27) (lv' := [some (vr kb), some (vi x1), some (vi x2), some (vi x3), some (vi x4), some (vi x5)]) (st' := [vi x3, vr kb]) rfl ?_
    refine M.callV (kX10_feedFour l G kb tl fx fx2 X cl D L tl2 D2 L2 (fo4 (fo4 tp t x1) (t + 4) x2) fs fp hT n hd hn hJ hi h9 hZ hru (t + 8) (by omega) x3) cv_X10_89 cd_X10_feedFour rfl (st := []) rfl (hK6.1) (by decide) (by decide) rfl (Nat.zero_le _) (Nat.zero_le _) ⟨hE6, hK6⟩ (fun r12 w13 q14 => ?_)
    obtain ⟨q14r, hE11, hK11⟩ := q14
    rw [q14r]
    refine M.run 2 (pc' := 33) (lv' := [some (vr kb), some (vi x1), some (vi x2), some (vi x3), some (vi x4), some (vi x5)]) (st' := [vi x4, vr kb]) rfl ?_
    refine M.callV (kX10_feedFour l G kb tl fx fx2 X cl D L tl2 D2 L2 (fo4 (fo4 (fo4 tp t x1) (t + 4) x2) (t + 8) x3) fs fp hT n hd hn hJ hi h9 hZ hru (t + 12) (by omega) x4) cv_X10_89 cd_X10_feedFour rfl (st := []) rfl (hK11.1) (by decide) (by decide) rfl (Nat.zero_le _) (Nat.zero_le _) ⟨hE11, hK11⟩ (fun r17 w18 q19 => ?_)
    obtain ⟨q19r, hE16, hK16⟩ := q19
    rw [q19r]
    refine M.run 2 (pc' := 39) (lv' := [some (vr kb), some (vi x1), some (vi x2), some (vi x3), some (vi x4), some (vi x5)]) (st' := [vi x5, vr kb]) rfl ?_
    refine M.callV (kX10_feedFour l G kb tl fx fx2 X cl D L tl2 D2 L2 (fo4 (fo4 (fo4 (fo4 tp t x1) (t + 4) x2) (t + 8) x3) (t + 12) x4) fs fp hT n hd hn hJ hi h9 hZ hru (t + 16) (by omega) x5) cv_X10_89 cd_X10_feedFour rfl (st := []) rfl (hK16.1) (by decide) (by decide) rfl (Nat.zero_le _) (Nat.zero_le _) ⟨hE16, hK16⟩ (fun r22 w23 q24 => ?_)
    obtain ⟨q24r, hE21, hK21⟩ := q24
    rw [q24r]
    refine M.run 1 (pc' := 43) (lv' := [some (vr kb), some (vi x1), some (vi x2), some (vi x3), some (vi x4), some (vi x5)]) (st' := [vr kb]) rfl ?_
    refine M.get fl_X10_86 rfl (hK21.1) (kf := 8) (v := vi ((t + 20 : Nat) : Int)) rfl ?_
    exact M.iret rfl (Nat.zero_le _) (Nat.zero_le _) ⟨reI (if_pos (by omega)).symm, (by rw [if_pos (by omega), if_pos (by omega)]; exact ⟨hE21, hK21⟩)⟩
  · skip
    refine M.run 1 (pc' := 14) (lv' := [some (vr kb), some (vi x1), some (vi x2), some (vi x3), some (vi x4), some (vi x5)]) (st' := [vi (-1)]) rfl ?_
    exact M.iret rfl (Nat.zero_le _) (Nat.zero_le _) ⟨reI (if_neg (by omega)).symm, (by rw [if_neg (by omega), if_neg (by omega)]; exact ⟨hP.1, hP.2⟩)⟩
set_option maxHeartbeats 4000000 in
set_option maxRecDepth 100000 in
theorem kX10_end (l : Launch) (G : GT) (kb : Nat) (tl fx fx2 : Nat → Int) (X : Nat → Int → Option Gn) (cl : Nat → Int) (D : Dy) (L : List Dy) (tl2 : Nat → Int) (D2 : Dy) (L2 : List Dy) (tp : Nat → Int) (fs fp : Int) (hT : Tok tl) (n : Int) (hd : Dok n D) (hn : n ≤ 1500000000) (hJ : Jok D) (hi : Inv D) (h9 : D.1 18 ≤ 9999) (hZ : Tz tl) (hru : -1 ≤ tl 2 ∧ tl 2 < tl 1) (t : Nat) (ht3 : t ≤ 300) (x : Int) (hx : -2147483648 ≤ x ∧ x ≤ 2147483647)  : Ctr l G yX10_end cX10_end 2 ((Option.some Jvm.ClassFile.FieldType.int)) 1 0 0 [vr kb, vi x] (fun w => isEn G (kb + 850) (aA kb) (tz (kb + 1)) tl fx X cl 1 D w ∧ isKr kb fx fx2 L tl2 D2 L2 tp ((t : Nat) : Int) fs fp w) (fun w r w' => r = some (vi (if 0 ≤ x ∧ x ≤ ((t : Nat) : Int) then x else -1)) ∧ isEn G (kb + 850) (aA kb) (tz (kb + 1)) tl fx X cl 1 D w' ∧ isKr kb fx fx2 L tl2 D2 L2 tp (if 0 ≤ x ∧ x ≤ ((t : Nat) : Int) then x else ((t : Nat) : Int)) fs fp w') := by
  refine Ctr.of (t := tX10_end) (lv0 := [some (vr kb), some (vi x)]) (by decide +kernel) tX10_end_ok rfl rfl (fun w g hP M => ?_)
  refine M.run 1 (pc' := 1) (lv' := [some (vr kb), some (vi x)]) (st' := [vi x]) rfl ?_
  refine M.if_lt (tgt := 12) rfl (qI (by omega)) (by decide) (fun h1 => ?_) (fun h1 => ?_)
  · skip
    refine M.run 1 (pc' := 13) (lv' := [some (vr kb), some (vi x)]) (st' := [vi (-1)]) rfl ?_
    exact M.iret rfl (Nat.zero_le _) (Nat.zero_le _) ⟨reI (if_neg (by omega)).symm, (by rw [if_neg (by omega)]; exact ⟨hP.1, hP.2⟩)⟩
  · skip
    refine M.run 2 (pc' := 6) (lv' := [some (vr kb), some (vi x)]) (st' := [vr kb, vi x]) rfl ?_
    refine M.get fl_X10_86 rfl (hP.2.1) (kf := 8) (v := vi ((t : Nat) : Int)) rfl ?_
    refine M.icmp_le (tgt := 14) rfl (qI (by omega)) (qI (by omega)) (by decide) (fun h9 => ?_) (fun h9 => ?_)
    · skip
      refine M.run 2 (pc' := 16) (lv' := [some (vr kb), some (vi x)]) (st' := [vi x, vr kb]) rfl ?_
      refine M.put fl_X10_86 rfl ((hP.2.1)) rfl rfl (Nat.le_of_ble_eq_true rfl) ?_
      change g 0 0 (up w kb (Ob 9 [vr (kb + 1), vr (kb + 412), vr ((tz (kb + 1)) 0), vr ((aA kb) 0), vr ((aA kb) 13), vr (aB kb 13), vr (kb + 842), vr (kb + 849), vi x, vi fs, vi fp])) 19 [some (vr kb), some (vi x)] []
      have hK1 := kr_nt (v := x) hP.2
      have hE1 := en_out (a := kb) (c := Ob 9 [vr (kb + 1), vr (kb + 412), vr ((tz (kb + 1)) 0), vr ((aA kb) 0), vr ((aA kb) 13), vr (aB kb 13), vr (kb + 842), vr (kb + 849), vi x, vi fs, vi fp]) hP.1 (Or.inl rfl)
      generalize up w kb (Ob 9 [vr (kb + 1), vr (kb + 412), vr ((tz (kb + 1)) 0), vr ((aA kb) 0), vr ((aA kb) 13), vr (aB kb 13), vr (kb + 842), vr (kb + 849), vi x, vi fs, vi fp]) = w1 at hE1 hK1 ⊢
      refine M.run 1 (pc' := 20) (lv' := [some (vr kb), some (vi x)]) (st' := [vi x]) rfl ?_
      exact M.iret rfl (Nat.zero_le _) (Nat.zero_le _) ⟨reI (if_pos (by omega)).symm, (by rw [if_pos (by omega)]; exact ⟨hE1, hK1⟩)⟩
    · skip
      refine M.run 1 (pc' := 13) (lv' := [some (vr kb), some (vi x)]) (st' := [vi (-1)]) rfl ?_
      exact M.iret rfl (Nat.zero_le _) (Nat.zero_le _) ⟨reI (if_neg (by omega)).symm, (by rw [if_neg (by omega)]; exact ⟨hP.1, hP.2⟩)⟩
set_option maxHeartbeats 4000000 in
set_option maxRecDepth 100000 in
theorem kX10_loses (l : Launch) (G : GT) (kb : Nat) (tl fx fx2 : Nat → Int) (X : Nat → Int → Option Gn) (cl : Nat → Int) (D : Dy) (L : List Dy) (tl2 : Nat → Int) (D2 : Dy) (L2 : List Dy) (tp : Nat → Int) (nt fs fp : Int) (hT : Tok tl) (n : Int) (hs : Sok n tl D) (hn : n ≤ 1400000000) (hZ : Tz tl) (hru : -1 ≤ tl 2 ∧ tl 2 < tl 1) (x : Int) (y : Int) (hx : -2147483648 ≤ x ∧ x ≤ 2147483647) (hy : -2147483648 ≤ y ∧ y ≤ 2147483647)  : Ctr l G yX10_loses cX10_loses 3 ((Option.some Jvm.ClassFile.FieldType.int)) 5 0 0 [vr kb, vi x, vi y] (fun w => isEn G (kb + 850) (aA kb) (tz (kb + 1)) tl fx X cl 1 D w ∧ isKr kb fx fx2 L tl2 D2 L2 tp nt fs fp w) (fun w r w' => r = some (vi (if (0 ≤ x ∧ x < tl 0) ∧ 0 ≤ y ∧ y ≤ 4 then mLossA X (stA tl D) (tl 2) y x 0 else -1)) ∧ isEn G (kb + 850) (aA kb) (tz (kb + 1)) tl fx X cl 1 D w' ∧ isKr kb fx fx2 L tl2 D2 L2 tp nt fs fp w') := by
  refine Ctr.of (t := tX10_loses) (lv0 := [some (vr kb), some (vi x), some (vi y)]) (by decide +kernel) tX10_loses_ok rfl rfl (fun w g hP M => ?_)
  have hd := hs.1
  have hi := hs.2.1
  have h9 := hs.2.2.1
  have hJ := hs.2.2.2.1
  have hz0 := hs.2.2.2.2
  have hdr : (1 : Int) = 0 ∨ (1 : Int) = 1 := Or.inr rfl
  have hk0 : 0 ≤ tl 0 ∧ tl 0 ≤ 3 := hT.1 0 (by decide)
  refine M.run 1 (pc' := 1) (lv' := [some (vr kb), some (vi x), some (vi y)]) (st' := [vr kb]) rfl ?_
  refine M.get fl_X10_23 rfl (hP.2.1) (kf := 2) (v := vr ((tz (kb + 1)) 0)) rfl ?_
  refine M.run 1 (pc' := 5) (lv' := [some (vr kb), some (vi x), some (vi y)]) (st' := [vi x, vr ((tz (kb + 1)) 0)]) rfl ?_
  refine M.callV (qO_has l G (kb + 850) (aA kb) (tz (kb + 1)) tl fx X cl 1 D hT x ⟨by omega, by omega⟩) cv_X10_189 cd_X9_hasBlock rfl (st := []) rfl hP.1.2.1.1 (by decide) (by decide) rfl (Nat.zero_le _) (Nat.zero_le _) hP.1 (fun r1 w2 q3 => ?_)
  rw [q3.1, q3.2]
  refine M.if_eq (tgt := 20) rfl (inI_zb _) (by decide) (fun h8 => ?_) (fun h8 => ?_)
  · skip
    replace h8 := zb_fd h8
    refine M.run 1 (pc' := 21) (lv' := [some (vr kb), some (vi x), some (vi y)]) (st' := [vi (-1)]) rfl ?_
    exact M.iret rfl (Nat.zero_le _) (Nat.zero_le _) ⟨reI (if_neg (by omega)).symm, hP.1, hP.2⟩
  · skip
    replace h8 := zb_td h8
    refine M.run 1 (pc' := 12) (lv' := [some (vr kb), some (vi x), some (vi y)]) (st' := [vi y]) rfl ?_
    refine M.if_lt (tgt := 20) rfl (qI (by omega)) (by decide) (fun h12 => ?_) (fun h12 => ?_)
    · skip
      refine M.run 1 (pc' := 21) (lv' := [some (vr kb), some (vi x), some (vi y)]) (st' := [vi (-1)]) rfl ?_
      exact M.iret rfl (Nat.zero_le _) (Nat.zero_le _) ⟨reI (if_neg (by omega)).symm, hP.1, hP.2⟩
    · skip
      refine M.run 2 (pc' := 17) (lv' := [some (vr kb), some (vi x), some (vi y)]) (st' := [vi 4, vi y]) rfl ?_
      refine M.icmp_le (tgt := 22) rfl (qI (by omega)) (qI (by decide)) (by decide) (fun h17 => ?_) (fun h17 => ?_)
      · skip
        refine M.run 1 (pc' := 23) (lv' := [some (vr kb), some (vi x), some (vi y)]) (st' := [vr kb]) rfl ?_
        refine M.get fl_X10_34 rfl (hP.2.1) (kf := 4) (v := vr ((aA kb) 13)) rfl ?_
        refine M.get fl_X10_304 rfl hP.1.2.2.1 (kf := 2) (v := vr ((aA kb) 14)) rfl ?_
        refine M.run 1 (pc' := 30) (lv' := [some (vr kb), some (vi x), some (vi y)]) (st' := [vr kb, vr ((aA kb) 14)]) rfl ?_
        refine M.get fl_X10_23 rfl (hP.2.1) (kf := 2) (v := vr ((tz (kb + 1)) 0)) rfl ?_
        refine M.callV (qO_rul l G (kb + 850) (aA kb) (tz (kb + 1)) tl fx X cl 1 D hT) cv_X10_308 cd_X9_rulingText rfl (st := [vr ((aA kb) 14)]) rfl hP.1.2.1.1 (by decide) (by decide) rfl (Nat.zero_le _) (Nat.zero_le _) hP.1 (fun r5 w6 q7 => ?_)
        rw [q7.1, q7.2]
        refine M.run 3 (pc' := 39) (lv' := [some (vr kb), some (vi x), some (vi y)]) (st' := [vi 0, vi x, vi y, .inr (.inr (if 0 ≤ tl 2 ∧ tl 2 < tl 1 then rfO (fx (tl 2).toNat) else none)), vr ((aA kb) 14)]) rfl ?_
        obtain ⟨_, _, _, _, _, hLa9⟩ := hP.1.2.2.2.1
        refine M.callV (qW_los l G (kb + 850) (aA kb) (tz (kb + 1)) tl fx X cl 1 D hT n hd y x 0 (by omega) (by omega) (by omega) (tl 2) (by omega)) cv_X10_312 cd_X2_losing rfl (st := []) rfl hLa9.1 (by decide) (by decide) rfl (Nat.zero_le _) (Nat.zero_le _) hP.1 (fun r12 w13 q14 => ?_)
        obtain ⟨q14r, q14e, q14f⟩ := q14
        rw [q14r, show sayV (X (tl 2).toNat 0) (tl 2) 2 0 10 (enA (stA tl D) y x 0) (ofA (stA tl D)) = mLossA X (stA tl D) (tl 2) y x 0 from rfl]
        have hE10 : isEn G (kb + 850) (aA kb) (tz (kb + 1)) tl fx X cl 1 D w13 := q14e
        have hK11 : isKr kb fx fx2 L tl2 D2 L2 tp nt fs fp w13 := kr_E hP.2 q14f
        exact M.iret rfl (Nat.zero_le _) (Nat.zero_le _) ⟨reI (if_pos (by omega)).symm, hE10, hK11⟩
      · skip
        refine M.run 1 (pc' := 21) (lv' := [some (vr kb), some (vi x), some (vi y)]) (st' := [vi (-1)]) rfl ?_
        exact M.iret rfl (Nat.zero_le _) (Nat.zero_le _) ⟨reI (if_neg (by omega)).symm, hP.1, hP.2⟩
set_option maxHeartbeats 4000000 in
set_option maxRecDepth 100000 in
theorem kX10_waits (l : Launch) (G : GT) (kb : Nat) (tl fx fx2 : Nat → Int) (X : Nat → Int → Option Gn) (cl : Nat → Int) (D : Dy) (L : List Dy) (tl2 : Nat → Int) (D2 : Dy) (L2 : List Dy) (tp : Nat → Int) (nt fs fp : Int) (hT : Tok tl) (n : Int) (hs : Sok n tl D) (hn : n ≤ 1400000000) (hZ : Tz tl) (hru : -1 ≤ tl 2 ∧ tl 2 < tl 1) (x : Int) (y : Int) (z : Int) (hx : -2147483648 ≤ x ∧ x ≤ 2147483647) (hy : -2147483648 ≤ y ∧ y ≤ 2147483647) (hz : -2147483648 ≤ z ∧ z ≤ 2147483647)  : Ctr l G yX10_waits cX10_waits 4 ((Option.some Jvm.ClassFile.FieldType.int)) 5 0 0 [vr kb, vi x, vi y, vi z] (fun w => isEn G (kb + 850) (aA kb) (tz (kb + 1)) tl fx X cl 1 D w ∧ isKr kb fx fx2 L tl2 D2 L2 tp nt fs fp w) (fun w r w' => r = some (vi (if (0 ≤ x ∧ x < tl 0) ∧ (0 ≤ y ∧ y ≤ 4) ∧ 0 ≤ z ∧ z ≤ 9 then mWaitA X (stA tl D) y x z else -1)) ∧ isEn G (kb + 850) (aA kb) (tz (kb + 1)) tl fx X cl 1 D w' ∧ isKr kb fx fx2 L tl2 D2 L2 tp nt fs fp w') := by
  refine Ctr.of (t := tX10_waits) (lv0 := [some (vr kb), some (vi x), some (vi y), some (vi z)]) (by decide +kernel) tX10_waits_ok rfl rfl (fun w g hP M => ?_)
  have hd := hs.1
  have hi := hs.2.1
  have h9 := hs.2.2.1
  have hJ := hs.2.2.2.1
  have hz0 := hs.2.2.2.2
  have hdr : (1 : Int) = 0 ∨ (1 : Int) = 1 := Or.inr rfl
  have hk0 : 0 ≤ tl 0 ∧ tl 0 ≤ 3 := hT.1 0 (by decide)
  refine M.run 1 (pc' := 1) (lv' := [some (vr kb), some (vi x), some (vi y), some (vi z)]) (st' := [vr kb]) rfl ?_
  refine M.get fl_X10_23 rfl (hP.2.1) (kf := 2) (v := vr ((tz (kb + 1)) 0)) rfl ?_
  refine M.run 1 (pc' := 5) (lv' := [some (vr kb), some (vi x), some (vi y), some (vi z)]) (st' := [vi x, vr ((tz (kb + 1)) 0)]) rfl ?_
  refine M.callV (qO_has l G (kb + 850) (aA kb) (tz (kb + 1)) tl fx X cl 1 D hT x ⟨by omega, by omega⟩) cv_X10_189 cd_X9_hasBlock rfl (st := []) rfl hP.1.2.1.1 (by decide) (by decide) rfl (Nat.zero_le _) (Nat.zero_le _) hP.1 (fun r1 w2 q3 => ?_)
  rw [q3.1, q3.2]
  refine M.if_eq (tgt := 20) rfl (inI_zb _) (by decide) (fun h8 => ?_) (fun h8 => ?_)
  · skip
    replace h8 := zb_fd h8
    refine M.run 1 (pc' := 21) (lv' := [some (vr kb), some (vi x), some (vi y), some (vi z)]) (st' := [vi (-1)]) rfl ?_
    exact M.iret rfl (Nat.zero_le _) (Nat.zero_le _) ⟨reI (if_neg (by omega)).symm, hP.1, hP.2⟩
  · skip
    replace h8 := zb_td h8
    refine M.run 1 (pc' := 12) (lv' := [some (vr kb), some (vi x), some (vi y), some (vi z)]) (st' := [vi y]) rfl ?_
    refine M.if_lt (tgt := 20) rfl (qI (by omega)) (by decide) (fun h12 => ?_) (fun h12 => ?_)
    · skip
      refine M.run 1 (pc' := 21) (lv' := [some (vr kb), some (vi x), some (vi y), some (vi z)]) (st' := [vi (-1)]) rfl ?_
      exact M.iret rfl (Nat.zero_le _) (Nat.zero_le _) ⟨reI (if_neg (by omega)).symm, hP.1, hP.2⟩
    · skip
      refine M.run 2 (pc' := 17) (lv' := [some (vr kb), some (vi x), some (vi y), some (vi z)]) (st' := [vi 4, vi y]) rfl ?_
      refine M.icmp_le (tgt := 22) rfl (qI (by omega)) (qI (by decide)) (by decide) (fun h17 => ?_) (fun h17 => ?_)
      · skip
        refine M.run 1 (pc' := 23) (lv' := [some (vr kb), some (vi x), some (vi y), some (vi z)]) (st' := [vi z]) rfl ?_
        refine M.if_lt (tgt := 32) rfl (qI (by omega)) (by decide) (fun h23 => ?_) (fun h23 => ?_)
        · skip
          refine M.run 1 (pc' := 33) (lv' := [some (vr kb), some (vi x), some (vi y), some (vi z)]) (st' := [vi (-1)]) rfl ?_
          exact M.iret rfl (Nat.zero_le _) (Nat.zero_le _) ⟨reI (if_neg (by omega)).symm, hP.1, hP.2⟩
        · skip
          refine M.run 2 (pc' := 29) (lv' := [some (vr kb), some (vi x), some (vi y), some (vi z)]) (st' := [vi 9, vi z]) rfl ?_
          refine M.icmp_le (tgt := 34) rfl (qI (by omega)) (qI (by decide)) (by decide) (fun h29 => ?_) (fun h29 => ?_)
          · skip
            refine M.run 1 (pc' := 35) (lv' := [some (vr kb), some (vi x), some (vi y), some (vi z)]) (st' := [vr kb]) rfl ?_
            refine M.get fl_X10_34 rfl (hP.2.1) (kf := 4) (v := vr ((aA kb) 13)) rfl ?_
            refine M.get fl_X10_304 rfl hP.1.2.2.1 (kf := 2) (v := vr ((aA kb) 14)) rfl ?_
            refine M.run 1 (pc' := 42) (lv' := [some (vr kb), some (vi x), some (vi y), some (vi z)]) (st' := [vr kb, vr ((aA kb) 14)]) rfl ?_
            refine M.get fl_X10_23 rfl (hP.2.1) (kf := 2) (v := vr ((tz (kb + 1)) 0)) rfl ?_
            refine M.callV (qO_rul l G (kb + 850) (aA kb) (tz (kb + 1)) tl fx X cl 1 D hT) cv_X10_308 cd_X9_rulingText rfl (st := [vr ((aA kb) 14)]) rfl hP.1.2.1.1 (by decide) (by decide) rfl (Nat.zero_le _) (Nat.zero_le _) hP.1 (fun r5 w6 q7 => ?_)
            rw [q7.1, q7.2]
            refine M.run 3 (pc' := 51) (lv' := [some (vr kb), some (vi x), some (vi y), some (vi z)]) (st' := [vi z, vi x, vi y, .inr (.inr (if 0 ≤ tl 2 ∧ tl 2 < tl 1 then rfO (fx (tl 2).toNat) else none)), vr ((aA kb) 14)]) rfl ?_
            obtain ⟨_, _, _, _, _, hLa9⟩ := hP.1.2.2.2.1
            refine M.callV (qW_wai l G (kb + 850) (aA kb) (tz (kb + 1)) tl fx X cl 1 D hT n hd y x z (by omega) (by omega) (by omega) (tl 2) (by omega)) cv_X10_318 cd_X2_waiting rfl (st := []) rfl hLa9.1 (by decide) (by decide) rfl (Nat.zero_le _) (Nat.zero_le _) hP.1 (fun r12 w13 q14 => ?_)
            obtain ⟨q14r, q14e, q14f⟩ := q14
            rw [q14r, show sayV (X (tl 2).toNat 1) (tl 2) (2 * tl 6 + 2) 1 60 (enA (stA tl D) y x z) (ofA (stA tl D)) = mWaitA X (stA tl D) y x z from rfl]
            have hE10 : isEn G (kb + 850) (aA kb) (tz (kb + 1)) tl fx X cl 1 D w13 := q14e
            have hK11 : isKr kb fx fx2 L tl2 D2 L2 tp nt fs fp w13 := kr_E hP.2 q14f
            exact M.iret rfl (Nat.zero_le _) (Nat.zero_le _) ⟨reI (if_pos (by omega)).symm, hE10, hK11⟩
          · skip
            refine M.run 1 (pc' := 33) (lv' := [some (vr kb), some (vi x), some (vi y), some (vi z)]) (st' := [vi (-1)]) rfl ?_
            exact M.iret rfl (Nat.zero_le _) (Nat.zero_le _) ⟨reI (if_neg (by omega)).symm, hP.1, hP.2⟩
      · skip
        refine M.run 1 (pc' := 21) (lv' := [some (vr kb), some (vi x), some (vi y), some (vi z)]) (st' := [vi (-1)]) rfl ?_
        exact M.iret rfl (Nat.zero_le _) (Nat.zero_le _) ⟨reI (if_neg (by omega)).symm, hP.1, hP.2⟩
