theorem mMsg_b {D : Dy} {n : Int} (hd : Dok n D) (c : Nat) : mMsg D c ≤ 88 := mMsg_le hd c

set_option maxHeartbeats 4000000 in
set_option maxRecDepth 100000 in
theorem kX10_honest (l : Launch) (G : GT) (kb : Nat) (tl fx fx2 : Nat → Int) (X : Nat → Int → Option Gn) (cl : Nat → Int) (D : Dy) (L : List Dy) (tl2 : Nat → Int) (D2 : Dy) (L2 : List Dy) (tp : Nat → Int) (nt fs fp : Int) (hT : Tok tl) (n : Int) (hd : Dok n D) (hn : n ≤ 1500000000) (hJ : Jok D) (hi : Inv D) (h9 : D.1 18 ≤ 9999) (hZ : Tz tl) (hru : -1 ≤ tl 2 ∧ tl 2 < tl 1)  : Ctr l G yX10_honest cX10_honest 2 ((Option.some Jvm.ClassFile.FieldType.boolean)) 2 0 0 [vr kb] (fun w => isEn G (kb + 850) (aA kb) (tz (kb + 1)) tl fx X cl 1 D w ∧ isKr kb fx fx2 L tl2 D2 L2 tp nt fs fp w) (fun w r w' => r = some (vi (zb (mAll (fun c => decide (bDf (D.1 (34 + c)).toNat (D.1 (37 + c)).toNat = 0)) (tl 0).toNat))) ∧ w' = w) := by
  refine Ctr.of (t := tX10_honest) (lv0 := [some (vr kb), none]) (by decide +kernel) tX10_honest_ok rfl rfl (fun w g hP M => ?_)
  have hk0 : 0 ≤ tl 0 ∧ tl 0 ≤ 3 := hT.1 0 (by decide)
  refine M.run 2 (pc' := 2) (lv' := [some (vr kb), some (vi 0)]) (st' := []) rfl ?_
  have Lp2 : ∀ (N : Nat) (i : Nat), (mAll (fun c => decide (bDf (D.1 (34 + c)).toNat (D.1 (37 + c)).toNat = 0)) i = true) → (i ≤ (tl 0).toNat) → (tl 0).toNat - i < N → g 0 0 w 2 [some (vr kb), some (vi ((i : Nat) : Int))] [] := by
    intro N
    induction N with
    | zero => intro i _ _ hN; exact absurd hN (Nat.not_lt_zero _)
    | succ N ih2 =>
      intro i hA hi2 hN
      refine M.run 2 (pc' := 4) (lv' := [some (vr kb), some (vi ((i : Nat) : Int))]) (st' := [vr kb, vi ((i : Nat) : Int)]) rfl ?_
      refine M.get fl_X10_23 rfl (hP.2.1) (kf := 2) (v := vr ((tz (kb + 1)) 0)) rfl ?_
      refine M.get fl_X10_255 rfl hP.1.2.1.1 (kf := 0) (v := vi (tl 0)) rfl ?_
      refine M.icmp_ge (tgt := 51) rfl (qI (by omega)) (qI (by omega)) (by decide) (fun h10 => ?_) (fun h10 => ?_)
      · skip
        refine M.run 1 (pc' := 52) (lv' := [some (vr kb), some (vi ((i : Nat) : Int))]) (st' := [vi 1]) rfl ?_
        exact M.zret rfl (Or.inr rfl) (Nat.zero_le _) (Nat.zero_le _) ⟨reI (by rw [show (tl 0).toNat = i by omega, hA]; rfl), rfl⟩
      · skip
        have hb1 := Dok_clm hd (x := i) (by omega)
        have hb2 := Dok_com hd (x := i) (by omega)
        have hdl := bDf_lt30 (a := (D.1 (34 + i)).toNat) (b := (D.1 (37 + i)).toNat) (by omega)
        refine M.run 1 (pc' := 14) (lv' := [some (vr kb), some (vi ((i : Nat) : Int))]) (st' := [vr kb]) rfl ?_
        refine M.get fl_X10_28 rfl (hP.2.1) (kf := 3) (v := vr ((aA kb) 0)) rfl ?_
        refine M.get fl_X10_192 rfl hP.1.1.1 (kf := 5) (v := vr ((aA kb) 1)) rfl ?_
        refine M.run 2 (pc' := 22) (lv' := [some (vr kb), some (vi ((i : Nat) : Int))]) (st' := [vi 2, vi ((i : Nat) : Int), vr ((aA kb) 1)]) rfl ?_
        refine M.callV (qB_get l G (kb + 850) (aA kb) (tz (kb + 1)) tl fx X cl 1 D i 2 (by omega) (by decide)) cv_X10_202 cd_X4_get rfl (st := []) rfl (iS_b hP.1.1).1 (by decide) (by decide) rfl (Nat.zero_le _) (Nat.zero_le _) hP.1 (fun r1 w2 q3 => ?_)
        rw [q3.1, q3.2]
        rw [show D.1 (28 + 3 * 2 + i) = D.1 (34 + i) from rfl]
        rw [show D.1 (34 + i) = (((D.1 (34 + i)).toNat : Nat) : Int) from (Int.toNat_of_nonneg hb1.1).symm]
        refine M.run 1 (pc' := 26) (lv' := [some (vr kb), some (vi ((i : Nat) : Int))]) (st' := [vr kb, vi (((D.1 (34 + i)).toNat : Nat) : Int)]) rfl ?_
        refine M.get fl_X10_28 rfl (hP.2.1) (kf := 3) (v := vr ((aA kb) 0)) rfl ?_
        refine M.get fl_X10_192 rfl hP.1.1.1 (kf := 5) (v := vr ((aA kb) 1)) rfl ?_
        refine M.run 2 (pc' := 34) (lv' := [some (vr kb), some (vi ((i : Nat) : Int))]) (st' := [vi 3, vi ((i : Nat) : Int), vr ((aA kb) 1), vi (((D.1 (34 + i)).toNat : Nat) : Int)]) rfl ?_
        refine M.callV (qB_get l G (kb + 850) (aA kb) (tz (kb + 1)) tl fx X cl 1 D i 3 (by omega) (by decide)) cv_X10_202 cd_X4_get rfl (st := [vi (((D.1 (34 + i)).toNat : Nat) : Int)]) rfl (iS_b hP.1.1).1 (by decide) (by decide) rfl (Nat.zero_le _) (Nat.zero_le _) hP.1 (fun r5 w6 q7 => ?_)
        rw [q7.1, q7.2]
        rw [show D.1 (28 + 3 * 3 + i) = D.1 (37 + i) from rfl]
        rw [show D.1 (37 + i) = (((D.1 (37 + i)).toNat : Nat) : Int) from (Int.toNat_of_nonneg hb2.1).symm]
        refine M.run 1 (pc' := 38) (lv' := [some (vr kb), some (vi ((i : Nat) : Int))]) (st' := [vi (-1), vi (((D.1 (37 + i)).toNat : Nat) : Int), vi (((D.1 (34 + i)).toNat : Nat) : Int)]) rfl ?_
        refine M.ixm1 (b1 := (D.1 (37 + i)).toNat) rfl ?_
        refine M.iandn (b1 := (D.1 (34 + i)).toNat) (b2 := (D.1 (37 + i)).toNat) rfl (by omega) (by omega) ?_
        refine M.if_eq (tgt := 45) rfl (qI (by omega)) (by decide) (fun h40 => ?_) (fun h40 => ?_)
        · skip
          refine M.run 2 (pc' := 2) (lv' := [some (vr kb), some (vi (((i : Nat) : Int) + 1))]) (st' := []) rfl ?_
          exact ih2 (i + 1) (by show (mAll _ i && _) = true; rw [hA]; exact decide_eq_true (Int.ofNat.inj h40)) (by omega) (by omega)
        · skip
          refine M.run 1 (pc' := 44) (lv' := [some (vr kb), some (vi ((i : Nat) : Int))]) (st' := [vi 0]) rfl ?_
          exact M.zret rfl (Or.inl rfl) (Nat.zero_le _) (Nat.zero_le _) ⟨reI (by rw [mAll_f (k := i) (decide_eq_false (fun z => h40 (congrArg (fun x : Nat => (x : Int)) z))) _ (by omega)]; rfl), rfl⟩
  exact Lp2 _ 0 rfl (Nat.zero_le _) (Nat.lt_succ_self _)
set_option maxHeartbeats 4000000 in
set_option maxRecDepth 100000 in
theorem kX10_live (l : Launch) (G : GT) (kb : Nat) (tl fx fx2 : Nat → Int) (X : Nat → Int → Option Gn) (cl : Nat → Int) (D : Dy) (L : List Dy) (tl2 : Nat → Int) (D2 : Dy) (L2 : List Dy) (tp : Nat → Int) (nt fs fp : Int) (hT : Tok tl) (n : Int) (hd : Dok n D) (hn : n ≤ 1500000000) (hJ : Jok D) (hi : Inv D) (h9 : D.1 18 ≤ 9999) (hZ : Tz tl) (hru : -1 ≤ tl 2 ∧ tl 2 < tl 1)  : Ctr l G yX10_live cX10_live 4 ((Option.some Jvm.ClassFile.FieldType.int)) 2 0 0 [vr kb] (fun w => isEn G (kb + 850) (aA kb) (tz (kb + 1)) tl fx X cl 1 D w ∧ isKr kb fx fx2 L tl2 D2 L2 tp nt fs fp w) (fun w r w' => r = some (vi (((mOrs (fun c => decide (D.1 (28 + c) = 1 ∧ D.1 (31 + c) = 0)) (tl 0).toNat : Nat) : Int))) ∧ w' = w) := by
  refine Ctr.of (t := tX10_live) (lv0 := [some (vr kb), none, none, none]) (by decide +kernel) tX10_live_ok rfl rfl (fun w g hP M => ?_)
  have hk0 : 0 ≤ tl 0 ∧ tl 0 ≤ 3 := hT.1 0 (by decide)
  refine M.run 4 (pc' := 4) (lv' := [some (vr kb), some (vi 0), some (vi 0), none]) (st' := []) rfl ?_
  have Lp4 : ∀ (N : Nat) (v : Nat) (i : Nat), (v = mOrs (fun c => decide (D.1 (28 + c) = 1 ∧ D.1 (31 + c) = 0)) i) → (i ≤ (tl 0).toNat) → (tl 0).toNat - i < N → g 0 0 w 4 [some (vr kb), some (vi ((v : Nat) : Int)), some (vi ((i : Nat) : Int)), none] [] := by
    intro N
    induction N with
    | zero => intro v i _ _ hN; exact absurd hN (Nat.not_lt_zero _)
    | succ N ih4 =>
      intro v i hv hi2 hN
      refine M.run 2 (pc' := 6) (lv' := [some (vr kb), some (vi ((v : Nat) : Int)), some (vi ((i : Nat) : Int)), none]) (st' := [vr kb, vi ((i : Nat) : Int)]) rfl ?_
      refine M.get fl_X10_23 rfl (hP.2.1) (kf := 2) (v := vr ((tz (kb + 1)) 0)) rfl ?_
      refine M.get fl_X10_255 rfl hP.1.2.1.1 (kf := 0) (v := vi (tl 0)) rfl ?_
      refine M.icmp_ge (tgt := 69) rfl (qI (by omega)) (qI (by omega)) (by decide) (fun h12 => ?_) (fun h12 => ?_)
      · skip
        refine M.run 1 (pc' := 70) (lv' := [some (vr kb), some (vi ((v : Nat) : Int)), some (vi ((i : Nat) : Int)), none]) (st' := [vi ((v : Nat) : Int)]) rfl ?_
        exact M.iret rfl (Nat.zero_le _) (Nat.zero_le _) ⟨reI (by rw [hv, show (tl 0).toNat = i by omega]), rfl⟩
      · skip
        have hb1 := Dok_how hd (x := i) (by omega)
        have hb2 := hJ.2.2.1 i (by omega)
        have hvl := mOrs_lt (fun c => decide (D.1 (28 + c) = 1 ∧ D.1 (31 + c) = 0)) i (by omega)
        have hp2 : 2 ^ i ≤ 4 := Nat.pow_le_pow_right (by decide) (show i ≤ 2 by omega)
        have hsl : 1 <<< i ≤ 4 := by rw [Nat.one_shiftLeft]; exact hp2
        refine M.run 1 (pc' := 16) (lv' := [some (vr kb), some (vi ((v : Nat) : Int)), some (vi ((i : Nat) : Int)), none]) (st' := [vr kb]) rfl ?_
        refine M.get fl_X10_28 rfl (hP.2.1) (kf := 3) (v := vr ((aA kb) 0)) rfl ?_
        refine M.get fl_X10_192 rfl hP.1.1.1 (kf := 5) (v := vr ((aA kb) 1)) rfl ?_
        refine M.run 2 (pc' := 24) (lv' := [some (vr kb), some (vi ((v : Nat) : Int)), some (vi ((i : Nat) : Int)), none]) (st' := [vi 0, vi ((i : Nat) : Int), vr ((aA kb) 1)]) rfl ?_
        refine M.callV (qB_get l G (kb + 850) (aA kb) (tz (kb + 1)) tl fx X cl 1 D i 0 (by omega) (by decide)) cv_X10_202 cd_X4_get rfl (st := []) rfl (iS_b hP.1.1).1 (by decide) (by decide) rfl (Nat.zero_le _) (Nat.zero_le _) hP.1 (fun r1 w2 q3 => ?_)
        rw [q3.1, q3.2]
        rw [show D.1 (28 + 3 * 0 + i) = D.1 (28 + i) from rfl]
        refine M.run 1 (pc' := 28) (lv' := [some (vr kb), some (vi ((v : Nat) : Int)), some (vi ((i : Nat) : Int)), none]) (st' := [vi 1, vi (D.1 (28 + i))]) rfl ?_
        refine M.icmp_ne (tgt := 51) rfl (qI (by omega)) (qI (by decide)) (by decide) (fun h28 => ?_) (fun h28 => ?_)
        · skip
          refine M.run 3 (pc' := 54) (lv' := [some (vr kb), some (vi ((v : Nat) : Int)), some (vi ((i : Nat) : Int)), some (vi 0)]) (st' := [vi 0]) rfl ?_
          refine M.if_eq (tgt := 63) rfl (qI (by decide)) (by decide) (fun _ => ?_) (fun q => absurd q (by decide))
          refine M.run 2 (pc' := 4) (lv' := [some (vr kb), some (vi ((v : Nat) : Int)), some (vi (((i : Nat) : Int) + 1)), some (vi 0)]) (st' := []) rfl ?_
          refine M.fgt [false, false, false, true] ?_
          exact ih4 v (i + 1) (by rw [hv, mOrs_n (k := i) (fun q => by have q2 := of_decide_eq_true q; omega), Nat.or_zero]) (by omega) (by omega)
        · skip
          refine M.run 1 (pc' := 32) (lv' := [some (vr kb), some (vi ((v : Nat) : Int)), some (vi ((i : Nat) : Int)), none]) (st' := [vr kb]) rfl ?_
          refine M.get fl_X10_28 rfl (hP.2.1) (kf := 3) (v := vr ((aA kb) 0)) rfl ?_
          refine M.get fl_X10_192 rfl hP.1.1.1 (kf := 5) (v := vr ((aA kb) 1)) rfl ?_
          refine M.run 2 (pc' := 40) (lv' := [some (vr kb), some (vi ((v : Nat) : Int)), some (vi ((i : Nat) : Int)), none]) (st' := [vi 1, vi ((i : Nat) : Int), vr ((aA kb) 1)]) rfl ?_
          refine M.callV (qB_get l G (kb + 850) (aA kb) (tz (kb + 1)) tl fx X cl 1 D i 1 (by omega) (by decide)) cv_X10_202 cd_X4_get rfl (st := []) rfl (iS_b hP.1.1).1 (by decide) (by decide) rfl (Nat.zero_le _) (Nat.zero_le _) hP.1 (fun r5 w6 q7 => ?_)
          rw [q7.1, q7.2]
          rw [show D.1 (28 + 3 * 1 + i) = D.1 (31 + i) from rfl]
          refine M.run 1 (pc' := 44) (lv' := [some (vr kb), some (vi ((v : Nat) : Int)), some (vi ((i : Nat) : Int)), none]) (st' := [vi 3, vi (D.1 (31 + i))]) rfl ?_
          refine M.icmp_eq (tgt := 51) rfl (qI (by omega)) (qI (by decide)) (by decide) (fun h44 => ?_) (fun h44 => ?_)
          · skip
            refine M.run 3 (pc' := 54) (lv' := [some (vr kb), some (vi ((v : Nat) : Int)), some (vi ((i : Nat) : Int)), some (vi 0)]) (st' := [vi 0]) rfl ?_
            refine M.if_eq (tgt := 63) rfl (qI (by decide)) (by decide) (fun _ => ?_) (fun q => absurd q (by decide))
            refine M.run 2 (pc' := 4) (lv' := [some (vr kb), some (vi ((v : Nat) : Int)), some (vi (((i : Nat) : Int) + 1)), some (vi 0)]) (st' := []) rfl ?_
            refine M.fgt [false, false, false, true] ?_
            exact ih4 v (i + 1) (by rw [hv, mOrs_n (k := i) (fun q => by have q2 := of_decide_eq_true q; omega), Nat.or_zero]) (by omega) (by omega)
          · skip
            refine M.run 4 (pc' := 54) (lv' := [some (vr kb), some (vi ((v : Nat) : Int)), some (vi ((i : Nat) : Int)), some (vi 1)]) (st' := [vi 1]) rfl ?_
            refine M.if_eq (tgt := 63) rfl (qI (by decide)) (by decide) (fun q => absurd q (by decide)) (fun _ => ?_)
            refine M.run 3 (pc' := 60) (lv' := [some (vr kb), some (vi ((v : Nat) : Int)), some (vi ((i : Nat) : Int)), some (vi 1)]) (st' := [vi ((i : Nat) : Int), vi 1, vi ((v : Nat) : Int)]) rfl ?_
            refine M.ishl (b1 := 1) (b2 := i) rfl (by omega) ?_
            refine M.ior (b1 := v) (b2 := 1 <<< i) rfl (by omega) (by omega) ?_
            refine M.run 3 (pc' := 4) (lv' := [some (vr kb), some (vi ((v ||| (1 <<< i) : Nat) : Int)), some (vi (((i : Nat) : Int) + 1)), some (vi 1)]) (st' := []) rfl ?_
            refine M.fgt [false, false, false, true] ?_
            exact ih4 (v ||| (1 <<< i)) (i + 1) (by rw [hv]; exact (mOrs_y (decide_eq_true ⟨h28, by omega⟩)).symm) (by omega) (by omega)
  exact Lp4 _ 0 0 rfl (Nat.zero_le _) (Nat.lt_succ_self _)
set_option maxHeartbeats 4000000 in
set_option maxRecDepth 100000 in
theorem kX10_soonest (l : Launch) (G : GT) (kb : Nat) (tl fx fx2 : Nat → Int) (X : Nat → Int → Option Gn) (cl : Nat → Int) (D : Dy) (L : List Dy) (tl2 : Nat → Int) (D2 : Dy) (L2 : List Dy) (tp : Nat → Int) (nt fs fp : Int) (hT : Tok tl) (n : Int) (hd : Dok n D) (hn : n ≤ 1500000000) (hJ : Jok D) (hi : Inv D) (h9 : D.1 18 ≤ 9999) (hZ : Tz tl) (hru : -1 ≤ tl 2 ∧ tl 2 < tl 1)  : Ctr l G yX10_soonest cX10_soonest 4 ((Option.some Jvm.ClassFile.FieldType.int)) 2 0 0 [vr kb] (fun w => isEn G (kb + 850) (aA kb) (tz (kb + 1)) tl fx X cl 1 D w ∧ isKr kb fx fx2 L tl2 D2 L2 tp nt fs fp w) (fun w r w' => r = some (vi (mSoon D.2.2.1 D.2.2.1.length)) ∧ w' = w) := by
  refine Ctr.of (t := tX10_soonest) (lv0 := [some (vr kb), none, none, none]) (by decide +kernel) tX10_soonest_ok rfl rfl (fun w g hP M => ?_)
  have hlf := Dok_f hd
  refine M.run 4 (pc' := 4) (lv' := [some (vr kb), some (vi (-1)), some (vi 0), none]) (st' := []) rfl ?_
  have Lp4 : ∀ (N : Nat) (v : Int) (i : Nat), (v = mSoon D.2.2.1 i) → (i ≤ D.2.2.1.length) → D.2.2.1.length - i < N → g 0 0 w 4 [some (vr kb), some (vi v), some (vi ((i : Nat) : Int)), none] [] := by
    intro N
    induction N with
    | zero => intro v i _ _ hN; exact absurd hN (Nat.not_lt_zero _)
    | succ N ih4 =>
      intro v i hv hi2 hN
      refine M.run 2 (pc' := 6) (lv' := [some (vr kb), some (vi v), some (vi ((i : Nat) : Int)), none]) (st' := [vr kb, vi ((i : Nat) : Int)]) rfl ?_
      refine M.get fl_X10_28 rfl (hP.2.1) (kf := 3) (v := vr ((aA kb) 0)) rfl ?_
      refine M.get fl_X10_234 rfl hP.1.1.1 (kf := 8) (v := vr ((aA kb) 7)) rfl ?_
      refine M.get fl_X10_240 rfl (iS_f hP.1.1).1 (kf := 2) (v := vi ((D.2.2.1.length : Nat) : Int)) rfl ?_
      refine M.icmp_ge (tgt := 50) rfl (qI (by omega)) (qI (by omega)) (by decide) (fun h15 => ?_) (fun h15 => ?_)
      · skip
        refine M.run 1 (pc' := 51) (lv' := [some (vr kb), some (vi v), some (vi ((i : Nat) : Int)), none]) (st' := [vi v]) rfl ?_
        exact M.iret rfl (Nat.zero_le _) (Nat.zero_le _) ⟨reI (by rw [hv, show D.2.2.1.length = i by omega]), rfl⟩
      · skip
        have hsb := mSoon_b (n := n) hd.2.2.1.2 i hi2
        have hr7 := (Dok_fr hd (i := i) (by omega)).2.2.2.2.2.2.2.2.1
        refine M.run 1 (pc' := 19) (lv' := [some (vr kb), some (vi v), some (vi ((i : Nat) : Int)), none]) (st' := [vr kb]) rfl ?_
        refine M.get fl_X10_28 rfl (hP.2.1) (kf := 3) (v := vr ((aA kb) 0)) rfl ?_
        refine M.get fl_X10_234 rfl hP.1.1.1 (kf := 8) (v := vr ((aA kb) 7)) rfl ?_
        refine M.run 2 (pc' := 28) (lv' := [some (vr kb), some (vi v), some (vi ((i : Nat) : Int)), none]) (st' := [vi 7, vi ((i : Nat) : Int), vr ((aA kb) 7)]) rfl ?_
        refine M.callV (qF_get l G (kb + 850) (aA kb) (tz (kb + 1)) tl fx X cl 1 D i 7 (by omega) (by decide)) cv_X10_202 cd_X4_get rfl (st := []) rfl (iS_f hP.1.1).1 (by decide) (by decide) rfl (Nat.zero_le _) (Nat.zero_le _) hP.1 (fun r1 w2 q3 => ?_)
        rw [q3.1, q3.2]
        refine M.run 3 (pc' := 34) (lv' := [some (vr kb), some (vi v), some (vi ((i : Nat) : Int)), some (vi (gR D.2.2.1 i 7))]) (st' := [vi (-1), vi v]) rfl ?_
        refine M.icmp_eq (tgt := 42) rfl (qI (by omega)) (qI (by decide)) (by decide) (fun h34 => ?_) (fun h34 => ?_)
        · skip
          refine M.run 4 (pc' := 4) (lv' := [some (vr kb), some (vi (gR D.2.2.1 i 7)), some (vi (((i : Nat) : Int) + 1)), some (vi (gR D.2.2.1 i 7))]) (st' := []) rfl ?_
          refine M.fgt [false, false, false, true] ?_
          exact ih4 (gR D.2.2.1 i 7) (i + 1) (by rw [hv] at *; exact (if_pos (Or.inl h34)).symm) (by omega) (by omega)
        · skip
          refine M.run 2 (pc' := 39) (lv' := [some (vr kb), some (vi v), some (vi ((i : Nat) : Int)), some (vi (gR D.2.2.1 i 7))]) (st' := [vi v, vi (gR D.2.2.1 i 7)]) rfl ?_
          refine M.icmp_ge (tgt := 44) rfl (qI (by omega)) (qI (by omega)) (by decide) (fun h39 => ?_) (fun h39 => ?_)
          · skip
            refine M.run 2 (pc' := 4) (lv' := [some (vr kb), some (vi v), some (vi (((i : Nat) : Int) + 1)), some (vi (gR D.2.2.1 i 7))]) (st' := []) rfl ?_
            refine M.fgt [false, false, false, true] ?_
            exact ih4 v (i + 1) (by rw [hv] at *; exact (if_neg (fun q => q.elim h34 (fun z => by omega))).symm) (by omega) (by omega)
          · skip
            refine M.run 4 (pc' := 4) (lv' := [some (vr kb), some (vi (gR D.2.2.1 i 7)), some (vi (((i : Nat) : Int) + 1)), some (vi (gR D.2.2.1 i 7))]) (st' := []) rfl ?_
            refine M.fgt [false, false, false, true] ?_
            exact ih4 (gR D.2.2.1 i 7) (i + 1) (by rw [hv] at *; exact (if_pos (Or.inr (by omega))).symm) (by omega) (by omega)
  exact Lp4 _ (-1) 0 rfl (Nat.zero_le _) (Nat.lt_succ_self _)
set_option maxHeartbeats 4000000 in
set_option maxRecDepth 100000 in
theorem kX10_busiest (l : Launch) (G : GT) (kb : Nat) (tl fx fx2 : Nat → Int) (X : Nat → Int → Option Gn) (cl : Nat → Int) (D : Dy) (L : List Dy) (tl2 : Nat → Int) (D2 : Dy) (L2 : List Dy) (tp : Nat → Int) (nt fs fp : Int) (hT : Tok tl) (n : Int) (hd : Dok n D) (hn : n ≤ 1500000000) (hJ : Jok D) (hi : Inv D) (h9 : D.1 18 ≤ 9999) (hZ : Tz tl) (hru : -1 ≤ tl 2 ∧ tl 2 < tl 1)  : Ctr l G yX10_busiest cX10_busiest 5 ((Option.some Jvm.ClassFile.FieldType.int)) 3 0 0 [vr kb] (fun w => isEn G (kb + 850) (aA kb) (tz (kb + 1)) tl fx X cl 1 D w ∧ isKr kb fx fx2 L tl2 D2 L2 tp nt fs fp w) (fun w r w' => r = some (vi (mBus D (tl 0).toNat)) ∧ w' = w) := by
  refine Ctr.of (t := tX10_busiest) (lv0 := [some (vr kb), none, none, none, none]) (by decide +kernel) tX10_busiest_ok rfl rfl (fun w g hP M => ?_)
  have hk0 : 0 ≤ tl 0 ∧ tl 0 ≤ 3 := hT.1 0 (by decide)
  refine M.run 6 (pc' := 6) (lv' := [some (vr kb), some (vi (-1)), some (vi 0), some (vi 0), none]) (st' := []) rfl ?_
  have Lp6 : ∀ (N : Nat) (v : Int) (m : Nat) (i : Nat), (v = mBus D i) → (m = (if mBus D i = -1 then 0 else mMsg D (mBus D i).toNat)) → (m ≤ 88) → (i ≤ (tl 0).toNat) → (tl 0).toNat - i < N → g 0 0 w 6 [some (vr kb), some (vi v), some (vi ((m : Nat) : Int)), some (vi ((i : Nat) : Int)), none] [] := by
    intro N
    induction N with
    | zero => intro v m i _ _ _ _ hN; exact absurd hN (Nat.not_lt_zero _)
    | succ N ih6 =>
      intro v m i hv hm hml hi2 hN
      refine M.run 2 (pc' := 8) (lv' := [some (vr kb), some (vi v), some (vi ((m : Nat) : Int)), some (vi ((i : Nat) : Int)), none]) (st' := [vr kb, vi ((i : Nat) : Int)]) rfl ?_
      refine M.get fl_X10_23 rfl (hP.2.1) (kf := 2) (v := vr ((tz (kb + 1)) 0)) rfl ?_
      refine M.get fl_X10_255 rfl hP.1.2.1.1 (kf := 0) (v := vi (tl 0)) rfl ?_
      refine M.icmp_ge (tgt := 76) rfl (qI (by omega)) (qI (by omega)) (by decide) (fun h14 => ?_) (fun h14 => ?_)
      · skip
        refine M.run 1 (pc' := 77) (lv' := [some (vr kb), some (vi v), some (vi ((m : Nat) : Int)), some (vi ((i : Nat) : Int)), none]) (st' := [vi v]) rfl ?_
        exact M.iret rfl (Nat.zero_le _) (Nat.zero_le _) ⟨reI (by rw [hv, show (tl 0).toNat = i by omega]), rfl⟩
      · skip
        have hmb := mMsg_b hd i
        refine M.run 1 (pc' := 18) (lv' := [some (vr kb), some (vi v), some (vi ((m : Nat) : Int)), some (vi ((i : Nat) : Int)), none]) (st' := [vr kb]) rfl ?_
        refine M.get fl_X10_28 rfl (hP.2.1) (kf := 3) (v := vr ((aA kb) 0)) rfl ?_
        refine M.run 1 (pc' := 22) (lv' := [some (vr kb), some (vi v), some (vi ((m : Nat) : Int)), some (vi ((i : Nat) : Int)), none]) (st' := [vi 0, vr ((aA kb) 0)]) rfl ?_
        refine M.callV (qS_line l G (kb + 850) (aA kb) (tz (kb + 1)) tl fx X cl 1 D 0 (by omega)) cv_X10_227 cd_X6_line rfl (st := []) rfl hP.1.1.1 (by decide) (by decide) rfl (Nat.zero_le _) (Nat.zero_le _) hP.1 (fun r1 w2 q3 => ?_)
        rw [q3.1, q3.2]
        refine M.run 2 (pc' := 27) (lv' := [some (vr kb), some (vi v), some (vi ((m : Nat) : Int)), some (vi ((i : Nat) : Int)), none]) (st' := [vi ((i : Nat) : Int), vi 1, vr ((aA kb) (3 + 2 * 0))]) rfl ?_
        refine M.callV (kX4_countOf7 l G ((aA kb) (3 + 2 * 0)) ((aA kb) (4 + 2 * 0)) 24 (by decide) (D.2.1 0) 1 (by decide) ((i : Nat) : Int) (by omega) (fun j hj => by obtain ⟨q0, q1, _⟩ := Dok_lr hd (s := 0) (by decide) hj; omega)) cv_X10_264 cd_X4_countOf rfl (st := []) rfl (iS_l hP.1.1 (s := 0) (by omega)).1 (by decide) (by decide) rfl (Nat.zero_le _) (Nat.zero_le _) (iS_l hP.1.1 (s := 0) (by omega)) (fun r5 w6 q7 => ?_)
        rw [q7.1, q7.2]
        generalize hg_c0 : mCnt (fun i0 => decide (gR (D.2.1 0) i0 1 = ((i : Nat) : Int))) (D.2.1 0).length = c0
        refine M.run 1 (pc' := 31) (lv' := [some (vr kb), some (vi v), some (vi ((m : Nat) : Int)), some (vi ((i : Nat) : Int)), none]) (st' := [vr kb, vi ((c0 : Nat) : Int)]) rfl ?_
        refine M.get fl_X10_28 rfl (hP.2.1) (kf := 3) (v := vr ((aA kb) 0)) rfl ?_
        refine M.run 1 (pc' := 35) (lv' := [some (vr kb), some (vi v), some (vi ((m : Nat) : Int)), some (vi ((i : Nat) : Int)), none]) (st' := [vi 1, vr ((aA kb) 0), vi ((c0 : Nat) : Int)]) rfl ?_
        refine M.callV (qS_line l G (kb + 850) (aA kb) (tz (kb + 1)) tl fx X cl 1 D 1 (by omega)) cv_X10_227 cd_X6_line rfl (st := [vi ((c0 : Nat) : Int)]) rfl hP.1.1.1 (by decide) (by decide) rfl (Nat.zero_le _) (Nat.zero_le _) hP.1 (fun r9 w10 q11 => ?_)
        rw [q11.1, q11.2]
        refine M.run 2 (pc' := 40) (lv' := [some (vr kb), some (vi v), some (vi ((m : Nat) : Int)), some (vi ((i : Nat) : Int)), none]) (st' := [vi ((i : Nat) : Int), vi 1, vr ((aA kb) (3 + 2 * 1)), vi ((c0 : Nat) : Int)]) rfl ?_
        refine M.callV (kX4_countOf7 l G ((aA kb) (3 + 2 * 1)) ((aA kb) (4 + 2 * 1)) 24 (by decide) (D.2.1 1) 1 (by decide) ((i : Nat) : Int) (by omega) (fun j hj => by obtain ⟨q0, q1, _⟩ := Dok_lr hd (s := 1) (by decide) hj; omega)) cv_X10_264 cd_X4_countOf rfl (st := [vi ((c0 : Nat) : Int)]) rfl (iS_l hP.1.1 (s := 1) (by omega)).1 (by decide) (by decide) rfl (Nat.zero_le _) (Nat.zero_le _) (iS_l hP.1.1 (s := 1) (by omega)) (fun r13 w14 q15 => ?_)
        rw [q15.1, q15.2]
        generalize hg_c1 : mCnt (fun i0 => decide (gR (D.2.1 1) i0 1 = ((i : Nat) : Int))) (D.2.1 1).length = c1
        refine M.run 2 (pc' := 45) (lv' := [some (vr kb), some (vi v), some (vi ((m : Nat) : Int)), some (vi ((i : Nat) : Int)), none]) (st' := [vr kb, vi (((c0 : Nat) : Int) + ((c1 : Nat) : Int))]) rfl ?_
        refine M.get fl_X10_28 rfl (hP.2.1) (kf := 3) (v := vr ((aA kb) 0)) rfl ?_
        refine M.get fl_X10_234 rfl hP.1.1.1 (kf := 8) (v := vr ((aA kb) 7)) rfl ?_
        refine M.run 2 (pc' := 53) (lv' := [some (vr kb), some (vi v), some (vi ((m : Nat) : Int)), some (vi ((i : Nat) : Int)), none]) (st' := [vi ((i : Nat) : Int), vi 1, vr ((aA kb) 7), vi (((c0 : Nat) : Int) + ((c1 : Nat) : Int))]) rfl ?_
        refine M.callV (kX4_countOf9 l G ((aA kb) 7) ((aA kb) 8) 40 (by decide) D.2.2.1 1 (by decide) ((i : Nat) : Int) (by omega) (fun j hj => by obtain ⟨q0, q1, _⟩ := Dok_fr hd hj; omega)) cv_X10_264 cd_X4_countOf rfl (st := [vi (((c0 : Nat) : Int) + ((c1 : Nat) : Int))]) rfl (iS_f hP.1.1).1 (by decide) (by decide) rfl (Nat.zero_le _) (Nat.zero_le _) (iS_f hP.1.1) (fun r17 w18 q19 => ?_)
        rw [q19.1, q19.2]
        generalize hg_c2 : mCnt (fun i0 => decide (gR D.2.2.1 i0 1 = ((i : Nat) : Int))) D.2.2.1.length = c2
        refine M.run 2 (pc' := 59) (lv' := [some (vr kb), some (vi v), some (vi ((m : Nat) : Int)), some (vi ((i : Nat) : Int)), some (vi ((((c0 : Nat) : Int) + ((c1 : Nat) : Int)) + ((c2 : Nat) : Int)))]) (st' := []) rfl ?_
        have hms : c0 + c1 + c2 = mMsg D i := by rw [← hg_c0, ← hg_c1, ← hg_c2]; rfl
        rw [show (((c0 : Nat) : Int) + ((c1 : Nat) : Int)) + ((c2 : Nat) : Int) = ((mMsg D i : Nat) : Int) from by rw [← hms]; rfl]
        refine M.run 2 (pc' := 62) (lv' := [some (vr kb), some (vi v), some (vi ((m : Nat) : Int)), some (vi ((i : Nat) : Int)), some (vi ((mMsg D i : Nat) : Int))]) (st' := [vi ((m : Nat) : Int), vi ((mMsg D i : Nat) : Int)]) rfl ?_
        refine M.icmp_le (tgt := 70) rfl (qI (by omega)) (qI (by omega)) (by decide) (fun h62 => ?_) (fun h62 => ?_)
        · skip
          refine M.run 2 (pc' := 6) (lv' := [some (vr kb), some (vi v), some (vi ((m : Nat) : Int)), some (vi (((i : Nat) : Int) + 1)), some (vi ((mMsg D i : Nat) : Int))]) (st' := []) rfl ?_
          refine M.fgt [false, false, false, false, true] ?_
          exact ih6 v m (i + 1) (by rw [hv]; exact (if_neg (by rw [← hm]; omega)).symm) (by rw [show mBus D (i + 1) = mBus D i from if_neg (by rw [← hm]; omega)]; exact hm) hml (by omega) (by omega)
        · skip
          refine M.run 6 (pc' := 6) (lv' := [some (vr kb), some (vi ((i : Nat) : Int)), some (vi ((mMsg D i : Nat) : Int)), some (vi (((i : Nat) : Int) + 1)), some (vi ((mMsg D i : Nat) : Int))]) (st' := []) rfl ?_
          refine M.fgt [false, false, false, false, true] ?_
          exact ih6 ((i : Nat) : Int) (mMsg D i) (i + 1) (by show _ = mBus D (i + 1); exact (if_pos (by rw [← hm]; omega)).symm) (by rw [show mBus D (i + 1) = ((i : Nat) : Int) from if_pos (by rw [← hm]; omega), if_neg (by omega)]; rfl) hmb (by omega) (by omega)
  exact Lp6 _ (-1) 0 0 rfl rfl (Nat.zero_le _) (Nat.zero_le _) (Nat.lt_succ_self _)
set_option maxHeartbeats 4000000 in
set_option maxRecDepth 100000 in
theorem nX10_reading (l : Launch) (G : GT) (hb : Nat) (A T : Nat → Nat) (tl fx : Nat → Int) (X : Nat → Int → Option Gn) (cl : Nat → Int) (dr : Int) (D : Dy) (hT : Tok tl) (n : Int) (hd : Dok n D) (kb k0 k1 k3 k4 k5 k6 k7 : Nat) (j8 j9 j10 : Int) (x : Int) (y : Int) (hx : -2147483648 ≤ x ∧ x ≤ 2147483647) (hy : -2147483648 ≤ y ∧ y ≤ 2147483647)  : Ctr l G yX10_reading cX10_reading 5 ((Option.some Jvm.ClassFile.FieldType.int)) 3 0 0 [vr kb, vr (A 0), vi x, vi y] (fun w => lk w kb = some (Ob 9 [vr k0, vr k1, vr (T 0), vr k3, vr k4, vr k5, vr k6, vr k7, vi j8, vi j9, vi j10]) ∧ isEn G hb A T tl fx X cl dr D w) (fun w r w' => r = some (vi (if 0 ≤ x ∧ x < tl 0 then mTold tl D x.toNat y else -2)) ∧ w' = w) := by
  refine Ctr.of (t := tX10_reading) (lv0 := [some (vr kb), some (vr (A 0)), some (vi x), some (vi y), none]) (by decide +kernel) tX10_reading_ok rfl rfl (fun w g hP M => ?_)
  have hk0 : 0 ≤ tl 0 ∧ tl 0 ≤ 3 := hT.1 0 (by decide)
  refine M.run 1 (pc' := 1) (lv' := [some (vr kb), some (vr (A 0)), some (vi x), some (vi y), none]) (st' := [vr kb]) rfl ?_
  refine M.get fl_X10_23 rfl hP.1 (kf := 2) (v := vr (T 0)) rfl ?_
  refine M.run 1 (pc' := 5) (lv' := [some (vr kb), some (vr (A 0)), some (vi x), some (vi y), none]) (st' := [vi x, vr (T 0)]) rfl ?_
  refine M.callV (qO_has l G hb A T tl fx X cl dr D hT x ⟨by omega, by omega⟩) cv_X10_189 cd_X9_hasBlock rfl (st := []) rfl hP.2.2.1.1 (by decide) (by decide) rfl (Nat.zero_le _) (Nat.zero_le _) hP.2 (fun r1 w2 q3 => ?_)
  rw [q3.1, q3.2]
  refine M.if_ne (tgt := 14) rfl (inI_zb _) (by decide) (fun h8 => ?_) (fun h8 => ?_)
  · skip
    replace h8 := zb_td h8
    obtain ⟨c, rfl⟩ := Int.eq_ofNat_of_zero_le (show (0 : Int) ≤ x from (by omega))
    refine M.run 1 (pc' := 15) (lv' := [some (vr kb), some (vr (A 0)), some (vi ((c : Nat) : Int)), some (vi y), none]) (st' := [vr (A 0)]) rfl ?_
    refine M.get fl_X10_192 rfl hP.2.1.1 (kf := 5) (v := vr (A 1)) rfl ?_
    refine M.run 2 (pc' := 21) (lv' := [some (vr kb), some (vr (A 0)), some (vi ((c : Nat) : Int)), some (vi y), some (vr (A 1))]) (st' := [vi y]) rfl ?_
    by_cases hs21_0 : y = 0
    · refine M.tswIn (tgt := 72) (off := 51) rfl (qI (by omega)) (by omega) (by omega) (by rw [hs21_0]; rfl) (by decide) ?_
      refine M.run 1 (pc' := 73) (lv' := [some (vr kb), some (vr (A 0)), some (vi ((c : Nat) : Int)), some (vi y), some (vr (A 1))]) (st' := [vr kb]) rfl ?_
      refine M.get fl_X10_23 rfl hP.1 (kf := 2) (v := vr (T 0)) rfl ?_
      refine M.run 1 (pc' := 77) (lv' := [some (vr kb), some (vr (A 0)), some (vi ((c : Nat) : Int)), some (vi y), some (vr (A 1))]) (st' := [vi ((c : Nat) : Int), vr (T 0)]) rfl ?_
      refine M.callV (qO_len l G hb A T tl fx X cl dr D hT c (by omega)) cv_X10_196 cd_X9_lengthOf rfl (st := []) rfl hP.2.2.1.1 (by decide) (by decide) rfl (Nat.zero_le _) (Nat.zero_le _) hP.2 (fun r5 w6 q7 => ?_)
      rw [q7.1, q7.2]
      exact M.iret rfl (Nat.zero_le _) (Nat.zero_le _) ⟨reI (by rw [if_pos h8, hs21_0]; rfl), rfl⟩
    by_cases hs21_1 : y = 1
    · refine M.tswIn (tgt := 81) (off := 60) rfl (qI (by omega)) (by omega) (by omega) (by rw [hs21_1]; rfl) (by decide) ?_
      refine M.run 1 (pc' := 82) (lv' := [some (vr kb), some (vr (A 0)), some (vi ((c : Nat) : Int)), some (vi y), some (vr (A 1))]) (st' := [vr kb]) rfl ?_
      refine M.get fl_X10_23 rfl hP.1 (kf := 2) (v := vr (T 0)) rfl ?_
      refine M.run 1 (pc' := 86) (lv' := [some (vr kb), some (vr (A 0)), some (vi ((c : Nat) : Int)), some (vi y), some (vr (A 1))]) (st' := [vi ((c : Nat) : Int), vr (T 0)]) rfl ?_
      refine M.callV (qO_red l G hb A T tl fx X cl dr D hT c (by omega)) cv_X10_199 cd_X9_redOf rfl (st := []) rfl hP.2.2.1.1 (by decide) (by decide) rfl (Nat.zero_le _) (Nat.zero_le _) hP.2 (fun r9 w10 q11 => ?_)
      rw [q11.1, q11.2]
      exact M.iret rfl (Nat.zero_le _) (Nat.zero_le _) ⟨reI (by rw [if_pos h8, hs21_1]; rfl), rfl⟩
    by_cases hs21_2 : y = 2
    · refine M.tswIn (tgt := 90) (off := 69) rfl (qI (by omega)) (by omega) (by omega) (by rw [hs21_2]; rfl) (by decide) ?_
      refine M.run 3 (pc' := 94) (lv' := [some (vr kb), some (vr (A 0)), some (vi ((c : Nat) : Int)), some (vi y), some (vr (A 1))]) (st' := [vi 0, vi ((c : Nat) : Int), vr (A 1)]) rfl ?_
      refine M.callV (qB_get l G hb A T tl fx X cl dr D c 0 (by omega) (by decide)) cv_X10_202 cd_X4_get rfl (st := []) rfl (iS_b hP.2.1).1 (by decide) (by decide) rfl (Nat.zero_le _) (Nat.zero_le _) hP.2 (fun r13 w14 q15 => ?_)
      rw [q15.1, q15.2]
      rw [show D.1 (28 + 3 * 0 + c) = D.1 (28 + c) from rfl]
      exact M.iret rfl (Nat.zero_le _) (Nat.zero_le _) ⟨reI (by rw [if_pos h8, hs21_2]; rfl), rfl⟩
    by_cases hs21_3 : y = 3
    · refine M.tswIn (tgt := 98) (off := 77) rfl (qI (by omega)) (by omega) (by omega) (by rw [hs21_3]; rfl) (by decide) ?_
      refine M.run 3 (pc' := 102) (lv' := [some (vr kb), some (vr (A 0)), some (vi ((c : Nat) : Int)), some (vi y), some (vr (A 1))]) (st' := [vi 1, vi ((c : Nat) : Int), vr (A 1)]) rfl ?_
      refine M.callV (qB_get l G hb A T tl fx X cl dr D c 1 (by omega) (by decide)) cv_X10_202 cd_X4_get rfl (st := []) rfl (iS_b hP.2.1).1 (by decide) (by decide) rfl (Nat.zero_le _) (Nat.zero_le _) hP.2 (fun r17 w18 q19 => ?_)
      rw [q19.1, q19.2]
      rw [show D.1 (28 + 3 * 1 + c) = D.1 (31 + c) from rfl]
      exact M.iret rfl (Nat.zero_le _) (Nat.zero_le _) ⟨reI (by rw [if_pos h8, hs21_3]; rfl), rfl⟩
    by_cases hs21_4 : y = 4
    · refine M.tswIn (tgt := 106) (off := 85) rfl (qI (by omega)) (by omega) (by omega) (by rw [hs21_4]; rfl) (by decide) ?_
      refine M.run 3 (pc' := 110) (lv' := [some (vr kb), some (vr (A 0)), some (vi ((c : Nat) : Int)), some (vi y), some (vr (A 1))]) (st' := [vi 2, vi ((c : Nat) : Int), vr (A 1)]) rfl ?_
      refine M.callV (qB_get l G hb A T tl fx X cl dr D c 2 (by omega) (by decide)) cv_X10_202 cd_X4_get rfl (st := []) rfl (iS_b hP.2.1).1 (by decide) (by decide) rfl (Nat.zero_le _) (Nat.zero_le _) hP.2 (fun r21 w22 q23 => ?_)
      rw [q23.1, q23.2]
      rw [show D.1 (28 + 3 * 2 + c) = D.1 (34 + c) from rfl]
      have hbt := Dok_clm hd (x := c) (by omega)
      obtain ⟨z, hz⟩ := Int.eq_ofNat_of_zero_le hbt.1
      have hzb : z < 1073741824 := by omega
      have hzz : z = (z % 256 + 256 * (z / 256 % 256) + 65536 * (z / 65536 % 256) + 16777216 * (z / 16777216)) := by omega
      rw [show D.1 (34 + c) = (((z % 256 + 256 * (z / 256 % 256) + 65536 * (z / 65536 % 256) + 16777216 * (z / 16777216)) : Nat) : Int) from by rw [hz]; exact congrArg Int.ofNat hzz]
      refine M.callS (kJ6_bc l G (z % 256) (z / 256 % 256) (z / 65536 % 256) (z / 16777216) (by omega) (by omega) (by omega) (by omega)) cs_X10_207 cd_J6_bitCount_0f7a4 rfl (st := []) rfl (by decide) (by decide) rfl (Nat.zero_le _) (Nat.zero_le _) trivial (fun r25 w26 q27 => ?_)
      rw [q27.1, q27.2, ← hzz]
      generalize hbz : bPc z = bz
      exact M.iret rfl (Nat.zero_le _) (Nat.zero_le _) ⟨reI (by rw [if_pos h8, hs21_4]; show _ = ((bPc (D.1 (34 + c)).toNat : Nat) : Int); rw [hz, Int.toNat_natCast, hbz]), rfl⟩
    by_cases hs21_5 : y = 5
    · refine M.tswIn (tgt := 117) (off := 96) rfl (qI (by omega)) (by omega) (by omega) (by rw [hs21_5]; rfl) (by decide) ?_
      refine M.run 3 (pc' := 121) (lv' := [some (vr kb), some (vr (A 0)), some (vi ((c : Nat) : Int)), some (vi y), some (vr (A 1))]) (st' := [vi 3, vi ((c : Nat) : Int), vr (A 1)]) rfl ?_
      refine M.callV (qB_get l G hb A T tl fx X cl dr D c 3 (by omega) (by decide)) cv_X10_202 cd_X4_get rfl (st := []) rfl (iS_b hP.2.1).1 (by decide) (by decide) rfl (Nat.zero_le _) (Nat.zero_le _) hP.2 (fun r29 w30 q31 => ?_)
      rw [q31.1, q31.2]
      rw [show D.1 (28 + 3 * 3 + c) = D.1 (37 + c) from rfl]
      have hbt := Dok_com hd (x := c) (by omega)
      obtain ⟨z, hz⟩ := Int.eq_ofNat_of_zero_le hbt.1
      have hzb : z < 1073741824 := by omega
      have hzz : z = (z % 256 + 256 * (z / 256 % 256) + 65536 * (z / 65536 % 256) + 16777216 * (z / 16777216)) := by omega
      rw [show D.1 (37 + c) = (((z % 256 + 256 * (z / 256 % 256) + 65536 * (z / 65536 % 256) + 16777216 * (z / 16777216)) : Nat) : Int) from by rw [hz]; exact congrArg Int.ofNat hzz]
      refine M.callS (kJ6_bc l G (z % 256) (z / 256 % 256) (z / 65536 % 256) (z / 16777216) (by omega) (by omega) (by omega) (by omega)) cs_X10_207 cd_J6_bitCount_0f7a4 rfl (st := []) rfl (by decide) (by decide) rfl (Nat.zero_le _) (Nat.zero_le _) trivial (fun r33 w34 q35 => ?_)
      rw [q35.1, q35.2, ← hzz]
      generalize hbz : bPc z = bz
      exact M.iret rfl (Nat.zero_le _) (Nat.zero_le _) ⟨reI (by rw [if_pos h8, hs21_5]; show _ = ((bPc (D.1 (37 + c)).toNat : Nat) : Int); rw [hz, Int.toNat_natCast, hbz]), rfl⟩
    by_cases hs21_6 : y = 6
    · refine M.tswIn (tgt := 128) (off := 107) rfl (qI (by omega)) (by omega) (by omega) (by rw [hs21_6]; rfl) (by decide) ?_
      refine M.run 3 (pc' := 132) (lv' := [some (vr kb), some (vr (A 0)), some (vi ((c : Nat) : Int)), some (vi y), some (vr (A 1))]) (st' := [vi 4, vi ((c : Nat) : Int), vr (A 1)]) rfl ?_
      refine M.callV (qB_get l G hb A T tl fx X cl dr D c 4 (by omega) (by decide)) cv_X10_202 cd_X4_get rfl (st := []) rfl (iS_b hP.2.1).1 (by decide) (by decide) rfl (Nat.zero_le _) (Nat.zero_le _) hP.2 (fun r37 w38 q39 => ?_)
      rw [q39.1, q39.2]
      rw [show D.1 (28 + 3 * 4 + c) = D.1 (40 + c) from rfl]
      exact M.iret rfl (Nat.zero_le _) (Nat.zero_le _) ⟨reI (by rw [if_pos h8, hs21_6]; rfl), rfl⟩
    by_cases hs21_7 : y = 7
    · refine M.tswIn (tgt := 136) (off := 115) rfl (qI (by omega)) (by omega) (by omega) (by rw [hs21_7]; rfl) (by decide) ?_
      refine M.run 3 (pc' := 140) (lv' := [some (vr kb), some (vr (A 0)), some (vi ((c : Nat) : Int)), some (vi y), some (vr (A 1))]) (st' := [vi 5, vi ((c : Nat) : Int), vr (A 1)]) rfl ?_
      refine M.callV (qB_get l G hb A T tl fx X cl dr D c 5 (by omega) (by decide)) cv_X10_202 cd_X4_get rfl (st := []) rfl (iS_b hP.2.1).1 (by decide) (by decide) rfl (Nat.zero_le _) (Nat.zero_le _) hP.2 (fun r41 w42 q43 => ?_)
      rw [q43.1, q43.2]
      rw [show D.1 (28 + 3 * 5 + c) = D.1 (43 + c) from rfl]
      exact M.iret rfl (Nat.zero_le _) (Nat.zero_le _) ⟨reI (by rw [if_pos h8, hs21_7]; rfl), rfl⟩
    by_cases hs21_8 : y = 8
    · refine M.tswIn (tgt := 144) (off := 123) rfl (qI (by omega)) (by omega) (by omega) (by rw [hs21_8]; rfl) (by decide) ?_
      refine M.run 3 (pc' := 149) (lv' := [some (vr kb), some (vr (A 0)), some (vi ((c : Nat) : Int)), some (vi y), some (vr (A 1))]) (st' := [vi 6, vi ((c : Nat) : Int), vr (A 1)]) rfl ?_
      refine M.callV (qB_get l G hb A T tl fx X cl dr D c 6 (by omega) (by decide)) cv_X10_202 cd_X4_get rfl (st := []) rfl (iS_b hP.2.1).1 (by decide) (by decide) rfl (Nat.zero_le _) (Nat.zero_le _) hP.2 (fun r45 w46 q47 => ?_)
      rw [q47.1, q47.2]
      rw [show D.1 (28 + 3 * 6 + c) = D.1 (46 + c) from rfl]
      exact M.iret rfl (Nat.zero_le _) (Nat.zero_le _) ⟨reI (by rw [if_pos h8, hs21_8]; rfl), rfl⟩
    refine M.tswOut (tgt := 153) rfl (qI (by omega)) (by omega) (by decide) ?_
    refine M.run 1 (pc' := 155) (lv' := [some (vr kb), some (vr (A 0)), some (vi ((c : Nat) : Int)), some (vi y), some (vr (A 1))]) (st' := [vi (-2)]) rfl ?_
    exact M.iret rfl (Nat.zero_le _) (Nat.zero_le _) ⟨reI (by rw [if_pos h8]; show -2 = mTold tl D c y; unfold mTold; rw [if_neg hs21_0, if_neg hs21_1, if_neg hs21_2, if_neg hs21_3, if_neg hs21_4, if_neg hs21_5, if_neg hs21_6, if_neg hs21_7, if_neg hs21_8]), rfl⟩
  · skip
    replace h8 := zb_fd h8
    refine M.run 1 (pc' := 13) (lv' := [some (vr kb), some (vr (A 0)), some (vi x), some (vi y), none]) (st' := [vi (-2)]) rfl ?_
    exact M.iret rfl (Nat.zero_le _) (Nat.zero_le _) ⟨reI (if_neg h8).symm, rfl⟩
set_option maxHeartbeats 4000000 in
set_option maxRecDepth 100000 in
theorem kX10_of (l : Launch) (G : GT) (kb : Nat) (tl fx fx2 : Nat → Int) (X : Nat → Int → Option Gn) (cl : Nat → Int) (D : Dy) (L : List Dy) (tl2 : Nat → Int) (D2 : Dy) (L2 : List Dy) (tp : Nat → Int) (nt fs fp : Int) (hT : Tok tl) (n : Int) (hd : Dok n D) (hn : n ≤ 1500000000) (hJ : Jok D) (hi : Inv D) (h9 : D.1 18 ≤ 9999) (hZ : Tz tl) (hru : -1 ≤ tl 2 ∧ tl 2 < tl 1) (x : Int) (y : Int) (hx : -2147483648 ≤ x ∧ x ≤ 2147483647) (hy : -2147483648 ≤ y ∧ y ≤ 2147483647)  : Ctr l G yX10_of cX10_of 3 ((Option.some Jvm.ClassFile.FieldType.int)) 4 0 0 [vr kb, vi x, vi y] (fun w => isEn G (kb + 850) (aA kb) (tz (kb + 1)) tl fx X cl 1 D w ∧ isKr kb fx fx2 L tl2 D2 L2 tp nt fs fp w) (fun w r w' => r = some (vi (if 0 ≤ x ∧ x < tl 0 then mTold tl D x.toNat y else -2)) ∧ w' = w) := by
  refine Ctr.of (t := tX10_of) (lv0 := [some (vr kb), some (vi x), some (vi y)]) (by decide +kernel) tX10_of_ok rfl rfl (fun w g hP M => ?_)
  refine M.run 2 (pc' := 2) (lv' := [some (vr kb), some (vi x), some (vi y)]) (st' := [vr kb, vr kb]) rfl ?_
  refine M.get fl_X10_28 rfl (hP.2.1) (kf := 3) (v := vr ((aA kb) 0)) rfl ?_
  refine M.run 2 (pc' := 7) (lv' := [some (vr kb), some (vi x), some (vi y)]) (st' := [vi y, vi x, vr ((aA kb) 0), vr kb]) rfl ?_
  refine M.callV (nX10_reading l G (kb + 850) (aA kb) (tz (kb + 1)) tl fx X cl 1 D hT n hd kb (kb + 1) (kb + 412) (aA kb 0) (aA kb 13) (aB kb 13) (kb + 842) (kb + 849) nt fs fp x y (by omega) (by omega)) cv_X10_185 cd_X10_reading rfl (st := []) rfl (hP.2.1) (by decide) (by decide) rfl (Nat.zero_le _) (Nat.zero_le _) ⟨hP.2.1, hP.1⟩ (fun r1 w2 q3 => ?_)
  rw [q3.1, q3.2]
  exact M.iret rfl (Nat.zero_le _) (Nat.zero_le _) ⟨rfl, rfl⟩
