theorem en_tr0 {G : GT} {kb : Nat} {fx fx2 tl tl2 tp : Nat → Int} {X : Nat → Int → Option Gn} {cl : Nat → Int} {D D2 : Dy} {L L2 : List Dy} {nt fs fp : Int} {w w' : Wo} (h : isEn G (kb + 850) (aA kb) (tz (kb + 1)) tl fx X cl 1 D w) (hk : isKr kb fx fx2 L tl2 D2 L2 tp nt fs fp w) (hf : FrE (aB kb) w w') : isEn G (kb + 850) (aA kb) (tz (kb + 1)) tl fx X cl 1 D w' ∧ lk w' kb = some (Ob 9 [vr (kb + 1), vr (kb + 412), vr (tz (kb + 1) 0), vr (aA kb 0), vr (aA kb 13), vr (aB kb 13), vr (kb + 842), vr (kb + 849), vi nt, vi fs, vi fp]) ∧ True := by
  have q : ∀ a : Nat, (a < kb + 826 ∨ kb + 842 ≤ a) → lk w' a = lk w a := fun a ha => hf a (fun i hi => by have := aB_r (kb := kb) i hi; omega)
  obtain ⟨g1, g2, g3, g4, g5, g6, g7, g8⟩ := h
  exact ⟨⟨isS2_e g1 (fun i hi => q _ (by have := aA_r (kb := kb) i (by omega); omega)), isTo_fr g2 (fun j hj => q _ (by unfold tz; omega)), (q _ (by have := aA_r (kb := kb) 13 (by decide); omega)).trans g3, lw_fr g4 (q _ (by have := aA_r (kb := kb) 14 (by decide); omega)) (q _ (by have := aA_r (kb := kb) 15 (by decide); omega)), isTs_fr g5 (fun b hb2 => q _ (by omega)), g6, g7, g8⟩, (q _ (by omega)).trans hk.1, trivial⟩

set_option maxHeartbeats 4000000 in
set_option maxRecDepth 100000 in
theorem kX10_foretold (l : Launch) (G : GT) (kb : Nat) (tl fx fx2 : Nat → Int) (X : Nat → Int → Option Gn) (cl : Nat → Int) (D : Dy) (L : List Dy) (tl2 : Nat → Int) (D2 : Dy) (L2 : List Dy) (tp : Nat → Int) (nt fs fp : Int) (hT : Tok tl) (n : Int) (hs : Sok n tl D) (hn : n ≤ 1400000000) (hZ : Tz tl) (hru : -1 ≤ tl 2 ∧ tl 2 < tl 1) (x : Int) (y : Int) (z : Int) (hx : -2147483648 ≤ x ∧ x ≤ 2147483647) (hy : -2147483648 ≤ y ∧ y ≤ 2147483647) (hz : -2147483648 ≤ z ∧ z ≤ 2147483647)  : Ctr l G yX10_foretold cX10_foretold 6 ((Option.some Jvm.ClassFile.FieldType.int)) 8 0 0 [vr kb, vi x, vi y, vi z] (fun w => isEn G (kb + 850) (aA kb) (tz (kb + 1)) tl fx X cl 1 D w ∧ isKr kb fx fx2 L tl2 D2 L2 tp nt fs fp w) (fun w r w' => r = some (vi (if (1 ≤ x ∧ x ≤ 60) ∧ (0 ≤ y ∧ y < tl 0) then mTold tl (mFore X tl 0 x.toNat D) y.toNat z else -2)) ∧ isEn G (kb + 850) (aA kb) (tz (kb + 1)) tl fx X cl 1 D w' ∧ isKr kb fx fx2 L tl2 D2 L2 tp nt fs fp w') := by
  refine Ctr.of (t := tX10_foretold) (lv0 := [some (vr kb), some (vi x), some (vi y), some (vi z), none, none]) (by decide +kernel) tX10_foretold_ok rfl rfl (fun w g hP M => ?_)
  have hd := hs.1
  have hi := hs.2.1
  have h9 := hs.2.2.1
  have hJ := hs.2.2.2.1
  have hz0 := hs.2.2.2.2
  have hdr : (1 : Int) = 0 ∨ (1 : Int) = 1 := Or.inr rfl
  have hk0 : 0 ≤ tl 0 ∧ tl 0 ≤ 3 := hT.1 0 (by decide)
  have hck := Dok_clk hd
  obtain ⟨Dx, hX⟩ := tr_en hP.1 hP.2
  refine M.run 2 (pc' := 2) (lv' := [some (vr kb), some (vi x), some (vi y), some (vi z), none, none]) (st' := [vi 1, vi x]) rfl ?_
  refine M.icmp_lt (tgt := 22) rfl (qI (by omega)) (qI (by decide)) (by decide) (fun h2 => ?_) (fun h2 => ?_)
  · skip
    refine M.run 1 (pc' := 24) (lv' := [some (vr kb), some (vi x), some (vi y), some (vi z), none, none]) (st' := [vi (-2)]) rfl ?_
    exact M.iret rfl (Nat.zero_le _) (Nat.zero_le _) ⟨reI (if_neg (by omega)).symm, hP.1, hP.2⟩
  · skip
    refine M.run 2 (pc' := 8) (lv' := [some (vr kb), some (vi x), some (vi y), some (vi z), none, none]) (st' := [vi 60, vi x]) rfl ?_
    refine M.icmp_gt (tgt := 22) rfl (qI (by omega)) (qI (by decide)) (by decide) (fun h8 => ?_) (fun h8 => ?_)
    · skip
      refine M.run 1 (pc' := 24) (lv' := [some (vr kb), some (vi x), some (vi y), some (vi z), none, none]) (st' := [vi (-2)]) rfl ?_
      exact M.iret rfl (Nat.zero_le _) (Nat.zero_le _) ⟨reI (if_neg (by omega)).symm, hP.1, hP.2⟩
    · skip
      refine M.run 1 (pc' := 12) (lv' := [some (vr kb), some (vi x), some (vi y), some (vi z), none, none]) (st' := [vr kb]) rfl ?_
      refine M.get fl_X10_23 rfl (hP.2.1) (kf := 2) (v := vr ((tz (kb + 1)) 0)) rfl ?_
      refine M.run 1 (pc' := 16) (lv' := [some (vr kb), some (vi x), some (vi y), some (vi z), none, none]) (st' := [vi y, vr ((tz (kb + 1)) 0)]) rfl ?_
      refine M.callV (kX9_hasBlock l G (tz (kb + 1)) tl fx hT y (by omega)) cv_X10_189 cd_X9_hasBlock rfl (st := []) rfl hP.1.2.1.1 (by decide) (by decide) rfl (Nat.zero_le _) (Nat.zero_le _) hP.1.2.1 (fun r1 w2 q3 => ?_)
      rw [q3.1, q3.2]
      refine M.if_ne (tgt := 25) rfl (inI_zb _) (by decide) (fun h19 => ?_) (fun h19 => ?_)
      · skip
        replace h19 := zb_td h19
        obtain ⟨m, rfl⟩ := Int.eq_ofNat_of_zero_le (show (0 : Int) ≤ x from (by omega))
        refine M.run 1 (pc' := 26) (lv' := [some (vr kb), some (vi ((m : Nat) : Int)), some (vi y), some (vi z), none, none]) (st' := [vr kb]) rfl ?_
        refine M.get fl_X10_41 rfl (hP.2.1) (kf := 5) (v := vr ((aB kb) 13)) rfl ?_
        refine M.get fl_X10_276 rfl hX.2.2.1 (kf := 1) (v := vr ((aB kb) 0)) rfl ?_
        refine M.run 1 (pc' := 33) (lv' := [some (vr kb), some (vi ((m : Nat) : Int)), some (vi y), some (vi z), none, none]) (st' := [vr kb, vr ((aB kb) 0)]) rfl ?_
        refine M.get fl_X10_28 rfl (hP.2.1) (kf := 3) (v := vr (aA kb 0)) rfl ?_
        refine M.callV (kX6_copyFrom l G (aB kb) (aA kb) Dx.1 D.1 (LR Dx) (LR D) (fun i j hi hj e => by have h1 := aB_r (kb := kb) i (by omega); have h2 := aA_r (kb := kb) j (by omega); omega)) cv_X10_277 cd_X6_copyFrom rfl (st := []) rfl hX.1.1 (by decide) (by decide) rfl (Nat.zero_le _) (Nat.zero_le _) ⟨hX.1, hP.1.1⟩ (fun r6 w7 q8 => ?_)
        obtain ⟨q8r, q8s, q8f⟩ := q8
        rw [q8r]
        obtain ⟨hE5, hF5⟩ := isEn_S hX ⟨q8s, q8f⟩
        have hm10 := en_tr hP.1 hP.2 hE5 hF5
        refine M.run 3 (pc' := 44) (lv' := [some (vr kb), some (vi ((m : Nat) : Int)), some (vi y), some (vi z), none, none]) (st' := [vr kb, vi 9999, vi ((m : Nat) : Int)]) rfl ?_
        refine M.get fl_X10_28 rfl (hm10.2.1) (kf := 3) (v := vr (aA kb 0)) rfl ?_
        refine M.get fl_X10_134 rfl hm10.1.1.1 (kf := 0) (v := vi (D.1 18)) rfl ?_
        refine M.run 1 (pc' := 51) (lv' := [some (vr kb), some (vi ((m : Nat) : Int)), some (vi y), some (vi z), none, none]) (st' := [vi (9999 - (D.1 18)), vi ((m : Nat) : Int)]) rfl ?_
        refine M.mmin cs_X10_168 rfl (qI (by omega)) (qI (by omega)) (by decide) (Nat.zero_le _) (Nat.zero_le _) rfl ?_
        refine M.run 1 (pc' := 56) (lv' := [some (vr kb), some (vi ((m : Nat) : Int)), some (vi y), some (vi z), some (vi (min ((m : Nat) : Int) (9999 - (D.1 18)))), none]) (st' := []) rfl ?_
        rw [show min ((m : Nat) : Int) (9999 - (D.1 18)) = (((min ((m : Nat) : Int) (9999 - (D.1 18))).toNat : Nat) : Int) from (Int.toNat_of_nonneg (by omega)).symm]
        obtain ⟨cn, hcn⟩ : ∃ cn : Nat, cn = (min ((m : Nat) : Int) (9999 - (D.1 18))).toNat := ⟨_, rfl⟩
        rw [← hcn]
        refine M.run 2 (pc' := 59) (lv' := [some (vr kb), some (vi ((m : Nat) : Int)), some (vi y), some (vi z), some (vi ((cn : Nat) : Int)), some (vi 0)]) (st' := []) rfl ?_
        have Lp59 : ∀ (N : Nat) (i : Nat) (Dc : Dy) (wa : Wo), (isEn G (kb + 850) (aB kb) (tz (kb + 1)) tl fx X cl 1 Dc wa) → (FrE (aB kb) w wa) → (Sok (n + 110 * ((i : Nat) : Int)) tl Dc) → (i ≤ cn) → (Dc.1 18 = D.1 18 + ((i : Nat) : Int)) → (mFore X tl 0 m D = mFore X tl 0 (m - i) Dc) → cn - i < N → g 0 0 wa 59 [some (vr kb), some (vi ((m : Nat) : Int)), some (vi y), some (vi z), some (vi ((cn : Nat) : Int)), some (vi ((i : Nat) : Int))] [] := by
          intro N
          induction N with
          | zero => intro i Dc wa _ _ _ _ _ _ hN; exact absurd hN (Nat.not_lt_zero _)
          | succ N ih59 =>
            intro i Dc wa hEa hFa hsa hi2 h18a hI hN
            refine M.run 2 (pc' := 63) (lv' := [some (vr kb), some (vi ((m : Nat) : Int)), some (vi y), some (vi z), some (vi ((cn : Nat) : Int)), some (vi ((i : Nat) : Int))]) (st' := [vi ((cn : Nat) : Int), vi ((i : Nat) : Int)]) rfl ?_
            refine M.icmp_ge (tgt := 79) rfl (qI (by omega)) (qI (by omega)) (by decide) (fun h63 => ?_) (fun h63 => ?_)
            · skip
              have hmz := en_tr hP.1 hP.2 hEa hFa
              have hFi : mFore X tl 0 (((m : Nat) : Int)).toNat D = Dc := by
                show mFore X tl 0 m D = Dc
                rw [hI]
                by_cases q : m - i = 0
                · rw [q]; rfl
                · exact mFore_stay (by omega)
              refine M.run 2 (pc' := 81) (lv' := [some (vr kb), some (vi ((m : Nat) : Int)), some (vi y), some (vi z), some (vi ((cn : Nat) : Int)), some (vi ((i : Nat) : Int))]) (st' := [vr kb, vr kb]) rfl ?_
              refine M.get fl_X10_41 rfl (hmz.2.1) (kf := 5) (v := vr ((aB kb) 13)) rfl ?_
              refine M.get fl_X10_276 rfl hEa.2.2.1 (kf := 1) (v := vr ((aB kb) 0)) rfl ?_
              refine M.run 2 (pc' := 89) (lv' := [some (vr kb), some (vi ((m : Nat) : Int)), some (vi y), some (vi z), some (vi ((cn : Nat) : Int)), some (vi ((i : Nat) : Int))]) (st' := [vi z, vi y, vr ((aB kb) 0), vr kb]) rfl ?_
              refine M.callV (nX10_reading l G (kb + 850) (aB kb) (tz (kb + 1)) tl fx X cl 1 Dc hT _ hsa.1 kb (kb + 1) (kb + 412) (aA kb 0) (aA kb 13) (aB kb 13) (kb + 842) (kb + 849) nt fs fp y z (by omega) (by omega)) cv_X10_185 cd_X10_reading rfl (st := []) rfl (hmz.2.1) (by decide) (by decide) rfl (Nat.zero_le _) (Nat.zero_le _) ⟨hmz.2.1, hEa⟩ (fun r11 w12 q13 => ?_)
              rw [q13.1, q13.2]
              exact M.iret rfl (Nat.zero_le _) (Nat.zero_le _) ⟨reI ((if_pos h19).trans (by rw [if_pos ⟨by omega, h19⟩, hFi])), hmz.1, hmz.2⟩
            · skip
              have hmz := en_tr hP.1 hP.2 hEa hFa
              refine M.run 1 (pc' := 67) (lv' := [some (vr kb), some (vi ((m : Nat) : Int)), some (vi y), some (vi z), some (vi ((cn : Nat) : Int)), some (vi ((i : Nat) : Int))]) (st' := [vr kb]) rfl ?_
              refine M.get fl_X10_41 rfl (hmz.2.1) (kf := 5) (v := vr ((aB kb) 13)) rfl ?_
              refine M.callV (nX1_tick l G (kb + 850) (aB kb) (tz (kb + 1)) tl fx X cl 1 Dc hT (n + 110 * ((i : Nat) : Int)) hsa.1 (by omega) hsa.2.2.2.1 hZ hru hdr (Inv_38 hsa.2.1) (by have q1 := hsa.2.1.1; omega)) cv_X10_143 cd_X1_tick rfl (st := []) rfl hEa.2.2.1 (by decide) (by decide) rfl (Nat.zero_le _) (Nat.zero_le _) hEa (fun r16 w17 q18 => ?_)
              obtain ⟨q18r, q18e, q18f⟩ := q18
              rw [q18r]
              have hE15 : isEn G (kb + 850) (aB kb) (tz (kb + 1)) tl fx X cl 1 (mTick X tl 0 Dc) w17 := q18e
              have hF15 : FrE (aB kb) w w17 := FrE.tr hFa q18f
              have hm20 := en_tr hP.1 hP.2 hE15 hF15
              refine M.run 2 (pc' := 59) (lv' := [some (vr kb), some (vi ((m : Nat) : Int)), some (vi y), some (vi z), some (vi ((cn : Nat) : Int)), some (vi (((i : Nat) : Int) + 1))]) (st' := []) rfl ?_
              exact ih59 (i + 1) (mTick X tl 0 Dc) w17 hE15 hF15 (Sok_mono (by omega) (Sok_tick hT hsa (by omega))) (by omega) (by rw [mTick_18]; omega) (by rw [hI, mFore_s (by omega), if_pos (by omega), show m - i - 1 = m - (i + 1) by omega]) (by omega)
        exact Lp59 _ 0 D w7 hE5 hF5 (Sok_mono (by omega) hs) (Nat.zero_le _) (by omega) rfl (Nat.lt_succ_self _)
      · skip
        replace h19 := zb_fd h19
        refine M.run 1 (pc' := 24) (lv' := [some (vr kb), some (vi x), some (vi y), some (vi z), none, none]) (st' := [vi (-2)]) rfl ?_
        exact M.iret rfl (Nat.zero_le _) (Nat.zero_le _) ⟨reI (if_neg (by omega)).symm, hP.1, hP.2⟩
set_option maxHeartbeats 4000000 in
set_option maxRecDepth 100000 in
theorem kX10_till (l : Launch) (G : GT) (kb : Nat) (tl fx fx2 : Nat → Int) (X : Nat → Int → Option Gn) (cl : Nat → Int) (D : Dy) (L : List Dy) (tl2 : Nat → Int) (D2 : Dy) (L2 : List Dy) (tp : Nat → Int) (nt fs fp : Int) (hT : Tok tl) (n : Int) (hs : Sok n tl D) (hn : n ≤ 1400000000) (hZ : Tz tl) (hru : -1 ≤ tl 2 ∧ tl 2 < tl 1) (x : Int) (hx : -2147483648 ≤ x ∧ x ≤ 2147483647)  : Ctr l G yX10_till cX10_till 2 ((Option.some Jvm.ClassFile.FieldType.int)) 9 0 0 [vr kb, vi x] (fun w => isEn G (kb + 850) (aA kb) (tz (kb + 1)) tl fx X cl 1 D w ∧ isKr kb fx fx2 L tl2 D2 L2 tp nt fs fp w) (fun w r w' => r = some (vi (if (0 ≤ x ∧ x < tl 0) ∧ D.1 (28 + x.toNat) = 1 then mEnds X tl 0 x.toNat 400 0 D else -1)) ∧ isEn G (kb + 850) (aA kb) (tz (kb + 1)) tl fx X cl 1 D w' ∧ isKr kb fx fx2 L tl2 D2 L2 tp nt fs fp w') := by
  refine Ctr.of (t := tX10_till) (lv0 := [some (vr kb), some (vi x)]) (by decide +kernel) tX10_till_ok rfl rfl (fun w g hP M => ?_)
  have hd := hs.1
  have hi := hs.2.1
  have h9 := hs.2.2.1
  have hJ := hs.2.2.2.1
  have hz0 := hs.2.2.2.2
  have hdr : (1 : Int) = 0 ∨ (1 : Int) = 1 := Or.inr rfl
  have hk0 : 0 ≤ tl 0 ∧ tl 0 ≤ 3 := hT.1 0 (by decide)
  have hck := Dok_clk hd
  obtain ⟨Dx, hX⟩ := tr_en hP.1 hP.2
  refine M.run 1 (pc' := 1) (lv' := [some (vr kb), some (vi x)]) (st' := [vr kb]) rfl ?_
  refine M.get fl_X10_23 rfl (hP.2.1) (kf := 2) (v := vr ((tz (kb + 1)) 0)) rfl ?_
  refine M.run 1 (pc' := 5) (lv' := [some (vr kb), some (vi x)]) (st' := [vi x, vr ((tz (kb + 1)) 0)]) rfl ?_
  refine M.callV (kX9_hasBlock l G (tz (kb + 1)) tl fx hT x (by omega)) cv_X10_189 cd_X9_hasBlock rfl (st := []) rfl hP.1.2.1.1 (by decide) (by decide) rfl (Nat.zero_le _) (Nat.zero_le _) hP.1.2.1 (fun r1 w2 q3 => ?_)
  rw [q3.1, q3.2]
  refine M.if_eq (tgt := 27) rfl (inI_zb _) (by decide) (fun h8 => ?_) (fun h8 => ?_)
  · skip
    replace h8 := zb_fd h8
    refine M.run 1 (pc' := 28) (lv' := [some (vr kb), some (vi x)]) (st' := [vi (-1)]) rfl ?_
    exact M.iret rfl (Nat.zero_le _) (Nat.zero_le _) ⟨reI (if_neg (fun q => h8 q.1)).symm, hP.1, hP.2⟩
  · skip
    replace h8 := zb_td h8
    obtain ⟨c, rfl⟩ := Int.eq_ofNat_of_zero_le (show (0 : Int) ≤ x from (by omega))
    have hbt := Dok_how hd (x := c) (by omega)
    refine M.run 1 (pc' := 12) (lv' := [some (vr kb), some (vi ((c : Nat) : Int))]) (st' := [vr kb]) rfl ?_
    refine M.get fl_X10_28 rfl (hP.2.1) (kf := 3) (v := vr (aA kb 0)) rfl ?_
    refine M.get fl_X10_192 rfl hP.1.1.1 (kf := 5) (v := vr (aA kb 1)) rfl ?_
    refine M.run 2 (pc' := 20) (lv' := [some (vr kb), some (vi ((c : Nat) : Int))]) (st' := [vi 0, vi ((c : Nat) : Int), vr (aA kb 1)]) rfl ?_
    refine M.callV (qB_get l G (kb + 850) (aA kb) (tz (kb + 1)) tl fx X cl 1 D c 0 (by omega) (by decide)) cv_X10_202 cd_X4_get rfl (st := []) rfl (iS_b hP.1.1).1 (by decide) (by decide) rfl (Nat.zero_le _) (Nat.zero_le _) hP.1 (fun r5 w6 q7 => ?_)
    rw [q7.1, q7.2, show D.1 (28 + 3 * 0 + c) = D.1 (28 + c) from rfl]
    refine M.run 1 (pc' := 24) (lv' := [some (vr kb), some (vi ((c : Nat) : Int))]) (st' := [vi 1, vi (D.1 (28 + c))]) rfl ?_
    refine M.icmp_eq (tgt := 29) rfl (qI (by omega)) (qI (by decide)) (by decide) (fun h24 => ?_) (fun h24 => ?_)
    · skip
      refine M.run 1 (pc' := 30) (lv' := [some (vr kb), some (vi ((c : Nat) : Int))]) (st' := [vr kb]) rfl ?_
      refine M.get fl_X10_41 rfl (hP.2.1) (kf := 5) (v := vr ((aB kb) 13)) rfl ?_
      refine M.get fl_X10_276 rfl hX.2.2.1 (kf := 1) (v := vr ((aB kb) 0)) rfl ?_
      refine M.run 1 (pc' := 37) (lv' := [some (vr kb), some (vi ((c : Nat) : Int))]) (st' := [vr kb, vr ((aB kb) 0)]) rfl ?_
      refine M.get fl_X10_28 rfl (hP.2.1) (kf := 3) (v := vr (aA kb 0)) rfl ?_
      refine M.callV (kX6_copyFrom l G (aB kb) (aA kb) Dx.1 D.1 (LR Dx) (LR D) (fun i j hi hj e => by have h1 := aB_r (kb := kb) i (by omega); have h2 := aA_r (kb := kb) j (by omega); omega)) cv_X10_277 cd_X6_copyFrom rfl (st := []) rfl hX.1.1 (by decide) (by decide) rfl (Nat.zero_le _) (Nat.zero_le _) ⟨hX.1, hP.1.1⟩ (fun r10 w11 q12 => ?_)
      obtain ⟨q12r, q12s, q12f⟩ := q12
      rw [q12r]
      obtain ⟨hE9, hF9⟩ := isEn_S hX ⟨q12s, q12f⟩
      have hm14 := en_tr hP.1 hP.2 hE9 hF9
      refine M.run 1 (pc' := 44) (lv' := [some (vr kb), some (vi ((c : Nat) : Int))]) (st' := [vr kb]) rfl ?_
      refine M.get fl_X10_41 rfl (hm14.2.1) (kf := 5) (v := vr ((aB kb) 13)) rfl ?_
      refine M.run 1 (pc' := 48) (lv' := [some (vr kb), some (vi ((c : Nat) : Int))]) (st' := [vi ((c : Nat) : Int), vr ((aB kb) 13)]) rfl ?_
      refine M.callV (nX1_ticksTillEnd l G (kb + 850) (aB kb) (tz (kb + 1)) tl fx X cl 1 D hT n hd (by omega) hJ hZ hru hdr c (by omega) hi h9) cv_X10_281 cd_X1_ticksTillEnd rfl (st := []) rfl hE9.2.2.1 (by decide) (by decide) rfl (Nat.zero_le _) (Nat.zero_le _) hE9 (fun r16 w17 q18 => ?_)
      obtain ⟨q18r, ⟨D9, q18e⟩, q18f⟩ := q18
      rw [q18r]
      have hF15 : FrE (aB kb) w w17 := FrE.tr hF9 q18f
      have hE15 : isEn G (kb + 850) (aB kb) (tz (kb + 1)) tl fx X cl 1 D9 w17 := q18e
      have hm20 := en_tr hP.1 hP.2 hE15 hF15
      exact M.iret rfl (Nat.zero_le _) (Nat.zero_le _) ⟨reI (if_pos (show (0 ≤ ((c : Nat) : Int) ∧ ((c : Nat) : Int) < tl 0) ∧ D.1 (28 + c) = 1 from ⟨h8, h24⟩)).symm, hm20.1, hm20.2⟩
    · skip
      refine M.run 1 (pc' := 28) (lv' := [some (vr kb), some (vi ((c : Nat) : Int))]) (st' := [vi (-1)]) rfl ?_
      exact M.iret rfl (Nat.zero_le _) (Nat.zero_le _) ⟨reI (if_neg (fun q : (0 ≤ ((c : Nat) : Int) ∧ ((c : Nat) : Int) < tl 0) ∧ D.1 (28 + c) = 1 => h24 q.2)).symm, hP.1, hP.2⟩
set_option maxHeartbeats 4000000 in
set_option maxRecDepth 100000 in
theorem kX10_ideal (l : Launch) (G : GT) (kb : Nat) (tl fx fx2 : Nat → Int) (X : Nat → Int → Option Gn) (cl : Nat → Int) (D : Dy) (L : List Dy) (tl2 : Nat → Int) (D2 : Dy) (L2 : List Dy) (tp : Nat → Int) (nt fs fp : Int) (hT : Tok tl) (n : Int) (hs : Sok n tl D) (hn : n ≤ 1400000000) (hZ : Tz tl) (hru : -1 ≤ tl 2 ∧ tl 2 < tl 1) (x : Int) (hx : -2147483648 ≤ x ∧ x ≤ 2147483647)  : Ctr l G yX10_ideal cX10_ideal 3 ((Option.some Jvm.ClassFile.FieldType.int)) 9 0 0 [vr kb, vi x] (fun w => isEn G (kb + 850) (aA kb) (tz (kb + 1)) tl fx X cl 1 D w ∧ isKr kb fx fx2 L tl2 D2 L2 tp nt fs fp w) (fun w r w' => r = some (vi (if opC tl D x then mEnds X tl 1 x.toNat 400 0 (mOpen tl x.toNat D) else -1)) ∧ isEn G (kb + 850) (aA kb) (tz (kb + 1)) tl fx X cl 1 D w' ∧ isKr kb fx fx2 L tl2 D2 L2 tp nt fs fp w') := by
  refine Ctr.of (t := tX10_ideal) (lv0 := [some (vr kb), some (vi x), none]) (by decide +kernel) tX10_ideal_ok rfl rfl (fun w g hP M => ?_)
  have hd := hs.1
  have hi := hs.2.1
  have h9 := hs.2.2.1
  have hJ := hs.2.2.2.1
  have hz0 := hs.2.2.2.2
  have hdr : (1 : Int) = 0 ∨ (1 : Int) = 1 := Or.inr rfl
  have hk0 : 0 ≤ tl 0 ∧ tl 0 ≤ 3 := hT.1 0 (by decide)
  have hck := Dok_clk hd
  obtain ⟨Dx, hX⟩ := tr_en hP.1 hP.2
  refine M.run 2 (pc' := 2) (lv' := [some (vr kb), some (vi x), none]) (st' := [vi x, vr kb]) rfl ?_
  refine M.callV (kX10_isNew l G kb tl fx fx2 X cl D L tl2 D2 L2 tp nt fs fp hT n hd (by omega) hJ hi h9 hZ hru x (by omega)) cv_X10_115 cd_X10_isNew rfl (st := []) rfl (hP.2.1) (by decide) (by decide) rfl (Nat.zero_le _) (Nat.zero_le _) hP (fun r1 w2 q3 => ?_)
  rw [q3.1, q3.2]
  refine M.if_ne (tgt := 10) rfl (inI_zb _) (by decide) (fun h5 => ?_) (fun h5 => ?_)
  · skip
    replace h5 := zb_td h5
    obtain ⟨c, rfl⟩ := Int.eq_ofNat_of_zero_le (show (0 : Int) ≤ x from (by omega))
    have hbt : ((c : Nat) : Int) < tl 0 := h5.1.2
    have h0 : D.1 (28 + c) = 0 := h5.2
    refine M.run 1 (pc' := 11) (lv' := [some (vr kb), some (vi ((c : Nat) : Int)), none]) (st' := [vr kb]) rfl ?_
    refine M.get fl_X10_41 rfl (hP.2.1) (kf := 5) (v := vr ((aB kb) 13)) rfl ?_
    refine M.get fl_X10_276 rfl hX.2.2.1 (kf := 1) (v := vr ((aB kb) 0)) rfl ?_
    refine M.run 1 (pc' := 18) (lv' := [some (vr kb), some (vi ((c : Nat) : Int)), none]) (st' := [vr kb, vr ((aB kb) 0)]) rfl ?_
    refine M.get fl_X10_28 rfl (hP.2.1) (kf := 3) (v := vr (aA kb 0)) rfl ?_
    refine M.callV (kX6_copyFrom l G (aB kb) (aA kb) Dx.1 D.1 (LR Dx) (LR D) (fun i j hi hj e => by have h1 := aB_r (kb := kb) i (by omega); have h2 := aA_r (kb := kb) j (by omega); omega)) cv_X10_277 cd_X6_copyFrom rfl (st := []) rfl hX.1.1 (by decide) (by decide) rfl (Nat.zero_le _) (Nat.zero_le _) ⟨hX.1, hP.1.1⟩ (fun r6 w7 q8 => ?_)
    obtain ⟨q8r, q8s, q8f⟩ := q8
    rw [q8r]
    obtain ⟨hE5, hF5⟩ := isEn_S hX ⟨q8s, q8f⟩
    have hm10 := en_tr hP.1 hP.2 hE5 hF5
    refine M.run 1 (pc' := 25) (lv' := [some (vr kb), some (vi ((c : Nat) : Int)), none]) (st' := [vr kb]) rfl ?_
    refine M.get fl_X10_41 rfl (hm10.2.1) (kf := 5) (v := vr ((aB kb) 13)) rfl ?_
    refine M.run 1 (pc' := 29) (lv' := [some (vr kb), some (vi ((c : Nat) : Int)), none]) (st' := [vi 0, vr ((aB kb) 13)]) rfl ?_
    refine M.put fl_X10_284 rfl (hE5.2.2.1) rfl rfl (Nat.le_of_ble_eq_true rfl) ?_
    obtain ⟨hE11, hFf11⟩ := isEn_d (v := 0) hE5
    have hF11 : FrE (aB kb) w (up w7 ((aB kb) 13) (Ob 0 [vr ((tz (kb + 1)) 0), vr ((aB kb) 0), vr ((aB kb) 14), vi 0])) := FrE.tr hF5 hFf11
    change g 0 0 (up w7 ((aB kb) 13) (Ob 0 [vr ((tz (kb + 1)) 0), vr ((aB kb) 0), vr ((aB kb) 14), vi 0])) 32 [some (vr kb), some (vi ((c : Nat) : Int)), none] []
    generalize up w7 ((aB kb) 13) (Ob 0 [vr ((tz (kb + 1)) 0), vr ((aB kb) 0), vr ((aB kb) 14), vi 0]) = w11 at hE11 hF11 ⊢
    have hm12 := en_tr0 hP.1 hP.2 hF11
    refine M.run 1 (pc' := 33) (lv' := [some (vr kb), some (vi ((c : Nat) : Int)), none]) (st' := [vr kb]) rfl ?_
    refine M.get fl_X10_41 rfl (hm12.2.1) (kf := 5) (v := vr ((aB kb) 13)) rfl ?_
    refine M.run 1 (pc' := 37) (lv' := [some (vr kb), some (vi ((c : Nat) : Int)), none]) (st' := [vi ((c : Nat) : Int), vr ((aB kb) 13)]) rfl ?_
    refine M.callV (nX1_openBlock l G (kb + 850) (aB kb) (tz (kb + 1)) tl fx X cl 0 D hT n hd (by omega) hJ c (by omega) hbt h0) cv_X10_122 cd_X1_openBlock rfl (st := []) rfl hE11.2.2.1 (by decide) (by decide) rfl (Nat.zero_le _) (Nat.zero_le _) hE11 (fun r14 w15 q16 => ?_)
    obtain ⟨q16r, q16e, q16f⟩ := q16
    rw [q16r]
    have hE13 : isEn G (kb + 850) (aB kb) (tz (kb + 1)) tl fx X cl 0 (mOpen tl c D) w15 := q16e
    have hF13 : FrE (aB kb) w w15 := FrE.tr hF11 q16f
    have hm18 := en_tr0 hP.1 hP.2 hF13
    refine M.run 1 (pc' := 41) (lv' := [some (vr kb), some (vi ((c : Nat) : Int)), none]) (st' := []) rfl ?_
    have hd19 : Dok (n + 1) (mOpen tl c D) := Dok_open hT hd (by omega)
    have hJ19 : Jok (mOpen tl c D) := Jok_open hJ (by omega) (Dok_cnt hd (x := c) (by omega)).1
    refine M.run 1 (pc' := 42) (lv' := [some (vr kb), some (vi ((c : Nat) : Int)), none]) (st' := [vr kb]) rfl ?_
    refine M.get fl_X10_41 rfl (hm18.2.1) (kf := 5) (v := vr ((aB kb) 13)) rfl ?_
    refine M.run 1 (pc' := 46) (lv' := [some (vr kb), some (vi ((c : Nat) : Int)), none]) (st' := [vi ((c : Nat) : Int), vr ((aB kb) 13)]) rfl ?_
    refine M.callV (nX1_ticksTillEnd l G (kb + 850) (aB kb) (tz (kb + 1)) tl fx X cl 0 (mOpen tl c D) hT (n + 1) hd19 (by omega) hJ19 hZ hru (Or.inl rfl) c (by omega) (Inv_open hi) (by rw [mOpen_k (by decide)]; exact h9)) cv_X10_281 cd_X1_ticksTillEnd rfl (st := []) rfl hE13.2.2.1 (by decide) (by decide) rfl (Nat.zero_le _) (Nat.zero_le _) hE13 (fun r21 w22 q23 => ?_)
    obtain ⟨q23r, ⟨D9, q23e⟩, q23f⟩ := q23
    rw [q23r]
    have hF20 : FrE (aB kb) w w22 := FrE.tr hF13 q23f
    have hE20 : isEn G (kb + 850) (aB kb) (tz (kb + 1)) tl fx X cl 0 D9 w22 := q23e
    have hm25 := en_tr0 hP.1 hP.2 hF20
    refine M.run 2 (pc' := 51) (lv' := [some (vr kb), some (vi ((c : Nat) : Int)), some (vi (mEnds X tl (1 - 0) c 400 0 (mOpen tl c D)))]) (st' := [vr kb]) rfl ?_
    refine M.get fl_X10_41 rfl (hm25.2.1) (kf := 5) (v := vr ((aB kb) 13)) rfl ?_
    refine M.run 1 (pc' := 55) (lv' := [some (vr kb), some (vi ((c : Nat) : Int)), some (vi (mEnds X tl (1 - 0) c 400 0 (mOpen tl c D)))]) (st' := [vi 1, vr ((aB kb) 13)]) rfl ?_
    refine M.put fl_X10_284 rfl (hE20.2.2.1) rfl rfl (Nat.le_of_ble_eq_true rfl) ?_
    obtain ⟨hE26, hFf26⟩ := isEn_d (v := 1) hE20
    have hF26 : FrE (aB kb) w (up w22 ((aB kb) 13) (Ob 0 [vr ((tz (kb + 1)) 0), vr ((aB kb) 0), vr ((aB kb) 14), vi 1])) := FrE.tr hF20 hFf26
    change g 0 0 (up w22 ((aB kb) 13) (Ob 0 [vr ((tz (kb + 1)) 0), vr ((aB kb) 0), vr ((aB kb) 14), vi 1])) 58 [some (vr kb), some (vi ((c : Nat) : Int)), some (vi (mEnds X tl (1 - 0) c 400 0 (mOpen tl c D)))] []
    generalize up w22 ((aB kb) 13) (Ob 0 [vr ((tz (kb + 1)) 0), vr ((aB kb) 0), vr ((aB kb) 14), vi 1]) = w26 at hE26 hF26 ⊢
    have hm27 := en_tr hP.1 hP.2 hE26 hF26
    refine M.run 1 (pc' := 59) (lv' := [some (vr kb), some (vi ((c : Nat) : Int)), some (vi (mEnds X tl (1 - 0) c 400 0 (mOpen tl c D)))]) (st' := [vi (mEnds X tl (1 - 0) c 400 0 (mOpen tl c D))]) rfl ?_
    exact M.iret rfl (Nat.zero_le _) (Nat.zero_le _) ⟨reI (if_pos h5).symm, hm27.1, hm27.2⟩
  · skip
    replace h5 := zb_fd h5
    refine M.run 1 (pc' := 9) (lv' := [some (vr kb), some (vi x), none]) (st' := [vi (-1)]) rfl ?_
    exact M.iret rfl (Nat.zero_le _) (Nat.zero_le _) ⟨reI (if_neg h5).symm, hP.1, hP.2⟩
