set_option maxHeartbeats 4000000 in
set_option maxRecDepth 100000 in
theorem kX10_odds (l : Launch) (G : GT) (kb : Nat) (tl fx fx2 : Nat → Int) (X : Nat → Int → Option Gn) (cl : Nat → Int) (D : Dy) (L : List Dy) (tl2 : Nat → Int) (D2 : Dy) (L2 : List Dy) (tp : Nat → Int) (nt fs fp : Int) (hT : Tok tl) (n : Int) (hs : Sok n tl D) (hn : n ≤ 1400000000) (hZ : Tz tl) (hru : -1 ≤ tl 2 ∧ tl 2 < tl 1) (x : Int) (z : Int) (hx : -2147483648 ≤ x ∧ x ≤ 2147483647) (hz : -2147483648 ≤ z ∧ z ≤ 2147483647)  : Ctr l G yX10_odds cX10_odds 11 ((Option.some Jvm.ClassFile.FieldType.long)) 6 0 0 [vr kb, vi x, vi z] (fun w => isEn G (kb + 850) (aA kb) (tz (kb + 1)) tl fx X cl 1 D w ∧ isKr kb fx fx2 L tl2 D2 L2 tp nt fs fp w) (fun w r w' => r = some (vl (if opC tl D x ∧ (bPs (mRedOf tl x.toNat) (tl 7).toNat).length ≤ 18 then (((if z = 0 then mOds (odF X tl D x.toNat) (bPs (mRedOf tl x.toNat) (tl 7).toNat).length else 10 ^ (bPs (mRedOf tl x.toNat) (tl 7).toNat).length) / Nat.gcd (mOds (odF X tl D x.toNat) (bPs (mRedOf tl x.toNat) (tl 7).toNat).length) (10 ^ (bPs (mRedOf tl x.toNat) (tl 7).toNat).length) : Nat) : Int) else -1)) ∧ isEn G (kb + 850) (aA kb) (tz (kb + 1)) tl fx X cl 1 D w' ∧ isKr kb fx fx2 L tl2 D2 L2 tp nt fs fp w') := by
  refine Ctr.of (t := tX10_odds) (lv0 := [some (vr kb), some (vi x), some (vi z), none, none, none, none, none, none, none, none]) (by decide +kernel) tX10_odds_ok rfl rfl (fun w g hP M => ?_)
  have hd := hs.1
  have hi := hs.2.1
  have h9 := hs.2.2.1
  have hJ := hs.2.2.2.1
  have hz0 := hs.2.2.2.2
  have hdr : (1 : Int) = 0 ∨ (1 : Int) = 1 := Or.inr rfl
  have hk0 : 0 ≤ tl 0 ∧ tl 0 ≤ 3 := hT.1 0 (by decide)
  have hk7 := Tok_7 hT
  refine M.run 2 (pc' := 2) (lv' := [some (vr kb), some (vi x), some (vi z), none, none, none, none, none, none, none, none]) (st' := [vi x, vr kb]) rfl ?_
  refine M.callV (kX10_isNew l G kb tl fx fx2 X cl D L tl2 D2 L2 tp nt fs fp hT n hd (by omega) hJ hi h9 hZ hru x (by omega)) cv_X10_115 cd_X10_isNew rfl (st := []) rfl (hP.2.1) (by decide) (by decide) rfl (Nat.zero_le _) (Nat.zero_le _) hP (fun r1 w2 q3 => ?_)
  rw [q3.1, q3.2]
  refine M.if_ne (tgt := 12) rfl (inI_zb _) (by decide) (fun h5 => ?_) (fun h5 => ?_)
  · skip
    replace h5 := zb_td h5
    have hop := h5
    obtain ⟨c, rfl⟩ := Int.eq_ofNat_of_zero_le (show (0 : Int) ≤ x from h5.1.1)
    have hbt : ((c : Nat) : Int) < tl 0 := hop.1.2
    have htr := Tok_red hT (x := c) (by omega)
    have hml := mRedOf_lt hT (b := c) (by omega)
    have hpl : (bPs (mRedOf tl c) (tl 7).toNat).length ≤ 30 := bPsF_len (mRedOf tl c) (tl 7).toNat (by omega) 30 0 (by omega)
    have hps := bPs_ok (b := mRedOf tl c) (sz := (tl 7).toNat) (by omega)
    refine M.run 1 (pc' := 13) (lv' := [some (vr kb), some (vi ((c : Nat) : Int)), some (vi z), none, none, none, none, none, none, none, none]) (st' := [vr kb]) rfl ?_
    refine M.get fl_X10_23 rfl (hP.2.1) (kf := 2) (v := vr ((tz (kb + 1)) 0)) rfl ?_
    refine M.run 1 (pc' := 17) (lv' := [some (vr kb), some (vi ((c : Nat) : Int)), some (vi z), none, none, none, none, none, none, none, none]) (st' := [vi ((c : Nat) : Int), vr ((tz (kb + 1)) 0)]) rfl ?_
    refine M.callV (qO_redZ l G (kb + 850) (aA kb) (tz (kb + 1)) tl fx X cl 1 D hT hZ c (by omega)) cv_X10_199 cd_X9_redOf rfl (st := []) rfl hP.1.2.1.1 (by decide) (by decide) rfl (Nat.zero_le _) (Nat.zero_le _) hP.1 (fun r5 w6 q7 => ?_)
    rw [q7.1, q7.2]
    rw [show tl (15 + c) = (((tl (15 + c)).toNat : Nat) : Int) from (Int.toNat_of_nonneg htr.1).symm]
    refine M.callS (kX0_first l G ((tl (15 + c)).toNat) (by omega)) cs_X10_216 cd_X0_first rfl (st := []) rfl (by decide) (by decide) rfl (Nat.zero_le _) (Nat.zero_le _) trivial (fun r9 w10 q11 => ?_)
    rw [q11.1, q11.2]
    rw [show ((bFs ((tl (15 + c)).toNat) : Nat) : Int) = ((mRedOf tl c : Nat) : Int) from rfl]
    refine M.run 3 (pc' := 26) (lv' := [some (vr kb), some (vi ((c : Nat) : Int)), some (vi z), some (vi ((mRedOf tl c : Nat) : Int)), none, none, none, none, none, none, none]) (st' := [vr kb, vi ((mRedOf tl c : Nat) : Int)]) rfl ?_
    refine M.get fl_X10_23 rfl (hP.2.1) (kf := 2) (v := vr ((tz (kb + 1)) 0)) rfl ?_
    refine M.get fl_X10_80 rfl hP.1.2.1.1 (kf := 7) (v := vi (tl 7)) rfl ?_
    rw [show (tl 7) = (((tl 7).toNat : Nat) : Int) from (Int.toNat_of_nonneg (by omega)).symm]
    refine M.callS (kX0_pieceCount l G (mRedOf tl c) (by omega) ((tl 7).toNat) (by omega) (by omega)) cs_X10_291 cd_X0_pieceCount rfl (st := []) rfl (by decide) (by decide) rfl (Nat.zero_le _) (Nat.zero_le _) trivial (fun r13 w14 q15 => ?_)
    rw [q15.1, q15.2]
    refine M.run 3 (pc' := 41) (lv' := [some (vr kb), some (vi ((c : Nat) : Int)), some (vi z), some (vi ((mRedOf tl c : Nat) : Int)), some (vi (((bPs (mRedOf tl c) ((tl 7).toNat)).length : Nat) : Int)), none, none, none, none, none, none]) (st' := [vi 18, vi (((bPs (mRedOf tl c) ((tl 7).toNat)).length : Nat) : Int)]) rfl ?_
    refine M.icmp_le (tgt := 48) rfl (qI (by omega)) (qI (by decide)) (by decide) (fun h41 => ?_) (fun h41 => ?_)
    · skip
      refine M.run 6 (pc' := 57) (lv' := [some (vr kb), some (vi ((c : Nat) : Int)), some (vi z), some (vi ((mRedOf tl c : Nat) : Int)), some (vi (((bPs (mRedOf tl c) ((tl 7).toNat)).length : Nat) : Int)), some (vl 1), none, some (vl 1), none, some (vi 0), none]) (st' := []) rfl ?_
      have Lp57 : ∀ (N : Nat) (up : Nat) (i : Nat) (ws : Wo), (isEn G (kb + 850) (aA kb) (tz (kb + 1)) tl fx X cl 1 D ws) → (isKr kb fx fx2 L tl2 D2 L2 tp nt fs fp ws) → (Sok n tl D) → (up = mOds (odF X tl D c) i) → (up ≤ 10 ^ i) → (i ≤ (bPs (mRedOf tl c) (tl 7).toNat).length) → (bPs (mRedOf tl c) (tl 7).toNat).length - i < N → g 0 0 ws 57 [some (vr kb), some (vi ((c : Nat) : Int)), some (vi z), some (vi ((mRedOf tl c : Nat) : Int)), some (vi (((bPs (mRedOf tl c) (tl 7).toNat).length : Nat) : Int)), some (vl ((up : Nat) : Int)), none, some (vl ((10 ^ i : Nat) : Int)), none, some (vi ((i : Nat) : Int)), none] [] := by
        intro N
        induction N with
        | zero => intro up i ws _ _ _ _ _ _ hN; exact absurd hN (Nat.not_lt_zero _)
        | succ N ih57 =>
          intro up i ws hEs hKs hss hup hub hil hN
          refine M.run 2 (pc' := 61) (lv' := [some (vr kb), some (vi ((c : Nat) : Int)), some (vi z), some (vi ((mRedOf tl c : Nat) : Int)), some (vi (((bPs (mRedOf tl c) (tl 7).toNat).length : Nat) : Int)), some (vl ((up : Nat) : Int)), none, some (vl ((10 ^ i : Nat) : Int)), none, some (vi ((i : Nat) : Int)), none]) (st' := [vi (((bPs (mRedOf tl c) (tl 7).toNat).length : Nat) : Int), vi ((i : Nat) : Int)]) rfl ?_
          refine M.icmp_ge (tgt := 139) rfl (qI (by omega)) (qI (by omega)) (by decide) (fun h61 => ?_) (fun h61 => ?_)
          · skip
            have hil2 : i = (bPs (mRedOf tl c) (tl 7).toNat).length := by omega
            have hp9 := p18 (k := i) (by omega)
            have hpp : 0 < 10 ^ i := Nat.pow_pos (by decide)
            have hgp : 0 < Nat.gcd up (10 ^ i) := Nat.gcd_pos_of_pos_right _ hpp
            have hgl : Nat.gcd up (10 ^ i) ≤ 10 ^ i := Nat.gcd_le_right _ hpp
            refine M.run 2 (pc' := 143) (lv' := [some (vr kb), some (vi ((c : Nat) : Int)), some (vi z), some (vi ((mRedOf tl c : Nat) : Int)), some (vi (((bPs (mRedOf tl c) (tl 7).toNat).length : Nat) : Int)), some (vl ((up : Nat) : Int)), none, some (vl ((10 ^ i : Nat) : Int)), none, some (vi ((i : Nat) : Int)), none]) (st' := [vl ((10 ^ i : Nat) : Int), vl ((up : Nat) : Int)]) rfl ?_
            refine M.callS (kX10_commonDivisor l G up (10 ^ i) (by omega) (by omega)) cs_X10_335 cd_X10_commonDivisor rfl (st := []) rfl (by decide) (by decide) rfl (Nat.zero_le _) (Nat.zero_le _) trivial (fun r17 w18 q19 => ?_)
            rw [q19.1, q19.2]
            refine M.run 3 (pc' := 151) (lv' := [some (vr kb), some (vi ((c : Nat) : Int)), some (vi z), some (vi ((mRedOf tl c : Nat) : Int)), some (vi (((bPs (mRedOf tl c) (tl 7).toNat).length : Nat) : Int)), some (vl ((up : Nat) : Int)), none, some (vl ((10 ^ i : Nat) : Int)), none, some (vl ((Nat.gcd up (10 ^ i) : Nat) : Int)), none]) (st' := [vl 1, vl ((Nat.gcd up (10 ^ i) : Nat) : Int)]) rfl ?_
            refine M.lcmp rfl (qL (by omega)) (qL (by decide)) ?_
            refine M.if_ge (tgt := 159) rfl (qI (by omega)) (by decide) (fun h152 => ?_) (fun h152 => ?_)
            · skip
              replace h152 := lc_ge_t h152
              refine M.run 1 (pc' := 160) (lv' := [some (vr kb), some (vi ((c : Nat) : Int)), some (vi z), some (vi ((mRedOf tl c : Nat) : Int)), some (vi (((bPs (mRedOf tl c) (tl 7).toNat).length : Nat) : Int)), some (vl ((up : Nat) : Int)), none, some (vl ((10 ^ i : Nat) : Int)), none, some (vl ((Nat.gcd up (10 ^ i) : Nat) : Int)), none]) (st' := [vi z]) rfl ?_
              refine M.if_eq (tgt := 168) rfl (qI (by omega)) (by decide) (fun h160 => ?_) (fun h160 => ?_)
              · skip
                refine M.run 2 (pc' := 172) (lv' := [some (vr kb), some (vi ((c : Nat) : Int)), some (vi z), some (vi ((mRedOf tl c : Nat) : Int)), some (vi (((bPs (mRedOf tl c) (tl 7).toNat).length : Nat) : Int)), some (vl ((up : Nat) : Int)), none, some (vl ((10 ^ i : Nat) : Int)), none, some (vl ((Nat.gcd up (10 ^ i) : Nat) : Int)), none]) (st' := [vl ((Nat.gcd up (10 ^ i) : Nat) : Int), vl ((up : Nat) : Int)]) rfl ?_
                refine M.ldiv rfl (qL (by omega)) (qL (by omega)) (by omega) ?_
                exact M.lret rfl (Nat.zero_le _) (Nat.zero_le _) ⟨reL (by rw [if_pos (And.intro hop (by show (bPs (mRedOf tl c) (tl 7).toNat).length ≤ 18; omega)), if_pos (by omega)]; show _ = ((mOds (odF X tl D c) (bPs (mRedOf tl c) (tl 7).toNat).length / Nat.gcd (mOds (odF X tl D c) (bPs (mRedOf tl c) (tl 7).toNat).length) (10 ^ (bPs (mRedOf tl c) (tl 7).toNat).length) : Nat) : Int); rw [← hil2, ← hup]; exact (Int.ofNat_tdiv _ _).symm), hEs, hKs⟩
              · skip
                refine M.run 3 (pc' := 172) (lv' := [some (vr kb), some (vi ((c : Nat) : Int)), some (vi z), some (vi ((mRedOf tl c : Nat) : Int)), some (vi (((bPs (mRedOf tl c) (tl 7).toNat).length : Nat) : Int)), some (vl ((up : Nat) : Int)), none, some (vl ((10 ^ i : Nat) : Int)), none, some (vl ((Nat.gcd up (10 ^ i) : Nat) : Int)), none]) (st' := [vl ((Nat.gcd up (10 ^ i) : Nat) : Int), vl ((10 ^ i : Nat) : Int)]) rfl ?_
                refine M.ldiv rfl (qL (by omega)) (qL (by omega)) (by omega) ?_
                exact M.lret rfl (Nat.zero_le _) (Nat.zero_le _) ⟨reL (by rw [if_pos (And.intro hop (by show (bPs (mRedOf tl c) (tl 7).toNat).length ≤ 18; omega)), if_neg (by omega)]; show _ = ((10 ^ (bPs (mRedOf tl c) (tl 7).toNat).length / Nat.gcd (mOds (odF X tl D c) (bPs (mRedOf tl c) (tl 7).toNat).length) (10 ^ (bPs (mRedOf tl c) (tl 7).toNat).length) : Nat) : Int); rw [← hil2, ← hup]; exact (Int.ofNat_tdiv _ _).symm), hEs, hKs⟩
            · skip
              replace h152 := lc_ge_f h152
              omega
          · skip
            have hq := hps _ (gP_mem (L := (bPs (mRedOf tl c) (tl 7).toNat)) (i := i) (by omega))
            have hb0 := bEg_0 (L := (bPs (mRedOf tl c) (tl 7).toNat)) (i := i) (by omega)
            have hb1 := bEg_1 (L := (bPs (mRedOf tl c) (tl 7).toNat)) (i := i) (by omega)
            have hp1 := p18 (k := i + 1) (by omega)
            have hp2 : 10 ^ (i + 1) = 10 ^ i * 10 := Nat.pow_succ ..
            refine M.run 2 (pc' := 66) (lv' := [some (vr kb), some (vi ((c : Nat) : Int)), some (vi z), some (vi ((mRedOf tl c : Nat) : Int)), some (vi (((bPs (mRedOf tl c) (tl 7).toNat).length : Nat) : Int)), some (vl ((up : Nat) : Int)), none, some (vl ((10 ^ i : Nat) : Int)), none, some (vi ((i : Nat) : Int)), none]) (st' := [vr kb, vi ((mRedOf tl c : Nat) : Int)]) rfl ?_
            refine M.get fl_X10_23 rfl (hKs.1) (kf := 2) (v := vr ((tz (kb + 1)) 0)) rfl ?_
            refine M.get fl_X10_80 rfl hEs.2.1.1 (kf := 7) (v := vi (tl 7)) rfl ?_
            rw [show (tl 7) = (((tl 7).toNat : Nat) : Int) from (Int.toNat_of_nonneg (by omega)).symm]
            refine M.run 2 (pc' := 75) (lv' := [some (vr kb), some (vi ((c : Nat) : Int)), some (vi z), some (vi ((mRedOf tl c : Nat) : Int)), some (vi (((bPs (mRedOf tl c) (tl 7).toNat).length : Nat) : Int)), some (vl ((up : Nat) : Int)), none, some (vl ((10 ^ i : Nat) : Int)), none, some (vi ((i : Nat) : Int)), none]) (st' := [vi 1, vi ((i : Nat) : Int), vi (((tl 7).toNat : Nat) : Int), vi ((mRedOf tl c : Nat) : Int)]) rfl ?_
            refine M.callS (kX0_pieceEdge l G (mRedOf tl c) (by omega) ((tl 7).toNat) (by omega) (by omega) ((i : Nat) : Int) 1 (qI (by omega)) (qI (by omega))) cs_X10_294 cd_X0_pieceEdge rfl (st := []) rfl (by decide) (by decide) rfl (Nat.zero_le _) (Nat.zero_le _) trivial (fun r21 w22 q23 => ?_)
            rw [q23.1, q23.2]
            rw [show bEg (bPs (mRedOf tl c) ((tl 7).toNat)) ((i : Nat) : Int) 1 = (((gP (bPs (mRedOf tl c) (tl 7).toNat) i).2 : Nat) : Int) from hb1]
            refine M.run 2 (pc' := 80) (lv' := [some (vr kb), some (vi ((c : Nat) : Int)), some (vi z), some (vi ((mRedOf tl c : Nat) : Int)), some (vi (((bPs (mRedOf tl c) (tl 7).toNat).length : Nat) : Int)), some (vl ((up : Nat) : Int)), none, some (vl ((10 ^ i : Nat) : Int)), none, some (vi ((i : Nat) : Int)), none]) (st' := [vr kb, vi ((mRedOf tl c : Nat) : Int), vi (((gP (bPs (mRedOf tl c) (tl 7).toNat) i).2 : Nat) : Int)]) rfl ?_
            refine M.get fl_X10_23 rfl (hKs.1) (kf := 2) (v := vr ((tz (kb + 1)) 0)) rfl ?_
            refine M.get fl_X10_80 rfl hEs.2.1.1 (kf := 7) (v := vi (tl 7)) rfl ?_
            rw [show (tl 7) = (((tl 7).toNat : Nat) : Int) from (Int.toNat_of_nonneg (by omega)).symm]
            refine M.run 2 (pc' := 89) (lv' := [some (vr kb), some (vi ((c : Nat) : Int)), some (vi z), some (vi ((mRedOf tl c : Nat) : Int)), some (vi (((bPs (mRedOf tl c) (tl 7).toNat).length : Nat) : Int)), some (vl ((up : Nat) : Int)), none, some (vl ((10 ^ i : Nat) : Int)), none, some (vi ((i : Nat) : Int)), none]) (st' := [vi 0, vi ((i : Nat) : Int), vi (((tl 7).toNat : Nat) : Int), vi ((mRedOf tl c : Nat) : Int), vi (((gP (bPs (mRedOf tl c) (tl 7).toNat) i).2 : Nat) : Int)]) rfl ?_
            refine M.callS (kX0_pieceEdge l G (mRedOf tl c) (by omega) ((tl 7).toNat) (by omega) (by omega) ((i : Nat) : Int) 0 (qI (by omega)) (qI (by omega))) cs_X10_294 cd_X0_pieceEdge rfl (st := [vi (((gP (bPs (mRedOf tl c) (tl 7).toNat) i).2 : Nat) : Int)]) rfl (by decide) (by decide) rfl (Nat.zero_le _) (Nat.zero_le _) trivial (fun r25 w26 q27 => ?_)
            rw [q27.1, q27.2]
            rw [show bEg (bPs (mRedOf tl c) ((tl 7).toNat)) ((i : Nat) : Int) 0 = (((gP (bPs (mRedOf tl c) (tl 7).toNat) i).1 : Nat) : Int) from hb0]
            refine M.run 5 (pc' := 100) (lv' := [some (vr kb), some (vi ((c : Nat) : Int)), some (vi z), some (vi ((mRedOf tl c : Nat) : Int)), some (vi (((bPs (mRedOf tl c) (tl 7).toNat).length : Nat) : Int)), some (vl ((up : Nat) : Int)), none, some (vl ((10 ^ i : Nat) : Int)), none, some (vi ((i : Nat) : Int)), some (vi ((((gP (bPs (mRedOf tl c) (tl 7).toNat) i).2 : Nat) : Int) - (((gP (bPs (mRedOf tl c) (tl 7).toNat) i).1 : Nat) : Int)))]) (st' := [vr kb, vi 10, vl ((up : Nat) : Int)]) rfl ?_
            refine M.get fl_X10_34 rfl (hKs.1) (kf := 4) (v := vr ((aA kb) 13)) rfl ?_
            refine M.get fl_X10_304 rfl hEs.2.2.1 (kf := 2) (v := vr ((aA kb) 14)) rfl ?_
            refine M.run 1 (pc' := 107) (lv' := [some (vr kb), some (vi ((c : Nat) : Int)), some (vi z), some (vi ((mRedOf tl c : Nat) : Int)), some (vi (((bPs (mRedOf tl c) (tl 7).toNat).length : Nat) : Int)), some (vl ((up : Nat) : Int)), none, some (vl ((10 ^ i : Nat) : Int)), none, some (vi ((i : Nat) : Int)), some (vi ((((gP (bPs (mRedOf tl c) (tl 7).toNat) i).2 : Nat) : Int) - (((gP (bPs (mRedOf tl c) (tl 7).toNat) i).1 : Nat) : Int)))]) (st' := [vr kb, vr ((aA kb) 14), vi 10, vl ((up : Nat) : Int)]) rfl ?_
            refine M.get fl_X10_23 rfl (hKs.1) (kf := 2) (v := vr ((tz (kb + 1)) 0)) rfl ?_
            refine M.callV (qO_rul l G (kb + 850) (aA kb) (tz (kb + 1)) tl fx X cl 1 D hT) cv_X10_308 cd_X9_rulingText rfl (st := [vr ((aA kb) 14), vi 10, vl ((up : Nat) : Int)]) rfl hEs.2.1.1 (by decide) (by decide) rfl (Nat.zero_le _) (Nat.zero_le _) hEs (fun r29 w30 q31 => ?_)
            rw [q31.1, q31.2]
            refine M.run 3 (pc' := 117) (lv' := [some (vr kb), some (vi ((c : Nat) : Int)), some (vi z), some (vi ((mRedOf tl c : Nat) : Int)), some (vi (((bPs (mRedOf tl c) (tl 7).toNat).length : Nat) : Int)), some (vl ((up : Nat) : Int)), none, some (vl ((10 ^ i : Nat) : Int)), none, some (vi ((i : Nat) : Int)), some (vi ((((gP (bPs (mRedOf tl c) (tl 7).toNat) i).2 : Nat) : Int) - (((gP (bPs (mRedOf tl c) (tl 7).toNat) i).1 : Nat) : Int)))]) (st' := [vi ((((gP (bPs (mRedOf tl c) (tl 7).toNat) i).2 : Nat) : Int) - (((gP (bPs (mRedOf tl c) (tl 7).toNat) i).1 : Nat) : Int)), vi ((c : Nat) : Int), vi 0, .inr (.inr (if 0 ≤ tl 2 ∧ tl 2 < tl 1 then rfO (fx (tl 2).toNat) else none)), vr ((aA kb) 14), vi 10, vl ((up : Nat) : Int)]) rfl ?_
            obtain ⟨_, _, _, _, _, hLa33⟩ := hEs.2.2.2.1
            refine M.callV (qW_los l G (kb + 850) (aA kb) (tz (kb + 1)) tl fx X cl 1 D hT n hss.1 0 ((c : Nat) : Int) ((((gP (bPs (mRedOf tl c) (tl 7).toNat) i).2 : Nat) : Int) - (((gP (bPs (mRedOf tl c) (tl 7).toNat) i).1 : Nat) : Int)) (by omega) (by omega) (by omega) (tl 2) (by omega)) cv_X10_312 cd_X2_losing rfl (st := [vi 10, vl ((up : Nat) : Int)]) rfl hLa33.1 (by decide) (by decide) rfl (Nat.zero_le _) (Nat.zero_le _) hEs (fun r36 w37 q38 => ?_)
            obtain ⟨q38r, q38e, q38f⟩ := q38
            rw [q38r, show sayV (X (tl 2).toNat 0) (tl 2) 2 0 10 (enA (stA tl D) 0 ((c : Nat) : Int) ((((gP (bPs (mRedOf tl c) (tl 7).toNat) i).2 : Nat) : Int) - (((gP (bPs (mRedOf tl c) (tl 7).toNat) i).1 : Nat) : Int))) (ofA (stA tl D)) = mLossA X (stA tl D) (tl 2) 0 ((c : Nat) : Int) ((((gP (bPs (mRedOf tl c) (tl 7).toNat) i).2 : Nat) : Int) - (((gP (bPs (mRedOf tl c) (tl 7).toNat) i).1 : Nat) : Int)) from rfl]
            have hE34 : isEn G (kb + 850) (aA kb) (tz (kb + 1)) tl fx X cl 1 D w37 := q38e
            have hK35 : isKr kb fx fx2 L tl2 D2 L2 tp nt fs fp w37 := kr_E hKs q38f
            have hlb := mLossA_b (X := X) (a := stA tl D) (z := tl 2) (kind := 0) (c := ((c : Nat) : Int)) (x := (((gP (bPs (mRedOf tl c) (tl 7).toNat) i).2 : Nat) : Int) - (((gP (bPs (mRedOf tl c) (tl 7).toNat) i).1 : Nat) : Int))
            refine M.run 1 (pc' := 121) (lv' := [some (vr kb), some (vi ((c : Nat) : Int)), some (vi z), some (vi ((mRedOf tl c : Nat) : Int)), some (vi (((bPs (mRedOf tl c) (tl 7).toNat).length : Nat) : Int)), some (vl ((up : Nat) : Int)), none, some (vl ((10 ^ i : Nat) : Int)), none, some (vi ((i : Nat) : Int)), some (vi ((((gP (bPs (mRedOf tl c) (tl 7).toNat) i).2 : Nat) : Int) - (((gP (bPs (mRedOf tl c) (tl 7).toNat) i).1 : Nat) : Int)))]) (st' := [vi (10 - (mLossA X (stA tl D) (tl 2) 0 ((c : Nat) : Int) ((((gP (bPs (mRedOf tl c) (tl 7).toNat) i).2 : Nat) : Int) - (((gP (bPs (mRedOf tl c) (tl 7).toNat) i).1 : Nat) : Int)))), vl ((up : Nat) : Int)]) rfl ?_
            rw [show 10 - (mLossA X (stA tl D) (tl 2) 0 ((c : Nat) : Int) ((((gP (bPs (mRedOf tl c) (tl 7).toNat) i).2 : Nat) : Int) - (((gP (bPs (mRedOf tl c) (tl 7).toNat) i).1 : Nat) : Int))) = ((odF X tl D c i : Nat) : Int) from (by unfold odF; exact (Int.toNat_of_nonneg (by omega)).symm)]
            have hod : odF X tl D c i ≤ 10 := by unfold odF; omega
            refine M.i2l rfl (qI (by omega)) ?_
            refine M.run 3 (pc' := 127) (lv' := [some (vr kb), some (vi ((c : Nat) : Int)), some (vi z), some (vi ((mRedOf tl c : Nat) : Int)), some (vi (((bPs (mRedOf tl c) (tl 7).toNat).length : Nat) : Int)), some (vl (((up : Nat) : Int) * ((odF X tl D c i : Nat) : Int))), none, some (vl ((10 ^ i : Nat) : Int)), none, some (vi ((i : Nat) : Int)), some (vi ((((gP (bPs (mRedOf tl c) (tl 7).toNat) i).2 : Nat) : Int) - (((gP (bPs (mRedOf tl c) (tl 7).toNat) i).1 : Nat) : Int)))]) (st' := [vl ((10 ^ i : Nat) : Int)]) rfl ?_
            refine M.ldc2 (x := 10) kl_X10_333 rfl rfl ?_
            refine M.run 1 (pc' := 131) (lv' := [some (vr kb), some (vi ((c : Nat) : Int)), some (vi z), some (vi ((mRedOf tl c : Nat) : Int)), some (vi (((bPs (mRedOf tl c) (tl 7).toNat).length : Nat) : Int)), some (vl (((up : Nat) : Int) * ((odF X tl D c i : Nat) : Int))), none, some (vl ((10 ^ i : Nat) : Int)), none, some (vi ((i : Nat) : Int)), some (vi ((((gP (bPs (mRedOf tl c) (tl 7).toNat) i).2 : Nat) : Int) - (((gP (bPs (mRedOf tl c) (tl 7).toNat) i).1 : Nat) : Int)))]) (st' := [vl (((10 ^ i : Nat) : Int) * 10)]) rfl ?_
            rw [show ((10 ^ i : Nat) : Int) * 10 = ((10 ^ (i + 1) : Nat) : Int) from by rw [Nat.pow_succ]; rfl]
            refine M.run 3 (pc' := 57) (lv' := [some (vr kb), some (vi ((c : Nat) : Int)), some (vi z), some (vi ((mRedOf tl c : Nat) : Int)), some (vi (((bPs (mRedOf tl c) (tl 7).toNat).length : Nat) : Int)), some (vl (((up : Nat) : Int) * ((odF X tl D c i : Nat) : Int))), none, some (vl ((10 ^ (i + 1) : Nat) : Int)), none, some (vi (((i : Nat) : Int) + 1)), some (vi ((((gP (bPs (mRedOf tl c) (tl 7).toNat) i).2 : Nat) : Int) - (((gP (bPs (mRedOf tl c) (tl 7).toNat) i).1 : Nat) : Int)))]) (st' := []) rfl ?_
            refine M.fgt [false, false, false, false, false, false, false, false, false, false, true] ?_
            exact ih57 (up * (odF X tl D c i)) (i + 1) w37 hE34 hK35 hs (by rw [hup]; rfl) (by rw [hp2]; exact Nat.mul_le_mul hub hod) (by omega) (by omega)
      exact Lp57 _ 1 0 w hP.1 hP.2 (Sok_mono (by omega) hs) rfl (Nat.le_refl _) (Nat.zero_le _) (Nat.lt_succ_self _)
    · skip
      refine M.ldc2 (x := (-1)) kl_X10_331 rfl rfl ?_
      exact M.lret rfl (Nat.zero_le _) (Nat.zero_le _) ⟨reL (if_neg (fun q => absurd q.2 (by show ¬ (bPs (mRedOf tl c) (tl 7).toNat).length ≤ 18; omega))).symm, hP.1, hP.2⟩
  · skip
    replace h5 := zb_fd h5
    refine M.ldc2 (x := (-1)) kl_X10_331 rfl rfl ?_
    exact M.lret rfl (Nat.zero_le _) (Nat.zero_le _) ⟨reL (if_neg (fun q => h5 q.1)).symm, hP.1, hP.2⟩
