def cdP (i p q : Nat) : Prop := p ≤ 1000000000000000000 ∧ q ≤ 1000000000000000000 ∧ i ≤ 121 ∧ (1 ≤ i → p < q ∧ p * q < 2 ^ (121 - i))
theorem cd_s {i p q : Nat} (h : cdP i p q) (h0 : p ≠ 0) : cdP (i + 1) (q % p) p := by
  obtain ⟨h1, h2, h3, h4⟩ := h
  have hlt := Nat.mod_lt q (show 0 < p by omega)
  have hi : i ≤ 120 := by
    rcases Nat.lt_or_ge i 121 with a | a
    · omega
    · have he : i = 121 := by omega
      subst he
      obtain ⟨h5, h6⟩ := h4 (by decide)
      have h7 : 0 < p * q := Nat.mul_pos (by omega) (by omega)
      have h8 : (2 : Nat) ^ (121 - 121) = 1 := by decide
      omega
  refine ⟨by omega, h1, by omega, fun _ => ⟨hlt, ?_⟩⟩
  rcases Nat.eq_zero_or_pos i with a | a
  · subst a
    have h5 : q % p * p ≤ 1000000000000000000 * 1000000000000000000 := Nat.mul_le_mul (by omega) h1
    have h6 : (1000000000000000000 * 1000000000000000000 : Nat) < 2 ^ (121 - (0 + 1)) := by decide
    omega
  · obtain ⟨h5, h6⟩ := h4 a
    have h7 : p * (q / p) + q % p = q := Nat.div_add_mod q p
    have h8 : 1 ≤ q / p := Nat.div_pos (by omega) (by omega)
    have h9 : p * 1 ≤ p * (q / p) := Nat.mul_le_mul_left p h8
    have h10 : 2 * (q % p) ≤ q := by omega
    have h11 : p * (2 * (q % p)) ≤ p * q := Nat.mul_le_mul_left p h10
    have h12 : p * (2 * (q % p)) = 2 * (q % p * p) := by rw [Nat.mul_left_comm, Nat.mul_comm p (q % p)]
    have h13 : (2 : Nat) ^ (121 - i) = 2 * 2 ^ (121 - (i + 1)) := by rw [show 121 - i = (121 - (i + 1)) + 1 by omega, Nat.pow_succ, Nat.mul_comm]
    omega
theorem gcd_r {p q : Nat} : Nat.gcd (q % p) p = Nat.gcd p q := (Nat.gcd_rec p q).symm

set_option maxHeartbeats 4000000 in
set_option maxRecDepth 100000 in
theorem kX10_saysAll (l : Launch) (G : GT) (kb : Nat) (tl fx fx2 : Nat → Int) (X : Nat → Int → Option Gn) (cl : Nat → Int) (D : Dy) (L : List Dy) (tl2 : Nat → Int) (D2 : Dy) (L2 : List Dy) (tp : Nat → Int) (nt fs fp : Int) (hT : Tok tl) (n : Int) (hs : Sok n tl D) (hn : n ≤ 1400000000) (hZ : Tz tl) (hru : -1 ≤ tl 2 ∧ tl 2 < tl 1) (hsd : Sdk tl) (t : Nat) (ht : ((t : Nat) : Int) < tl 1)  : Ctr l G yX10_saysAll cX10_saysAll 4 ((Option.some Jvm.ClassFile.FieldType.boolean)) 5 0 0 [vr kb, .inr (.inr (if 0 ≤ ((t : Nat) : Int) ∧ ((t : Nat) : Int) < tl 1 then rfO (fx (((t : Nat) : Int)).toNat) else none))] (fun w => isEn G (kb + 850) (aA kb) (tz (kb + 1)) tl fx X cl 1 D w ∧ isKr kb fx fx2 L tl2 D2 L2 tp nt fs fp w) (fun w r w' => r = some (vi (zb (mAll (whoP X tl D t) (tl 4).toNat))) ∧ isEn G (kb + 850) (aA kb) (tz (kb + 1)) tl fx X cl 1 D w' ∧ isKr kb fx fx2 L tl2 D2 L2 tp nt fs fp w') := by
  refine Ctr.of (t := tX10_saysAll) (lv0 := [some (vr kb), some (.inr (.inr (if 0 ≤ ((t : Nat) : Int) ∧ ((t : Nat) : Int) < tl 1 then rfO (fx (((t : Nat) : Int)).toNat) else none))), none, none]) (by decide +kernel) tX10_saysAll_ok rfl rfl (fun w g hP M => ?_)
  have hd := hs.1
  have hi := hs.2.1
  have h9 := hs.2.2.1
  have hJ := hs.2.2.2.1
  have hz0 := hs.2.2.2.2
  have hdr : (1 : Int) = 0 ∨ (1 : Int) = 1 := Or.inr rfl
  have hk0 : 0 ≤ tl 0 ∧ tl 0 ≤ 3 := hT.1 0 (by decide)
  have hk4 : 0 ≤ tl 4 ∧ tl 4 ≤ 8 := hT.1 4 (by decide)
  have hk1 : 0 ≤ tl 1 ∧ tl 1 ≤ 4 := hT.1 1 (by decide)
  refine M.run 2 (pc' := 2) (lv' := [some (vr kb), some (.inr (.inr (if 0 ≤ ((t : Nat) : Int) ∧ ((t : Nat) : Int) < tl 1 then rfO (fx (((t : Nat) : Int)).toNat) else none))), some (vi 0), none]) (st' := []) rfl ?_
  have Lp2 : ∀ (N : Nat) (i : Nat) (ws : Wo), (isEn G (kb + 850) (aA kb) (tz (kb + 1)) tl fx X cl 1 D ws) → (isKr kb fx fx2 L tl2 D2 L2 tp nt fs fp ws) → (Sok n tl D) → (mAll (whoP X tl D t) i = true) → (i ≤ (tl 4).toNat) → (tl 4).toNat - i < N → g 0 0 ws 2 [some (vr kb), some (.inr (.inr (if 0 ≤ ((t : Nat) : Int) ∧ ((t : Nat) : Int) < tl 1 then rfO (fx (((t : Nat) : Int)).toNat) else none))), some (vi ((i : Nat) : Int)), none] [] := by
    intro N
    induction N with
    | zero => intro i ws _ _ _ _ _ hN; exact absurd hN (Nat.not_lt_zero _)
    | succ N ih2 =>
      intro i ws hEs hKs hss hA hi2 hN
      refine M.run 2 (pc' := 4) (lv' := [some (vr kb), some (.inr (.inr (if 0 ≤ ((t : Nat) : Int) ∧ ((t : Nat) : Int) < tl 1 then rfO (fx (((t : Nat) : Int)).toNat) else none))), some (vi ((i : Nat) : Int)), none]) (st' := [vr kb, vi ((i : Nat) : Int)]) rfl ?_
      refine M.get fl_X10_23 rfl (hKs.1) (kf := 2) (v := vr ((tz (kb + 1)) 0)) rfl ?_
      refine M.get fl_X10_109 rfl hEs.2.1.1 (kf := 12) (v := vi (tl 4)) rfl ?_
      refine M.icmp_ge (tgt := 55) rfl (qI (by omega)) (qI (by omega)) (by decide) (fun h10 => ?_) (fun h10 => ?_)
      · skip
        refine M.run 1 (pc' := 56) (lv' := [some (vr kb), some (.inr (.inr (if 0 ≤ ((t : Nat) : Int) ∧ ((t : Nat) : Int) < tl 1 then rfO (fx (((t : Nat) : Int)).toNat) else none))), some (vi ((i : Nat) : Int)), none]) (st' := [vi 1]) rfl ?_
        exact M.zret rfl (Or.inr rfl) (Nat.zero_le _) (Nat.zero_le _) ⟨reI (by rw [show (tl 4).toNat = i by omega, hA]; rfl), hEs, hKs⟩
      · skip
        have hsj := hsd i (by omega)
        refine M.run 1 (pc' := 14) (lv' := [some (vr kb), some (.inr (.inr (if 0 ≤ ((t : Nat) : Int) ∧ ((t : Nat) : Int) < tl 1 then rfO (fx (((t : Nat) : Int)).toNat) else none))), some (vi ((i : Nat) : Int)), none]) (st' := [vr kb]) rfl ?_
        refine M.get fl_X10_23 rfl (hKs.1) (kf := 2) (v := vr ((tz (kb + 1)) 0)) rfl ?_
        refine M.run 1 (pc' := 18) (lv' := [some (vr kb), some (.inr (.inr (if 0 ≤ ((t : Nat) : Int) ∧ ((t : Nat) : Int) < tl 1 then rfO (fx (((t : Nat) : Int)).toNat) else none))), some (vi ((i : Nat) : Int)), none]) (st' := [vi ((i : Nat) : Int), vr ((tz (kb + 1)) 0)]) rfl ?_
        refine M.callV (kX9_saidKind l G (tz (kb + 1)) tl fx hT ((i : Nat) : Int) (by omega)) cv_X10_325 cd_X9_saidKind rfl (st := []) rfl hEs.2.1.1 (by decide) (by decide) rfl (Nat.zero_le _) (Nat.zero_le _) hEs.2.1 (fun r1 w2 q3 => ?_)
        rw [q3.1, q3.2]
        rw [if_pos (show 0 ≤ ((i : Nat) : Int) ∧ ((i : Nat) : Int) < 8 by omega), show (((i : Nat) : Int)).toNat = i from rfl]
        refine M.run 2 (pc' := 23) (lv' := [some (vr kb), some (.inr (.inr (if 0 ≤ ((t : Nat) : Int) ∧ ((t : Nat) : Int) < tl 1 then rfO (fx (((t : Nat) : Int)).toNat) else none))), some (vi ((i : Nat) : Int)), some (vi (tl (986 + 2 * i)))]) (st' := [vr kb]) rfl ?_
        refine M.get fl_X10_34 rfl (hKs.1) (kf := 4) (v := vr ((aA kb) 13)) rfl ?_
        refine M.get fl_X10_304 rfl hEs.2.2.1 (kf := 2) (v := vr ((aA kb) 14)) rfl ?_
        refine M.run 4 (pc' := 33) (lv' := [some (vr kb), some (.inr (.inr (if 0 ≤ ((t : Nat) : Int) ∧ ((t : Nat) : Int) < tl 1 then rfO (fx (((t : Nat) : Int)).toNat) else none))), some (vi ((i : Nat) : Int)), some (vi (tl (986 + 2 * i)))]) (st' := [vi 0, vi 0, vi (tl (986 + 2 * i)), .inr (.inr (if 0 ≤ ((t : Nat) : Int) ∧ ((t : Nat) : Int) < tl 1 then rfO (fx (((t : Nat) : Int)).toNat) else none)), vr ((aA kb) 14)]) rfl ?_
        obtain ⟨_, _, _, _, _, hLa5⟩ := hEs.2.2.2.1
        refine M.callV (qW_los l G (kb + 850) (aA kb) (tz (kb + 1)) tl fx X cl 1 D hT n hss.1 (tl (986 + 2 * i)) 0 0 (by omega) (by omega) (by omega) ((t : Nat) : Int) (by omega)) cv_X10_312 cd_X2_losing rfl (st := []) rfl hLa5.1 (by decide) (by decide) rfl (Nat.zero_le _) (Nat.zero_le _) hEs (fun r7 w8 q9 => ?_)
        obtain ⟨q9r, q9e, q9f⟩ := q9
        rw [q9r, show sayV (X (((t : Nat) : Int)).toNat 0) ((t : Nat) : Int) 2 0 10 (enA (stA tl D) (tl (986 + 2 * i)) 0 0) (ofA (stA tl D)) = mLossA X (stA tl D) ((t : Nat) : Int) (tl (986 + 2 * i)) 0 0 from rfl]
        have hE6 : isEn G (kb + 850) (aA kb) (tz (kb + 1)) tl fx X cl 1 D w8 := q9e
        have hK6 : isKr kb fx fx2 L tl2 D2 L2 tp nt fs fp w8 := kr_E hKs q9f
        have hb6 := mLossA_b (X := X) (a := stA tl D) (z := ((t : Nat) : Int)) (kind := (tl (986 + 2 * i))) (c := 0) (x := 0)
        refine M.run 1 (pc' := 37) (lv' := [some (vr kb), some (.inr (.inr (if 0 ≤ ((t : Nat) : Int) ∧ ((t : Nat) : Int) < tl 1 then rfO (fx (((t : Nat) : Int)).toNat) else none))), some (vi ((i : Nat) : Int)), some (vi (tl (986 + 2 * i)))]) (st' := [vr kb, vi (mLossA X (stA tl D) ((t : Nat) : Int) (tl (986 + 2 * i)) 0 0)]) rfl ?_
        refine M.get fl_X10_23 rfl (hK6.1) (kf := 2) (v := vr ((tz (kb + 1)) 0)) rfl ?_
        refine M.run 1 (pc' := 41) (lv' := [some (vr kb), some (.inr (.inr (if 0 ≤ ((t : Nat) : Int) ∧ ((t : Nat) : Int) < tl 1 then rfO (fx (((t : Nat) : Int)).toNat) else none))), some (vi ((i : Nat) : Int)), some (vi (tl (986 + 2 * i)))]) (st' := [vi ((i : Nat) : Int), vr ((tz (kb + 1)) 0), vi (mLossA X (stA tl D) ((t : Nat) : Int) (tl (986 + 2 * i)) 0 0)]) rfl ?_
        refine M.callV (kX9_saidLoses l G (tz (kb + 1)) tl fx hT ((i : Nat) : Int) (by omega)) cv_X10_328 cd_X9_saidLoses rfl (st := [vi (mLossA X (stA tl D) ((t : Nat) : Int) (tl (986 + 2 * i)) 0 0)]) rfl hE6.2.1.1 (by decide) (by decide) rfl (Nat.zero_le _) (Nat.zero_le _) hE6.2.1 (fun r11 w12 q13 => ?_)
        rw [q13.1, q13.2]
        rw [if_pos (show 0 ≤ ((i : Nat) : Int) ∧ ((i : Nat) : Int) < 8 by omega), show (((i : Nat) : Int)).toNat = i from rfl]
        refine M.icmp_eq (tgt := 49) rfl (qI (by omega)) (qI (by omega)) (by decide) (fun h44 => ?_) (fun h44 => ?_)
        · skip
          refine M.run 2 (pc' := 2) (lv' := [some (vr kb), some (.inr (.inr (if 0 ≤ ((t : Nat) : Int) ∧ ((t : Nat) : Int) < tl 1 then rfO (fx (((t : Nat) : Int)).toNat) else none))), some (vi (((i : Nat) : Int) + 1)), some (vi (tl (986 + 2 * i)))]) (st' := []) rfl ?_
          refine M.fgt [false, false, false, true] ?_
          exact ih2 (i + 1) w8 hE6 hK6 hs (by show (mAll _ i && _) = true; rw [hA]; exact decide_eq_true h44) (by omega) (by omega)
        · skip
          refine M.run 1 (pc' := 48) (lv' := [some (vr kb), some (.inr (.inr (if 0 ≤ ((t : Nat) : Int) ∧ ((t : Nat) : Int) < tl 1 then rfO (fx (((t : Nat) : Int)).toNat) else none))), some (vi ((i : Nat) : Int)), some (vi (tl (986 + 2 * i)))]) (st' := [vi 0]) rfl ?_
          exact M.zret rfl (Or.inl rfl) (Nat.zero_le _) (Nat.zero_le _) ⟨reI (by rw [mAll_f (k := i) (decide_eq_false h44) _ (by omega)]; rfl), hE6, hK6⟩
  exact Lp2 _ 0 w hP.1 hP.2 (Sok_mono (by omega) hs) rfl (Nat.zero_le _) (Nat.lt_succ_self _)
set_option maxHeartbeats 4000000 in
set_option maxRecDepth 100000 in
theorem kX10_whose (l : Launch) (G : GT) (kb : Nat) (tl fx fx2 : Nat → Int) (X : Nat → Int → Option Gn) (cl : Nat → Int) (D : Dy) (L : List Dy) (tl2 : Nat → Int) (D2 : Dy) (L2 : List Dy) (tp : Nat → Int) (nt fs fp : Int) (hT : Tok tl) (n : Int) (hs : Sok n tl D) (hn : n ≤ 1400000000) (hZ : Tz tl) (hru : -1 ≤ tl 2 ∧ tl 2 < tl 1) (hsd : Sdk tl)  : Ctr l G yX10_whose cX10_whose 3 ((Option.some Jvm.ClassFile.FieldType.int)) 6 0 0 [vr kb] (fun w => isEn G (kb + 850) (aA kb) (tz (kb + 1)) tl fx X cl 1 D w ∧ isKr kb fx fx2 L tl2 D2 L2 tp nt fs fp w) (fun w r w' => r = some (vi ((mOrs (fun t => mAll (whoP X tl D t) (tl 4).toNat) (tl 1).toNat : Nat) : Int)) ∧ isEn G (kb + 850) (aA kb) (tz (kb + 1)) tl fx X cl 1 D w' ∧ isKr kb fx fx2 L tl2 D2 L2 tp nt fs fp w') := by
  refine Ctr.of (t := tX10_whose) (lv0 := [some (vr kb), none, none]) (by decide +kernel) tX10_whose_ok rfl rfl (fun w g hP M => ?_)
  have hd := hs.1
  have hi := hs.2.1
  have h9 := hs.2.2.1
  have hJ := hs.2.2.2.1
  have hz0 := hs.2.2.2.2
  have hdr : (1 : Int) = 0 ∨ (1 : Int) = 1 := Or.inr rfl
  have hk0 : 0 ≤ tl 0 ∧ tl 0 ≤ 3 := hT.1 0 (by decide)
  have hk4 : 0 ≤ tl 4 ∧ tl 4 ≤ 8 := hT.1 4 (by decide)
  have hk1 : 0 ≤ tl 1 ∧ tl 1 ≤ 4 := hT.1 1 (by decide)
  refine M.run 4 (pc' := 4) (lv' := [some (vr kb), some (vi 0), some (vi 0)]) (st' := []) rfl ?_
  have Lp4 : ∀ (N : Nat) (v : Nat) (i : Nat) (ws : Wo), (isEn G (kb + 850) (aA kb) (tz (kb + 1)) tl fx X cl 1 D ws) → (isKr kb fx fx2 L tl2 D2 L2 tp nt fs fp ws) → (Sok n tl D) → (v = mOrs (fun t => mAll (whoP X tl D t) (tl 4).toNat) i) → (i ≤ (tl 1).toNat) → (tl 1).toNat - i < N → g 0 0 ws 4 [some (vr kb), some (vi ((v : Nat) : Int)), some (vi ((i : Nat) : Int))] [] := by
    intro N
    induction N with
    | zero => intro v i ws _ _ _ _ _ hN; exact absurd hN (Nat.not_lt_zero _)
    | succ N ih4 =>
      intro v i ws hEs hKs hss hv hi2 hN
      refine M.run 2 (pc' := 6) (lv' := [some (vr kb), some (vi ((v : Nat) : Int)), some (vi ((i : Nat) : Int))]) (st' := [vr kb, vi ((i : Nat) : Int)]) rfl ?_
      refine M.get fl_X10_23 rfl (hKs.1) (kf := 2) (v := vr ((tz (kb + 1)) 0)) rfl ?_
      refine M.get fl_X10_93 rfl hEs.2.1.1 (kf := 9) (v := vi (tl 1)) rfl ?_
      refine M.icmp_ge (tgt := 42) rfl (qI (by omega)) (qI (by omega)) (by decide) (fun h12 => ?_) (fun h12 => ?_)
      · skip
        refine M.run 1 (pc' := 43) (lv' := [some (vr kb), some (vi ((v : Nat) : Int)), some (vi ((i : Nat) : Int))]) (st' := [vi ((v : Nat) : Int)]) rfl ?_
        exact M.iret rfl (Nat.zero_le _) (Nat.zero_le _) ⟨reI (by rw [hv, show (tl 1).toNat = i by omega]), hEs, hKs⟩
      · skip
        refine M.run 2 (pc' := 17) (lv' := [some (vr kb), some (vi ((v : Nat) : Int)), some (vi ((i : Nat) : Int))]) (st' := [vr kb, vr kb]) rfl ?_
        refine M.get fl_X10_23 rfl (hKs.1) (kf := 2) (v := vr ((tz (kb + 1)) 0)) rfl ?_
        refine M.run 1 (pc' := 21) (lv' := [some (vr kb), some (vi ((v : Nat) : Int)), some (vi ((i : Nat) : Int))]) (st' := [vi ((i : Nat) : Int), vr ((tz (kb + 1)) 0), vr kb]) rfl ?_
        refine M.callV (kX9_textAt l G (tz (kb + 1)) tl fx hT ((i : Nat) : Int) (by omega)) cv_X10_146 cd_X9_textAt rfl (st := [vr kb]) rfl hEs.2.1.1 (by decide) (by decide) rfl (Nat.zero_le _) (Nat.zero_le _) hEs.2.1 (fun r1 w2 q3 => ?_)
        rw [q3.1, q3.2]
        refine M.callV (kX10_saysAll l G kb tl fx fx2 X cl D L tl2 D2 L2 tp nt fs fp hT n hs hn hZ hru hsd i (by omega)) cv_X10_321 cd_X10_saysAll rfl (st := []) rfl (hKs.1) (by decide) (by decide) rfl (Nat.zero_le _) (Nat.zero_le _) ⟨hEs, hKs⟩ (fun r6 w7 q8 => ?_)
        obtain ⟨q8r, hE5, hK5⟩ := q8
        rw [q8r]
        have hvl := mOrs_lt (fun t => mAll (whoP X tl D t) (tl 4).toNat) i (by omega)
        have hp2 : 2 ^ i ≤ 16 := Nat.pow_le_pow_right (by decide) (show i ≤ 4 by omega)
        have hsl : 1 <<< i ≤ 16 := by rw [Nat.one_shiftLeft]; exact hp2
        refine M.if_eq (tgt := 36) rfl (inI_zb _) (by decide) (fun h27 => ?_) (fun h27 => ?_)
        · skip
          replace h27 := zb_f0 h27
          refine M.run 2 (pc' := 4) (lv' := [some (vr kb), some (vi ((v : Nat) : Int)), some (vi (((i : Nat) : Int) + 1))]) (st' := []) rfl ?_
          exact ih4 v (i + 1) w7 hE5 hK5 hs (by rw [hv, mOrs_n (k := i) (fun q => by rw [q] at h27; exact absurd h27 (by decide)), Nat.or_zero]) (by omega) (by omega)
        · skip
          replace h27 := zb_t h27
          refine M.run 3 (pc' := 33) (lv' := [some (vr kb), some (vi ((v : Nat) : Int)), some (vi ((i : Nat) : Int))]) (st' := [vi ((i : Nat) : Int), vi 1, vi ((v : Nat) : Int)]) rfl ?_
          refine M.ishl (b1 := 1) (b2 := i) rfl (by omega) ?_
          refine M.ior (b1 := v) (b2 := 1 <<< i) rfl (by omega) (by omega) ?_
          refine M.run 3 (pc' := 4) (lv' := [some (vr kb), some (vi ((v ||| (1 <<< i) : Nat) : Int)), some (vi (((i : Nat) : Int) + 1))]) (st' := []) rfl ?_
          exact ih4 (v ||| (1 <<< i)) (i + 1) w7 hE5 hK5 hs (by rw [hv]; exact (mOrs_y (p := (fun t => mAll (whoP X tl D t) (tl 4).toNat)) (k := i) h27).symm) (by omega) (by omega)
  exact Lp4 _ 0 0 w hP.1 hP.2 (Sok_mono (by omega) hs) rfl (Nat.zero_le _) (Nat.lt_succ_self _)
set_option maxHeartbeats 4000000 in
theorem kX10_commonDivisor (l : Launch) (G : GT) (x y : Nat) (hx : x ≤ 1000000000000000000) (hy : y ≤ 1000000000000000000) : Ctr l G yX10_commonDivisor cX10_commonDivisor 11 ((Option.some Jvm.ClassFile.FieldType.long)) 1 0 0 [vl ((x : Nat) : Int), vl ((y : Nat) : Int)] (fun w => True) (fun w r w' => r = some (vl ((Nat.gcd x y : Nat) : Int)) ∧ w' = w) := by
  refine Ctr.of (t := tX10_commonDivisor) (lv0 := [some (vl ((x : Nat) : Int)), none, some (vl ((y : Nat) : Int)), none, none, none, none, none, none, none, none]) (by decide +kernel) tX10_commonDivisor_ok rfl rfl (fun w g hP M => ?_)
  refine M.run 6 (pc' := 9) (lv' := [some (vl ((x : Nat) : Int)), none, some (vl ((y : Nat) : Int)), none, some (vl ((x : Nat) : Int)), none, some (vl ((y : Nat) : Int)), none, some (vi 0), none, none]) (st' := []) rfl ?_
  have Lp9 : ∀ (N : Nat) (p : Nat) (q : Nat) (i : Nat), (Nat.gcd p q = Nat.gcd x y) → (cdP i p q) → 121 - i < N → g 0 0 w 9 [some (vl ((x : Nat) : Int)), none, some (vl ((y : Nat) : Int)), none, some (vl ((p : Nat) : Int)), none, some (vl ((q : Nat) : Int)), none, some (vi ((i : Nat) : Int)), none, none] [] := by
    intro N
    induction N with
    | zero => intro p q i _ _ hN; exact absurd hN (Nat.not_lt_zero _)
    | succ N ih9 =>
      intro p q i hg hc hN
      refine M.run 1 (pc' := 11) (lv' := [some (vl ((x : Nat) : Int)), none, some (vl ((y : Nat) : Int)), none, some (vl ((p : Nat) : Int)), none, some (vl ((q : Nat) : Int)), none, some (vi ((i : Nat) : Int)), none, none]) (st' := [vi ((i : Nat) : Int)]) rfl ?_
      have hc1 := hc.1
      have hc2 := hc.2.1
      have hc3 := hc.2.2.1
      refine M.run 1 (pc' := 14) (lv' := [some (vl ((x : Nat) : Int)), none, some (vl ((y : Nat) : Int)), none, some (vl ((p : Nat) : Int)), none, some (vl ((q : Nat) : Int)), none, some (vi ((i : Nat) : Int)), none, none]) (st' := [vi 200, vi ((i : Nat) : Int)]) rfl ?_
      refine M.icmp_ge (tgt := 48) rfl (qI (by omega)) (qI (by decide)) (by decide) (fun h14 => ?_) (fun h14 => ?_)
      · skip
        omega
      · skip
        refine M.run 2 (pc' := 20) (lv' := [some (vl ((x : Nat) : Int)), none, some (vl ((y : Nat) : Int)), none, some (vl ((p : Nat) : Int)), none, some (vl ((q : Nat) : Int)), none, some (vi ((i : Nat) : Int)), none, none]) (st' := [vl 0, vl ((p : Nat) : Int)]) rfl ?_
        refine M.lcmp rfl (qL (by omega)) (qL (by decide)) ?_
        refine M.if_ne (tgt := 27) rfl (qI (by omega)) (by decide) (fun h21 => ?_) (fun h21 => ?_)
        · skip
          replace h21 := lc_ne_t h21
          have hp0 : p ≠ 0 := fun q => by subst q; exact h21 rfl
          have hcs := cd_s hc hp0
          have hcl := hcs.2.2.1
          refine M.run 2 (pc' := 31) (lv' := [some (vl ((x : Nat) : Int)), none, some (vl ((y : Nat) : Int)), none, some (vl ((p : Nat) : Int)), none, some (vl ((q : Nat) : Int)), none, some (vi ((i : Nat) : Int)), none, none]) (st' := [vl ((p : Nat) : Int), vl ((q : Nat) : Int)]) rfl ?_
          refine M.lrem rfl (qL (by omega)) (qL (by omega)) (fun q => hp0 (by omega)) ?_
          rw [show ((q : Nat) : Int).tmod ((p : Nat) : Int) = ((q % p : Nat) : Int) from by rw [Int.tmod_eq_emod_of_nonneg (by omega)]; rfl]
          refine M.run 7 (pc' := 9) (lv' := [some (vl ((x : Nat) : Int)), none, some (vl ((y : Nat) : Int)), none, some (vl ((q % p : Nat) : Int)), none, some (vl ((p : Nat) : Int)), none, some (vi (((i : Nat) : Int) + 1)), some (vl ((q % p : Nat) : Int)), none]) (st' := []) rfl ?_
          refine M.fgt [false, false, false, false, false, false, false, false, false, true, false] ?_
          exact ih9 (q % p) p (i + 1) (gcd_r.trans hg) hcs (by omega)
        · skip
          replace h21 := lc_ne_f h21
          refine M.run 1 (pc' := 26) (lv' := [some (vl ((x : Nat) : Int)), none, some (vl ((y : Nat) : Int)), none, some (vl ((p : Nat) : Int)), none, some (vl ((q : Nat) : Int)), none, some (vi ((i : Nat) : Int)), none, none]) (st' := [vl ((q : Nat) : Int)]) rfl ?_
          exact M.lret rfl (Nat.zero_le _) (Nat.zero_le _) ⟨reL (by rw [show p = 0 by omega, Nat.gcd_zero_left] at hg; rw [hg]), rfl⟩
  exact Lp9 _ x y 0 rfl ⟨hx, hy, by decide, fun q => absurd q (by decide)⟩ (Nat.lt_succ_self _)
