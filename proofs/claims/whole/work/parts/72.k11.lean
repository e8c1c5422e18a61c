theorem td_N {x k : Nat} : ((x : Nat) : Int).tdiv ((k : Nat) : Int) = ((x / k : Nat) : Int) := by rw [Int.tdiv_eq_ediv_of_nonneg (by omega)]; rfl
section QK11
variable {G : GT} {hb : Nat} {A T : Nat → Nat} {tl fx : Nat → Int} {X : Nat → Int → Option Gn} {cl : Nat → Int} {dr : Int} {D : Dy} {w : Wo} {n sure : Int}
theorem isEn_x {v : Int} (h : isEn G hb A T tl fx X cl dr D w) : isEn G hb A T tl fx X cl dr (mS 19 v D) (up w (A 0) (Ob 5 ([vi (D.1 18), vi (D.1 20), vi (D.1 19), vi (D.1 21), vi (D.1 22), vr (A 1), vr (A 3), vr (A 5), vr (A 7), vr (A 9), vr (A 11)].set 2 (vi v)))) ∧ FrE A w (up w (A 0) (Ob 5 ([vi (D.1 18), vi (D.1 20), vi (D.1 19), vi (D.1 21), vi (D.1 22), vr (A 1), vr (A 3), vr (A 5), vr (A 7), vr (A 9), vr (A 11)].set 2 (vi v)))) := isEn_S h ⟨st_n (isS2_num2 h.1) (by decide) (fun _ _ _ => rfl), FrS.rf.u0⟩
theorem isEn_d {v : Int} (h : isEn G hb A T tl fx X cl dr D w) : isEn G hb A T tl fx X cl v D (up w (A 13) (Ob 0 [vr (T 0), vr (A 0), vr (A 14), vi v])) ∧ FrE A w (up w (A 13) (Ob 0 [vr (T 0), vr (A 0), vr (A 14), vi v])) := by
  obtain ⟨h1, h2, h3, h4, h5, h6, h7, h8⟩ := h
  have ne : ∀ i : Nat, i < 16 → i ≠ 13 → A i ≠ A 13 := fun i hi h e => h (h6 i 13 hi (by decide) e)
  exact ⟨⟨isS2_e h1 (fun i hi => lk_up_n (ne i (by omega) (by omega))), isTo_fr h2 (fun j hj => lk_up_n (fun e => h7 13 j (by decide) hj e.symm)), lk_up_s h3, lw_fr h4 (lk_up_n (ne 14 (by decide) (by decide))) (lk_up_n (ne 15 (by decide) (by decide))), isTs_fr h5 (fun b hb2 => lk_up_n (fun e => by have := h8 13 (by decide); omega)), h6, h7, h8⟩, fun a ha => lk_up_n (ha 13 (by decide))⟩
theorem Sok_hap {x : Nat} (hT : Tok tl) (hs : Sok n tl D) : Sok (n + 110) tl (mHap X tl sure x D) := by
  unfold mHap
  split
  · split
    · next q => exact Sok_mono (by omega) (Sok_open hT (by omega) q.1.2 hs)
    · exact Sok_mono (by omega) hs
  · split
    · split
      · next q => exact Sok_mono (by omega) (Sok_cancel (by omega) (by omega) q.2.2 hs)
      · exact Sok_mono (by omega) hs
    · split
      · next q => exact Sok_tick hT hs q
      · exact Sok_mono (by omega) hs
theorem mFore_stay {k : Nat} (h : ¬ D.1 18 < 9999) : mFore X tl sure k D = D := by
  induction k with
  | zero => rfl
  | succ k ih =>
    show mFore X tl sure k (if D.1 18 < 9999 then mTick X tl sure D else D) = D
    rw [if_neg h]
    exact ih
end QK11

set_option maxHeartbeats 4000000 in
set_option maxRecDepth 100000 in
theorem kX10_drawYear (l : Launch) (G : GT) (kb : Nat) (tl fx fx2 : Nat → Int) (X : Nat → Int → Option Gn) (cl : Nat → Int) (D : Dy) (L : List Dy) (tl2 : Nat → Int) (D2 : Dy) (L2 : List Dy) (tp : Nat → Int) (nt fs fp : Int) (hT : Tok tl) (n : Int) (hs : Sok n tl D) (hn : n ≤ 1400000000) (hZ : Tz tl) (hru : -1 ≤ tl 2 ∧ tl 2 < tl 1)  : Ctr l G yX10_drawYear cX10_drawYear 4 ((Option.none : Option Jvm.ClassFile.FieldType)) 8 0 0 [vr kb] (fun w => isEn G (kb + 850) (aA kb) (tz (kb + 1)) tl fx X cl 1 D w ∧ isKr kb fx fx2 L tl2 D2 L2 tp nt fs fp w) (fun w r w' => r = none ∧ isEn G (kb + 850) (aA kb) (tz (kb + 1)) tl fx X cl 1 (mHap X tl 0 (D.1 19).toNat (mAnew D)) w' ∧ isKr kb fx fx2 L tl2 D2 L2 tp nt fs fp w') := by
  refine Ctr.of (t := tX10_drawYear) (lv0 := [some (vr kb), none, none, none]) (by decide +kernel) tX10_drawYear_ok rfl rfl (fun w g hP M => ?_)
  have hd := hs.1
  have hi := hs.2.1
  have h9 := hs.2.2.1
  have hJ := hs.2.2.2.1
  have hz0 := hs.2.2.2.2
  have hdr : (1 : Int) = 0 ∨ (1 : Int) = 1 := Or.inr rfl
  obtain ⟨x, hx⟩ := Int.eq_ofNat_of_zero_le (Dok_x hd).1
  have hx9 := Dok_x hd
  have hxt : (D.1 19).toNat = x := by rw [hx]; rfl
  have hsA := Sok_anew hs
  have hA18 : (mAnew D).1 18 = D.1 18 := mAn_18
  have hckA := Dok_clk hsA.1
  refine M.run 1 (pc' := 1) (lv' := [some (vr kb), none, none, none]) (st' := [vr kb]) rfl ?_
  refine M.get fl_X10_28 rfl (hP.2.1) (kf := 3) (v := vr ((aA kb) 0)) rfl ?_
  refine M.get fl_X10_173 rfl hP.1.1.1 (kf := 2) (v := vi (D.1 19)) rfl ?_
  rw [hx]
  refine M.run 2 (pc' := 9) (lv' := [some (vr kb), some (vi ((x : Nat) : Int)), none, none]) (st' := [vr kb]) rfl ?_
  refine M.get fl_X10_28 rfl (hP.2.1) (kf := 3) (v := vr ((aA kb) 0)) rfl ?_
  refine M.callV (qS_stir l G (kb + 850) (aA kb) (tz (kb + 1)) tl fx X cl 1 D ⟨by omega, by omega⟩) cv_X10_179 cd_X6_stir rfl (st := []) rfl hP.1.1.1 (by decide) (by decide) rfl (Nat.zero_le _) (Nat.zero_le _) hP.1 (fun r3 w4 q5 => ?_)
  obtain ⟨q5r, q5e, q5f⟩ := q5
  rw [q5r]
  have hE1 : isEn G (kb + 850) (aA kb) (tz (kb + 1)) tl fx X cl 1 (mAnew D) w4 := q5e
  have hK2 : isKr kb fx fx2 L tl2 D2 L2 tp nt fs fp w4 := kr_E hP.2 q5f
  have hd7 : Dok n (mAnew D) := hsA.1
  have hJ7 : Jok (mAnew D) := hsA.2.2.2.1
  refine M.run 2 (pc' := 18) (lv' := [some (vr kb), some (vi ((x : Nat) : Int)), none, none]) (st' := [vi 8, vi ((x : Nat) : Int)]) rfl ?_
  refine M.idiv rfl (qI (by omega)) (qI (by decide)) (by omega) ?_
  rw [show ((x : Nat) : Int).tdiv 8 = ((x / 8 : Nat) : Int) from td_N]
  refine M.run 1 (pc' := 20) (lv' := [some (vr kb), some (vi ((x : Nat) : Int)), none, none]) (st' := [vi 3, vi ((x / 8 : Nat) : Int)]) rfl ?_
  refine M.irem rfl (qI (by omega)) (qI (by decide)) (by omega) ?_
  rw [nm3]
  refine M.run 3 (pc' := 25) (lv' := [some (vr kb), some (vi ((x : Nat) : Int)), some (vi ((x / 8 % 3 : Nat) : Int)), none]) (st' := [vi 16, vi ((x : Nat) : Int)]) rfl ?_
  refine M.idiv rfl (qI (by omega)) (qI (by decide)) (by omega) ?_
  rw [show ((x : Nat) : Int).tdiv 16 = ((x / 16 : Nat) : Int) from td_N]
  refine M.run 1 (pc' := 27) (lv' := [some (vr kb), some (vi ((x : Nat) : Int)), some (vi ((x / 8 % 3 : Nat) : Int)), none]) (st' := [vi 2, vi ((x / 16 : Nat) : Int)]) rfl ?_
  refine M.irem rfl (qI (by omega)) (qI (by decide)) (by omega) ?_
  rw [nm2]
  refine M.run 3 (pc' := 32) (lv' := [some (vr kb), some (vi ((x : Nat) : Int)), some (vi ((x / 8 % 3 : Nat) : Int)), some (vi ((x / 16 % 2 : Nat) : Int))]) (st' := [vi 8, vi ((x : Nat) : Int)]) rfl ?_
  refine M.irem rfl (qI (by omega)) (qI (by decide)) (by omega) ?_
  rw [nm8]
  by_cases hs33_0 : ((x % 8 : Nat) : Int) = 0
  · refine M.lsw (tgt := 60) (off := 27) rfl (qI (by omega)) (by decide) (by rw [hs33_0]; rfl) (by decide) ?_
    have h8a : x % 8 = 0 := by omega
    refine M.run 2 (pc' := 62) (lv' := [some (vr kb), some (vi ((x : Nat) : Int)), some (vi ((x / 8 % 3 : Nat) : Int)), some (vi ((x / 16 % 2 : Nat) : Int))]) (st' := [vi ((x / 8 % 3 : Nat) : Int), vr kb]) rfl ?_
    refine M.callV (kX10_isNew l G kb tl fx fx2 X cl (mAnew D) L tl2 D2 L2 tp nt fs fp hT n hd7 (by omega) hJ7 hsA.2.1 hsA.2.2.1 hZ hru ((x / 8 % 3 : Nat) : Int) (by omega)) cv_X10_115 cd_X10_isNew rfl (st := []) rfl (hK2.1) (by decide) (by decide) rfl (Nat.zero_le _) (Nat.zero_le _) ⟨hE1, hK2⟩ (fun r8 w9 q10 => ?_)
    rw [q10.1, q10.2]
    refine M.if_eq (tgt := 130) rfl (inI_zb _) (by decide) (fun h65 => ?_) (fun h65 => ?_)
    · skip
      replace h65 := zb_fd h65
      exact M.vret rfl (Nat.zero_le _) (Nat.zero_le _) ⟨rfl, (by rw [hxt]; unfold mHap; rw [if_pos h8a, if_neg h65]; exact hE1), hK2⟩
    · skip
      replace h65 := zb_td h65
      have h0 : (mAnew D).1 (28 + x / 8 % 3) = 0 := h65.2
      refine M.run 1 (pc' := 69) (lv' := [some (vr kb), some (vi ((x : Nat) : Int)), some (vi ((x / 8 % 3 : Nat) : Int)), some (vi ((x / 16 % 2 : Nat) : Int))]) (st' := [vr kb]) rfl ?_
      refine M.get fl_X10_34 rfl (hK2.1) (kf := 4) (v := vr ((aA kb) 13)) rfl ?_
      refine M.run 1 (pc' := 73) (lv' := [some (vr kb), some (vi ((x : Nat) : Int)), some (vi ((x / 8 % 3 : Nat) : Int)), some (vi ((x / 16 % 2 : Nat) : Int))]) (st' := [vi ((x / 8 % 3 : Nat) : Int), vr ((aA kb) 13)]) rfl ?_
      refine M.callV (nX1_openBlock l G (kb + 850) (aA kb) (tz (kb + 1)) tl fx X cl 1 (mAnew D) hT n hd7 (by omega) hJ7 (x / 8 % 3) (by omega) h65.1.2 h0) cv_X10_122 cd_X1_openBlock rfl (st := []) rfl hE1.2.2.1 (by decide) (by decide) rfl (Nat.zero_le _) (Nat.zero_le _) hE1 (fun r14 w15 q16 => ?_)
      obtain ⟨q16r, q16e, q16f⟩ := q16
      rw [q16r]
      have hE12 : isEn G (kb + 850) (aA kb) (tz (kb + 1)) tl fx X cl 1 (mOpen tl (x / 8 % 3) (mAnew D)) w15 := q16e
      have hK13 : isKr kb fx fx2 L tl2 D2 L2 tp nt fs fp w15 := kr_E hK2 q16f
      refine M.run 2 (pc' := 130) (lv' := [some (vr kb), some (vi ((x : Nat) : Int)), some (vi ((x / 8 % 3 : Nat) : Int)), some (vi ((x / 16 % 2 : Nat) : Int))]) (st' := []) rfl ?_
      exact M.vret rfl (Nat.zero_le _) (Nat.zero_le _) ⟨rfl, (by rw [hxt]; unfold mHap; rw [if_pos h8a, if_pos h65]; exact hE12), hK13⟩
  by_cases hs33_1 : ((x % 8 : Nat) : Int) = 1
  · refine M.lsw (tgt := 80) (off := 47) rfl (qI (by omega)) (by decide) (by rw [hs33_1]; rfl) (by decide) ?_
    have h8b : ¬ x % 8 = 0 := by omega
    have h8a : x % 8 = 1 := by omega
    refine M.run 2 (pc' := 82) (lv' := [some (vr kb), some (vi ((x : Nat) : Int)), some (vi ((x / 8 % 3 : Nat) : Int)), some (vi ((x / 16 % 2 : Nat) : Int))]) (st' := [vi 3, vi ((x : Nat) : Int)]) rfl ?_
    refine M.irem rfl (qI (by omega)) (qI (by decide)) (by omega) ?_
    rw [nm3]
    refine M.if_ne (tgt := 130) rfl (qI (by omega)) (by decide) (fun h83 => ?_) (fun h83 => ?_)
    · skip
      have h83n : ¬ x % 3 = 0 := fun z => h83 (congrArg (fun q : Nat => (q : Int)) z)
      exact M.vret rfl (Nat.zero_le _) (Nat.zero_le _) ⟨rfl, (by rw [hxt]; unfold mHap; rw [if_neg h8b, if_pos h8a, if_neg (fun q => h83n q.1)]; exact hE1), hK2⟩
    · skip
      have h83n : x % 3 = 0 := Int.ofNat.inj h83
      refine M.run 1 (pc' := 87) (lv' := [some (vr kb), some (vi ((x : Nat) : Int)), some (vi ((x / 8 % 3 : Nat) : Int)), some (vi ((x / 16 % 2 : Nat) : Int))]) (st' := [vr kb]) rfl ?_
      refine M.get fl_X10_34 rfl (hK2.1) (kf := 4) (v := vr ((aA kb) 13)) rfl ?_
      refine M.run 2 (pc' := 92) (lv' := [some (vr kb), some (vi ((x : Nat) : Int)), some (vi ((x / 8 % 3 : Nat) : Int)), some (vi ((x / 16 % 2 : Nat) : Int))]) (st' := [vi ((x / 16 % 2 : Nat) : Int), vi ((x / 8 % 3 : Nat) : Int), vr ((aA kb) 13)]) rfl ?_
      refine M.callV (nX1_canCancel l G (kb + 850) (aA kb) (tz (kb + 1)) tl fx X cl 1 (mAnew D) hT n hd7 (by omega) hJ7 (x / 8 % 3) (by omega) (x / 16 % 2) (by omega)) cv_X10_126 cd_X1_canCancel rfl (st := []) rfl hE1.2.2.1 (by decide) (by decide) rfl (Nat.zero_le _) (Nat.zero_le _) hE1 (fun r18 w19 q20 => ?_)
      rw [q20.1, q20.2]
      refine M.if_eq (tgt := 130) rfl (inI_zb _) (by decide) (fun h95 => ?_) (fun h95 => ?_)
      · skip
        replace h95 := zb_fd h95
        exact M.vret rfl (Nat.zero_le _) (Nat.zero_le _) ⟨rfl, (by rw [hxt]; unfold mHap; rw [if_neg h8b, if_pos h8a, if_neg (fun q => h95 q.2.2)]; exact hE1), hK2⟩
      · skip
        replace h95 := zb_td h95
        have hbl : ((x / 8 % 3 : Nat) : Int) < tl 0 := by by_cases z : tl 0 ≤ ((x / 8 % 3 : Nat) : Int); have := hsA.2.2.2.2 (x / 8 % 3) (by omega) z; have := h95.1; omega; omega
        refine M.run 1 (pc' := 99) (lv' := [some (vr kb), some (vi ((x : Nat) : Int)), some (vi ((x / 8 % 3 : Nat) : Int)), some (vi ((x / 16 % 2 : Nat) : Int))]) (st' := [vr kb]) rfl ?_
        refine M.get fl_X10_34 rfl (hK2.1) (kf := 4) (v := vr ((aA kb) 13)) rfl ?_
        refine M.run 2 (pc' := 104) (lv' := [some (vr kb), some (vi ((x : Nat) : Int)), some (vi ((x / 8 % 3 : Nat) : Int)), some (vi ((x / 16 % 2 : Nat) : Int))]) (st' := [vi ((x / 16 % 2 : Nat) : Int), vi ((x / 8 % 3 : Nat) : Int), vr ((aA kb) 13)]) rfl ?_
        refine M.callV (nX1_cancelBy l G (kb + 850) (aA kb) (tz (kb + 1)) tl fx X cl 1 (mAnew D) hT n hd7 (by omega) hJ7 (x / 8 % 3) (by omega) (x / 16 % 2) (by omega)) cv_X10_130 cd_X1_cancelBy rfl (st := []) rfl hE1.2.2.1 (by decide) (by decide) rfl (Nat.zero_le _) (Nat.zero_le _) hE1 (fun r24 w25 q26 => ?_)
        obtain ⟨q26r, q26e, q26f⟩ := q26
        rw [q26r]
        have hE22 : isEn G (kb + 850) (aA kb) (tz (kb + 1)) tl fx X cl 1 (mCancel (x / 8 % 3) (x / 16 % 2) (mAnew D)) w25 := q26e
        have hK23 : isKr kb fx fx2 L tl2 D2 L2 tp nt fs fp w25 := kr_E hK2 q26f
        refine M.run 1 (pc' := 130) (lv' := [some (vr kb), some (vi ((x : Nat) : Int)), some (vi ((x / 8 % 3 : Nat) : Int)), some (vi ((x / 16 % 2 : Nat) : Int))]) (st' := []) rfl ?_
        exact M.vret rfl (Nat.zero_le _) (Nat.zero_le _) ⟨rfl, (by rw [hxt]; unfold mHap; rw [if_neg h8b, if_pos h8a, if_pos ⟨h83n, hbl, h95⟩]; exact hE22), hK23⟩
  refine M.lsw (tgt := 110) (off := 77) rfl (qI (by omega)) (by decide) (by rw [Op.lookupswitch.offset_cons, if_neg (fun q => hs33_0 q.symm), Op.lookupswitch.offset_cons, if_neg (fun q => hs33_1 q.symm)]; rfl) (by decide) ?_
  have h8b : ¬ x % 8 = 0 := by omega
  have h8c : ¬ x % 8 = 1 := by omega
  refine M.run 1 (pc' := 111) (lv' := [some (vr kb), some (vi ((x : Nat) : Int)), some (vi ((x / 8 % 3 : Nat) : Int)), some (vi ((x / 16 % 2 : Nat) : Int))]) (st' := [vr kb]) rfl ?_
  refine M.get fl_X10_28 rfl (hK2.1) (kf := 3) (v := vr ((aA kb) 0)) rfl ?_
  refine M.get fl_X10_134 rfl hE1.1.1 (kf := 0) (v := vi ((mAnew D).1 18)) rfl ?_
  refine M.run 1 (pc' := 120) (lv' := [some (vr kb), some (vi ((x : Nat) : Int)), some (vi ((x / 8 % 3 : Nat) : Int)), some (vi ((x / 16 % 2 : Nat) : Int))]) (st' := [vi 9999, vi ((mAnew D).1 18)]) rfl ?_
  refine M.icmp_ge (tgt := 130) rfl (qI (by omega)) (qI (by decide)) (by decide) (fun h120 => ?_) (fun h120 => ?_)
  · skip
    exact M.vret rfl (Nat.zero_le _) (Nat.zero_le _) ⟨rfl, (by rw [hxt]; unfold mHap; rw [if_neg h8b, if_neg h8c, if_neg (show ¬ (mAnew D).1 18 < 9999 by rw [mAn_18]; omega)]; exact hE1), hK2⟩
  · skip
    refine M.run 1 (pc' := 124) (lv' := [some (vr kb), some (vi ((x : Nat) : Int)), some (vi ((x / 8 % 3 : Nat) : Int)), some (vi ((x / 16 % 2 : Nat) : Int))]) (st' := [vr kb]) rfl ?_
    refine M.get fl_X10_34 rfl (hK2.1) (kf := 4) (v := vr ((aA kb) 13)) rfl ?_
    refine M.callV (nX1_tick l G (kb + 850) (aA kb) (tz (kb + 1)) tl fx X cl 1 (mAnew D) hT n hd7 (by omega) hJ7 hZ hru hdr (Inv_38 hsA.2.1) (by have q1 := hsA.2.1.1; omega)) cv_X10_143 cd_X1_tick rfl (st := []) rfl hE1.2.2.1 (by decide) (by decide) rfl (Nat.zero_le _) (Nat.zero_le _) hE1 (fun r30 w31 q32 => ?_)
    obtain ⟨q32r, q32e, q32f⟩ := q32
    rw [q32r]
    have hE28 : isEn G (kb + 850) (aA kb) (tz (kb + 1)) tl fx X cl 1 (mTick X tl 0 (mAnew D)) w31 := q32e
    have hK29 : isKr kb fx fx2 L tl2 D2 L2 tp nt fs fp w31 := kr_E hK2 q32f
    exact M.vret rfl (Nat.zero_le _) (Nat.zero_le _) ⟨rfl, (by rw [hxt]; unfold mHap; rw [if_neg h8b, if_neg h8c, if_pos (show (mAnew D).1 18 < 9999 by rw [mAn_18]; omega)]; exact hE28), hK29⟩
set_option maxHeartbeats 4000000 in
set_option maxRecDepth 100000 in
theorem kX10_years (l : Launch) (G : GT) (kb : Nat) (tl fx fx2 : Nat → Int) (X : Nat → Int → Option Gn) (cl : Nat → Int) (D : Dy) (L : List Dy) (tl2 : Nat → Int) (D2 : Dy) (L2 : List Dy) (tp : Nat → Int) (nt fs fp : Int) (hT : Tok tl) (n : Int) (hs : Sok n tl D) (hn : n ≤ 1300000000) (hZ : Tz tl) (hru : -1 ≤ tl 2 ∧ tl 2 < tl 1) (x : Int) (y : Int) (hx : -2147483648 ≤ x ∧ x ≤ 2147483647) (hy : -2147483648 ≤ y ∧ y ≤ 2147483647)  : Ctr l G yX10_years cX10_years 4 ((Option.some Jvm.ClassFile.FieldType.int)) 9 0 0 [vr kb, vi x, vi y] (fun w => isEn G (kb + 850) (aA kb) (tz (kb + 1)) tl fx X cl 1 D w ∧ isKr kb fx fx2 L tl2 D2 L2 tp nt fs fp w) (fun w r w' => r = some (vi (if yrC x y then (sYears X 0 x y (tl, D, L)).2.1.1 18 else -1)) ∧ isK G kb fx fx2 X cl (sYears X 0 x y (tl, D, L)) tl2 D2 L2 tp nt fs fp w') := by
  refine Ctr.of (t := tX10_years) (lv0 := [some (vr kb), some (vi x), some (vi y), none]) (by decide +kernel) tX10_years_ok rfl rfl (fun w g hP M => ?_)
  have hd := hs.1
  have hi := hs.2.1
  have h9 := hs.2.2.1
  have hJ := hs.2.2.2.1
  have hz0 := hs.2.2.2.2
  have hdr : (1 : Int) = 0 ∨ (1 : Int) = 1 := Or.inr rfl
  refine M.run 1 (pc' := 1) (lv' := [some (vr kb), some (vi x), some (vi y), none]) (st' := [vi x]) rfl ?_
  refine M.if_lt (tgt := 22) rfl (qI (by omega)) (by decide) (fun h1 => ?_) (fun h1 => ?_)
  · skip
    refine M.run 1 (pc' := 23) (lv' := [some (vr kb), some (vi x), some (vi y), none]) (st' := [vi (-1)]) rfl ?_
    exact M.iret rfl (Nat.zero_le _) (Nat.zero_le _) ⟨reI (if_neg (by omega)).symm, (by unfold sYears; rw [if_neg (by omega)]; exact ⟨hP.1, hP.2⟩)⟩
  · skip
    refine M.run 2 (pc' := 8) (lv' := [some (vr kb), some (vi x), some (vi y), none]) (st' := [vi 9999, vi x]) rfl ?_
    refine M.icmp_gt (tgt := 22) rfl (qI (by omega)) (qI (by decide)) (by decide) (fun h8 => ?_) (fun h8 => ?_)
    · skip
      refine M.run 1 (pc' := 23) (lv' := [some (vr kb), some (vi x), some (vi y), none]) (st' := [vi (-1)]) rfl ?_
      exact M.iret rfl (Nat.zero_le _) (Nat.zero_le _) ⟨reI (if_neg (by omega)).symm, (by unfold sYears; rw [if_neg (by omega)]; exact ⟨hP.1, hP.2⟩)⟩
    · skip
      refine M.run 2 (pc' := 13) (lv' := [some (vr kb), some (vi x), some (vi y), none]) (st' := [vi 1, vi y]) rfl ?_
      refine M.icmp_lt (tgt := 22) rfl (qI (by omega)) (qI (by decide)) (by decide) (fun h13 => ?_) (fun h13 => ?_)
      · skip
        refine M.run 1 (pc' := 23) (lv' := [some (vr kb), some (vi x), some (vi y), none]) (st' := [vi (-1)]) rfl ?_
        exact M.iret rfl (Nat.zero_le _) (Nat.zero_le _) ⟨reI (if_neg (by omega)).symm, (by unfold sYears; rw [if_neg (by omega)]; exact ⟨hP.1, hP.2⟩)⟩
      · skip
        refine M.run 2 (pc' := 19) (lv' := [some (vr kb), some (vi x), some (vi y), none]) (st' := [vi 40, vi y]) rfl ?_
        refine M.icmp_le (tgt := 24) rfl (qI (by omega)) (qI (by decide)) (by decide) (fun h19 => ?_) (fun h19 => ?_)
        · skip
          obtain ⟨m, rfl⟩ := Int.eq_ofNat_of_zero_le (show (0 : Int) ≤ y from (by omega))
          refine M.run 1 (pc' := 25) (lv' := [some (vr kb), some (vi x), some (vi ((m : Nat) : Int)), none]) (st' := [vr kb]) rfl ?_
          refine M.get fl_X10_12 rfl (hP.2.1) (kf := 0) (v := vr (kb + 1)) rfl ?_
          obtain ⟨_, _, _, _, hsg1, _⟩ := hP.2.2.1
          refine M.callV (mK_rem l G kb tl fx fx2 X cl D L tl2 D2 L2 tp nt fs fp) cv_X10_119 cd_X5_remember rfl (st := []) rfl hsg1.1 (by decide) (by decide) rfl (Nat.zero_le _) (Nat.zero_le _) ⟨hP.1, hP.2⟩ (fun r3 w4 q5 => ?_)
          obtain ⟨q5r, hE2, hK2⟩ := q5
          rw [q5r]
          refine M.run 1 (pc' := 32) (lv' := [some (vr kb), some (vi x), some (vi ((m : Nat) : Int)), none]) (st' := [vr kb]) rfl ?_
          refine M.get fl_X10_28 rfl (hK2.1) (kf := 3) (v := vr ((aA kb) 0)) rfl ?_
          refine M.run 5 (pc' := 42) (lv' := [some (vr kb), some (vi x), some (vi ((m : Nat) : Int)), none]) (st' := [vi ((x * 2) + 491), vr ((aA kb) 0)]) rfl ?_
          refine M.put fl_X10_173 rfl (hE2.1.1) rfl rfl (Nat.le_of_ble_eq_true rfl) ?_
          obtain ⟨hE7, hFf7⟩ := isEn_x (v := (x * 2) + 491) hE2
          have hK7 := kr_E hK2 hFf7
          generalize up w4 ((aA kb) 0) (Ob 5 ([vi (D.1 18), vi (D.1 20), vi (D.1 19), vi (D.1 21), vi (D.1 22), vr ((aA kb) 1), vr ((aA kb) 3), vr ((aA kb) 5), vr ((aA kb) 7), vr ((aA kb) 9), vr ((aA kb) 11)].set 2 (vi ((x * 2) + 491)))) = w7 at hE7 hK7 hFf7 ⊢
          have hs0 : Sok n tl (mS 19 (x * 2 + 491) D) := ⟨Dok_S hd (fun _ _ _ => by show 0 ≤ x * 2 + 491 ∧ x * 2 + 491 ≤ 31090; omega), Inv_S (by decide) hi, (by rw [mS_o (by decide)]; exact h9), Kok_S (by decide) hs.2.2.2⟩
          refine M.run 2 (pc' := 47) (lv' := [some (vr kb), some (vi x), some (vi ((m : Nat) : Int)), some (vi 0)]) (st' := []) rfl ?_
          have Lp47 : ∀ (N : Nat) (i : Nat) (Dc : Dy) (wa : Wo), (isEn G (kb + 850) (aA kb) (tz (kb + 1)) tl fx X cl 1 Dc wa) → (isKr kb fx fx2 (pushL L D) tl2 D2 L2 tp nt fs fp wa) → (Sok (n + 110 * ((i : Nat) : Int)) tl Dc) → (i ≤ m) → (mYr X tl 0 m (mS 19 (x * 2 + 491) D) = mYr X tl 0 (m - i) Dc) → m - i < N → g 0 0 wa 47 [some (vr kb), some (vi x), some (vi ((m : Nat) : Int)), some (vi ((i : Nat) : Int))] [] := by
            intro N
            induction N with
            | zero => intro i Dc wa _ _ _ _ _ hN; exact absurd hN (Nat.not_lt_zero _)
            | succ N ih47 =>
              intro i Dc wa hEa hKa hsa hi2 hI hN
              refine M.run 2 (pc' := 49) (lv' := [some (vr kb), some (vi x), some (vi ((m : Nat) : Int)), some (vi ((i : Nat) : Int))]) (st' := [vi ((m : Nat) : Int), vi ((i : Nat) : Int)]) rfl ?_
              refine M.icmp_ge (tgt := 62) rfl (qI (by omega)) (qI (by omega)) (by decide) (fun h49 => ?_) (fun h49 => ?_)
              · skip
                refine M.run 1 (pc' := 63) (lv' := [some (vr kb), some (vi x), some (vi ((m : Nat) : Int)), some (vi ((i : Nat) : Int))]) (st' := [vr kb]) rfl ?_
                refine M.get fl_X10_28 rfl (hKa.1) (kf := 3) (v := vr ((aA kb) 0)) rfl ?_
                refine M.get fl_X10_134 rfl hEa.1.1 (kf := 0) (v := vi (Dc.1 18)) rfl ?_
                exact M.iret rfl (Nat.zero_le _) (Nat.zero_le _) ⟨reI (by rw [if_pos (by omega)]; unfold sYears; rw [if_pos (by omega)]; show Dc.1 18 = (mYr X tl 0 m (mS 19 (x * 2 + 491) D)).1 18; rw [hI, show m - i = 0 by omega]; rfl), (by unfold sYears; rw [if_pos (by omega)]; show isEn _ _ _ _ _ _ _ _ _ (mYr X tl 0 m (mS 19 (x * 2 + 491) D)) _ ∧ _; rw [hI, show m - i = 0 by omega]; exact ⟨hEa, hKa⟩)⟩
              · skip
                refine M.run 1 (pc' := 53) (lv' := [some (vr kb), some (vi x), some (vi ((m : Nat) : Int)), some (vi ((i : Nat) : Int))]) (st' := [vr kb]) rfl ?_
                refine M.callV (kX10_drawYear l G kb tl fx fx2 X cl Dc (pushL L D) tl2 D2 L2 tp nt fs fp hT (n + 110 * ((i : Nat) : Int)) hsa (by omega) hZ hru) cv_X10_176 cd_X10_drawYear rfl (st := []) rfl (hKa.1) (by decide) (by decide) rfl (Nat.zero_le _) (Nat.zero_le _) ⟨hEa, hKa⟩ (fun r9 w10 q11 => ?_)
                obtain ⟨q11r, hE8, hK8⟩ := q11
                rw [q11r]
                refine M.run 2 (pc' := 47) (lv' := [some (vr kb), some (vi x), some (vi ((m : Nat) : Int)), some (vi (((i : Nat) : Int) + 1))]) (st' := []) rfl ?_
                exact ih47 (i + 1) (mHap X tl 0 (Dc.1 19).toNat (mAnew Dc)) w10 hE8 hK8 (Sok_mono (by omega) (Sok_hap hT (Sok_anew hsa))) (by omega) (by rw [hI, mYr_s (by omega), show m - i - 1 = m - (i + 1) by omega]) (by omega)
          exact Lp47 _ 0 (mS 19 ((x * 2) + 491) D) w7 hE7 hK7 (Sok_mono (by omega) hs0) (Nat.zero_le _) rfl (Nat.lt_succ_self _)
        · skip
          refine M.run 1 (pc' := 23) (lv' := [some (vr kb), some (vi x), some (vi y), none]) (st' := [vi (-1)]) rfl ?_
          exact M.iret rfl (Nat.zero_le _) (Nat.zero_le _) ⟨reI (if_neg (by omega)).symm, (by unfold sYears; rw [if_neg (by omega)]; exact ⟨hP.1, hP.2⟩)⟩
