set_option maxHeartbeats 4000000 in
set_option maxRecDepth 100000 in
theorem nX1_canCancelO (l : Launch) (G : GT) (hb : Nat) (A T : Nat → Nat) (tl fx : Nat → Int) (X : Nat → Int → Option Gn) (cl : Nat → Int) (dr : Int) (D : Dy) (x : Int) (hx : -2147483648 ≤ x ∧ x ≤ 2147483647) (hx3 : x < 0 ∨ 3 ≤ x) (s : Nat) (hs : s < 2)  : Ctr l G yX1_canCancel cX1_canCancel 3 ((Option.some Jvm.ClassFile.FieldType.boolean)) 2 0 0 [vr (A 13), vi x, vi ((s : Nat) : Int)] (fun w => isEn G hb A T tl fx X cl dr D w) (fun w r w' => r = some (vi 0) ∧ w' = w) := by
  refine Ctr.of (t := tX1_canCancel) (lv0 := [some (vr (A 13)), some (vi x), some (vi ((s : Nat) : Int))]) (by decide +kernel) tX1_canCancel_ok rfl rfl (fun w g hP M => ?_)
  refine M.run 1 (pc' := 1) (lv' := [some (vr (A 13)), some (vi x), some (vi ((s : Nat) : Int))]) (st' := [vr (A 13)]) rfl ?_
  refine M.get fl_X1_15 rfl hP.2.2.1 (kf := 1) (v := vr (A 0)) rfl ?_
  refine M.get fl_X1_50 rfl hP.1.1 (kf := 5) (v := vr (A 1)) rfl ?_
  refine M.run 2 (pc' := 9) (lv' := [some (vr (A 13)), some (vi x), some (vi ((s : Nat) : Int))]) (st' := [vi 0, vi x, vr (A 1)]) rfl ?_
  refine M.callV (kX4_get7 l G (A 1) (A 2) 3 (by decide) (LR D 0) x 0 (by omega) (by omega)) cv_X1_88 cd_X4_get rfl (st := []) rfl (iS_b hP.1).1 (by decide) (by decide) rfl (Nat.zero_le _) (Nat.zero_le _) (iS_b hP.1) (fun r1 w2 q3 => ?_)
  rw [q3.1, q3.2, if_neg (fun q => by have q2 : x < ((3 : Nat) : Int) := q.1.2; omega)]
  refine M.run 1 (pc' := 13) (lv' := [some (vr (A 13)), some (vi x), some (vi ((s : Nat) : Int))]) (st' := [vi 1, vi (-2)]) rfl ?_
  refine M.icmp_eq (tgt := 18) rfl (qI (by decide)) (qI (by decide)) (by decide) (fun q => absurd q (by decide)) (fun _ => ?_)
  refine M.run 1 (pc' := 17) (lv' := [some (vr (A 13)), some (vi x), some (vi ((s : Nat) : Int))]) (st' := [vi 0]) rfl ?_
  exact M.zret rfl (Or.inl rfl) (Nat.zero_le _) (Nat.zero_le _) ⟨rfl, rfl⟩
set_option maxHeartbeats 4000000 in
set_option maxRecDepth 100000 in
theorem kX10_open (l : Launch) (G : GT) (kb : Nat) (tl fx fx2 : Nat → Int) (X : Nat → Int → Option Gn) (cl : Nat → Int) (D : Dy) (L : List Dy) (tl2 : Nat → Int) (D2 : Dy) (L2 : List Dy) (tp : Nat → Int) (nt fs fp : Int) (hT : Tok tl) (n : Int) (hs : Sok n tl D) (hn : n ≤ 1400000000) (hZ : Tz tl) (hru : -1 ≤ tl 2 ∧ tl 2 < tl 1) (x : Int) (hx : -2147483648 ≤ x ∧ x ≤ 2147483647)  : Ctr l G yX10_open cX10_open 2 ((Option.some Jvm.ClassFile.FieldType.int)) 6 0 0 [vr kb, vi x] (fun w => isEn G (kb + 850) (aA kb) (tz (kb + 1)) tl fx X cl 1 D w ∧ isKr kb fx fx2 L tl2 D2 L2 tp nt fs fp w) (fun w r w' => r = some (vi (if opC tl D x then ((((mOpen tl x.toNat D).2.1 0).length : Nat) : Int) - (((D.2.1 0).length : Nat) : Int) else -1)) ∧ isK G kb fx fx2 X cl (sOpen x (tl, D, L)) tl2 D2 L2 tp nt fs fp w') := by
  refine Ctr.of (t := tX10_open) (lv0 := [some (vr kb), some (vi x)]) (by decide +kernel) tX10_open_ok rfl rfl (fun w g hP M => ?_)
  have hd := hs.1
  have hi := hs.2.1
  have h9 := hs.2.2.1
  have hJ := hs.2.2.2.1
  have hz0 := hs.2.2.2.2
  have hdr : (1 : Int) = 0 ∨ (1 : Int) = 1 := Or.inr rfl
  have hk0 : 0 ≤ tl 0 ∧ tl 0 ≤ 3 := hT.1 0 (by decide)
  refine M.run 2 (pc' := 2) (lv' := [some (vr kb), some (vi x)]) (st' := [vi x, vr kb]) rfl ?_
  refine M.callV (kX10_isNew l G kb tl fx fx2 X cl D L tl2 D2 L2 tp nt fs fp hT n hd (by omega) hJ hi h9 hZ hru x (by omega)) cv_X10_115 cd_X10_isNew rfl (st := []) rfl (hP.2.1) (by decide) (by decide) rfl (Nat.zero_le _) (Nat.zero_le _) ⟨hP.1, hP.2⟩ (fun r1 w2 q3 => ?_)
  rw [q3.1, q3.2]
  refine M.if_ne (tgt := 10) rfl (inI_zb _) (by decide) (fun h5 => ?_) (fun h5 => ?_)
  · skip
    replace h5 := zb_td h5
    obtain ⟨c, rfl⟩ := Int.eq_ofNat_of_zero_le (show (0 : Int) ≤ x from (by omega))
    have hbt : ((c : Nat) : Int) < tl 0 := h5.1.2
    have h0 : D.1 (28 + c) = 0 := h5.2
    refine M.run 1 (pc' := 11) (lv' := [some (vr kb), some (vi ((c : Nat) : Int))]) (st' := [vr kb]) rfl ?_
    refine M.get fl_X10_12 rfl (hP.2.1) (kf := 0) (v := vr (kb + 1)) rfl ?_
    obtain ⟨_, _, _, _, hsg5, _⟩ := hP.2.2.1
    refine M.callV (mK_rem l G kb tl fx fx2 X cl D L tl2 D2 L2 tp nt fs fp) cv_X10_119 cd_X5_remember rfl (st := []) rfl hsg5.1 (by decide) (by decide) rfl (Nat.zero_le _) (Nat.zero_le _) ⟨hP.1, hP.2⟩ (fun r7 w8 q9 => ?_)
    obtain ⟨q9r, hE6, hK6⟩ := q9
    rw [q9r]
    refine M.run 1 (pc' := 18) (lv' := [some (vr kb), some (vi ((c : Nat) : Int))]) (st' := [vr kb]) rfl ?_
    refine M.get fl_X10_34 rfl (hK6.1) (kf := 4) (v := vr ((aA kb) 13)) rfl ?_
    refine M.run 1 (pc' := 22) (lv' := [some (vr kb), some (vi ((c : Nat) : Int))]) (st' := [vi ((c : Nat) : Int), vr ((aA kb) 13)]) rfl ?_
    refine M.callV (nX1_openBlock l G (kb + 850) (aA kb) (tz (kb + 1)) tl fx X cl 1 D hT n hd (by omega) hJ c (by omega) hbt h0) cv_X10_122 cd_X1_openBlock rfl (st := []) rfl hE6.2.2.1 (by decide) (by decide) rfl (Nat.zero_le _) (Nat.zero_le _) hE6 (fun r13 w14 q15 => ?_)
    obtain ⟨q15r, q15e, q15f⟩ := q15
    rw [q15r]
    have hE11 : isEn G (kb + 850) (aA kb) (tz (kb + 1)) tl fx X cl 1 (mOpen tl c D) w14 := q15e
    have hK12 : isKr kb fx fx2 (pushL L D) tl2 D2 L2 tp nt fs fp w14 := kr_E hK6 q15f
    exact M.iret rfl (Nat.zero_le _) (Nat.zero_le _) ⟨reI (if_pos h5).symm, (by unfold sOpen; rw [if_pos h5]; exact ⟨hE11, hK12⟩)⟩
  · skip
    replace h5 := zb_fd h5
    refine M.run 1 (pc' := 9) (lv' := [some (vr kb), some (vi x)]) (st' := [vi (-1)]) rfl ?_
    exact M.iret rfl (Nat.zero_le _) (Nat.zero_le _) ⟨reI (if_neg h5).symm, (by unfold sOpen; rw [if_neg h5]; exact ⟨hP.1, hP.2⟩)⟩
set_option maxHeartbeats 4000000 in
set_option maxRecDepth 100000 in
theorem kX10_cancel (l : Launch) (G : GT) (kb : Nat) (tl fx fx2 : Nat → Int) (X : Nat → Int → Option Gn) (cl : Nat → Int) (D : Dy) (L : List Dy) (tl2 : Nat → Int) (D2 : Dy) (L2 : List Dy) (tp : Nat → Int) (nt fs fp : Int) (hT : Tok tl) (n : Int) (hs : Sok n tl D) (hn : n ≤ 1400000000) (hZ : Tz tl) (hru : -1 ≤ tl 2 ∧ tl 2 < tl 1) (x : Int) (y : Int) (hx : -2147483648 ≤ x ∧ x ≤ 2147483647) (hy : -2147483648 ≤ y ∧ y ≤ 2147483647)  : Ctr l G yX10_cancel cX10_cancel 3 ((Option.some Jvm.ClassFile.FieldType.boolean)) 5 0 0 [vr kb, vi x, vi y] (fun w => isEn G (kb + 850) (aA kb) (tz (kb + 1)) tl fx X cl 1 D w ∧ isKr kb fx fx2 L tl2 D2 L2 tp nt fs fp w) (fun w r w' => r = some (vi (zb (decide (cnC tl D x y)))) ∧ isK G kb fx fx2 X cl (sCancel x y (tl, D, L)) tl2 D2 L2 tp nt fs fp w') := by
  refine Ctr.of (t := tX10_cancel) (lv0 := [some (vr kb), some (vi x), some (vi y)]) (by decide +kernel) tX10_cancel_ok rfl rfl (fun w g hP M => ?_)
  have hd := hs.1
  have hi := hs.2.1
  have h9 := hs.2.2.1
  have hJ := hs.2.2.2.1
  have hz0 := hs.2.2.2.2
  have hdr : (1 : Int) = 0 ∨ (1 : Int) = 1 := Or.inr rfl
  have hk0 : 0 ≤ tl 0 ∧ tl 0 ≤ 3 := hT.1 0 (by decide)
  refine M.run 1 (pc' := 1) (lv' := [some (vr kb), some (vi x), some (vi y)]) (st' := [vi y]) rfl ?_
  refine M.if_lt (tgt := 21) rfl (qI (by omega)) (by decide) (fun h1 => ?_) (fun h1 => ?_)
  · skip
    have hnc : ¬ cnC tl D x y := fun q => by have := q.2.1; omega
    refine M.run 1 (pc' := 22) (lv' := [some (vr kb), some (vi x), some (vi y)]) (st' := [vi 0]) rfl ?_
    exact M.zret rfl (Or.inl rfl) (Nat.zero_le _) (Nat.zero_le _) ⟨reI (by rw [decide_eq_false hnc]; rfl), (by unfold sCancel; rw [if_neg hnc]; exact ⟨hP.1, hP.2⟩)⟩
  · skip
    refine M.run 2 (pc' := 6) (lv' := [some (vr kb), some (vi x), some (vi y)]) (st' := [vi 1, vi y]) rfl ?_
    refine M.icmp_gt (tgt := 21) rfl (qI (by omega)) (qI (by decide)) (by decide) (fun h6 => ?_) (fun h6 => ?_)
    · skip
      have hnc : ¬ cnC tl D x y := fun q => by have := q.2.1; omega
      refine M.run 1 (pc' := 22) (lv' := [some (vr kb), some (vi x), some (vi y)]) (st' := [vi 0]) rfl ?_
      exact M.zret rfl (Or.inl rfl) (Nat.zero_le _) (Nat.zero_le _) ⟨reI (by rw [decide_eq_false hnc]; rfl), (by unfold sCancel; rw [if_neg hnc]; exact ⟨hP.1, hP.2⟩)⟩
    · skip
      obtain ⟨e, rfl⟩ := Int.eq_ofNat_of_zero_le (show (0 : Int) ≤ y from (by omega))
      by_cases hx3 : x < 0 ∨ 3 ≤ x
      · skip
        refine M.run 1 (pc' := 10) (lv' := [some (vr kb), some (vi x), some (vi ((e : Nat) : Int))]) (st' := [vr kb]) rfl ?_
        refine M.get fl_X10_34 rfl (hP.2.1) (kf := 4) (v := vr ((aA kb) 13)) rfl ?_
        refine M.run 2 (pc' := 15) (lv' := [some (vr kb), some (vi x), some (vi ((e : Nat) : Int))]) (st' := [vi ((e : Nat) : Int), vi x, vr ((aA kb) 13)]) rfl ?_
        refine M.callV (nX1_canCancelO l G (kb + 850) (aA kb) (tz (kb + 1)) tl fx X cl 1 D x (by omega) hx3 e (by omega)) cv_X10_126 cd_X1_canCancel rfl (st := []) rfl hP.1.2.2.1 (by decide) (by decide) rfl (Nat.zero_le _) (Nat.zero_le _) hP.1 (fun r2 w3 q4 => ?_)
        rw [q4.1, q4.2]
        refine M.if_ne (tgt := 23) rfl (qI (by decide)) (by decide) (fun q => absurd q (by decide)) (fun _ => ?_)
        have hnc : ¬ cnC tl D x ((e : Nat) : Int) := fun q => by have := q.1; omega
        refine M.run 1 (pc' := 22) (lv' := [some (vr kb), some (vi x), some (vi ((e : Nat) : Int))]) (st' := [vi 0]) rfl ?_
        exact M.zret rfl (Or.inl rfl) (Nat.zero_le _) (Nat.zero_le _) ⟨reI (by rw [decide_eq_false hnc]; rfl), (by unfold sCancel; rw [if_neg hnc]; exact ⟨hP.1, hP.2⟩)⟩
      · skip
        obtain ⟨c, rfl⟩ := Int.eq_ofNat_of_zero_le (show (0 : Int) ≤ x from (by omega))
        refine M.run 1 (pc' := 10) (lv' := [some (vr kb), some (vi ((c : Nat) : Int)), some (vi ((e : Nat) : Int))]) (st' := [vr kb]) rfl ?_
        refine M.get fl_X10_34 rfl (hP.2.1) (kf := 4) (v := vr ((aA kb) 13)) rfl ?_
        refine M.run 2 (pc' := 15) (lv' := [some (vr kb), some (vi ((c : Nat) : Int)), some (vi ((e : Nat) : Int))]) (st' := [vi ((e : Nat) : Int), vi ((c : Nat) : Int), vr ((aA kb) 13)]) rfl ?_
        refine M.callV (nX1_canCancel l G (kb + 850) (aA kb) (tz (kb + 1)) tl fx X cl 1 D hT n hd (by omega) hJ c (by omega) e (by omega)) cv_X10_126 cd_X1_canCancel rfl (st := []) rfl hP.1.2.2.1 (by decide) (by decide) rfl (Nat.zero_le _) (Nat.zero_le _) hP.1 (fun r7 w8 q9 => ?_)
        rw [q9.1, q9.2]
        refine M.if_ne (tgt := 23) rfl (inI_zb _) (by decide) (fun h18 => ?_) (fun h18 => ?_)
        · skip
          replace h18 := zb_td h18
          have hlt : ((c : Nat) : Int) < tl 0 := by by_cases z : tl 0 ≤ ((c : Nat) : Int); have := hz0 c (by omega) z; have := h18.1; omega; omega
          have hcc : cnC tl D ((c : Nat) : Int) ((e : Nat) : Int) := ⟨⟨by omega, hlt⟩, by omega, h18⟩
          refine M.run 1 (pc' := 24) (lv' := [some (vr kb), some (vi ((c : Nat) : Int)), some (vi ((e : Nat) : Int))]) (st' := [vr kb]) rfl ?_
          refine M.get fl_X10_12 rfl (hP.2.1) (kf := 0) (v := vr (kb + 1)) rfl ?_
          obtain ⟨_, _, _, _, hsg11, _⟩ := hP.2.2.1
          refine M.callV (mK_rem l G kb tl fx fx2 X cl D L tl2 D2 L2 tp nt fs fp) cv_X10_119 cd_X5_remember rfl (st := []) rfl hsg11.1 (by decide) (by decide) rfl (Nat.zero_le _) (Nat.zero_le _) ⟨hP.1, hP.2⟩ (fun r13 w14 q15 => ?_)
          obtain ⟨q15r, hE12, hK12⟩ := q15
          rw [q15r]
          refine M.run 1 (pc' := 31) (lv' := [some (vr kb), some (vi ((c : Nat) : Int)), some (vi ((e : Nat) : Int))]) (st' := [vr kb]) rfl ?_
          refine M.get fl_X10_34 rfl (hK12.1) (kf := 4) (v := vr ((aA kb) 13)) rfl ?_
          refine M.run 2 (pc' := 36) (lv' := [some (vr kb), some (vi ((c : Nat) : Int)), some (vi ((e : Nat) : Int))]) (st' := [vi ((e : Nat) : Int), vi ((c : Nat) : Int), vr ((aA kb) 13)]) rfl ?_
          refine M.callV (nX1_cancelBy l G (kb + 850) (aA kb) (tz (kb + 1)) tl fx X cl 1 D hT n hd (by omega) hJ c (by omega) e (by omega)) cv_X10_130 cd_X1_cancelBy rfl (st := []) rfl hE12.2.2.1 (by decide) (by decide) rfl (Nat.zero_le _) (Nat.zero_le _) hE12 (fun r19 w20 q21 => ?_)
          obtain ⟨q21r, q21e, q21f⟩ := q21
          rw [q21r]
          have hE17 : isEn G (kb + 850) (aA kb) (tz (kb + 1)) tl fx X cl 1 (mCancel c e D) w20 := q21e
          have hK18 : isKr kb fx fx2 (pushL L D) tl2 D2 L2 tp nt fs fp w20 := kr_E hK12 q21f
          refine M.run 1 (pc' := 40) (lv' := [some (vr kb), some (vi ((c : Nat) : Int)), some (vi ((e : Nat) : Int))]) (st' := [vi 1]) rfl ?_
          exact M.zret rfl (Or.inr rfl) (Nat.zero_le _) (Nat.zero_le _) ⟨reI (by rw [decide_eq_true hcc]; rfl), (by unfold sCancel; rw [if_pos hcc]; exact ⟨hE17, hK18⟩)⟩
        · skip
          replace h18 := zb_fd h18
          have hnc : ¬ cnC tl D ((c : Nat) : Int) ((e : Nat) : Int) := fun q => h18 q.2.2
          refine M.run 1 (pc' := 22) (lv' := [some (vr kb), some (vi ((c : Nat) : Int)), some (vi ((e : Nat) : Int))]) (st' := [vi 0]) rfl ?_
          exact M.zret rfl (Or.inl rfl) (Nat.zero_le _) (Nat.zero_le _) ⟨reI (by rw [decide_eq_false hnc]; rfl), (by unfold sCancel; rw [if_neg hnc]; exact ⟨hP.1, hP.2⟩)⟩
set_option maxHeartbeats 4000000 in
set_option maxRecDepth 100000 in
theorem kX10_pass (l : Launch) (G : GT) (kb : Nat) (tl fx fx2 : Nat → Int) (X : Nat → Int → Option Gn) (cl : Nat → Int) (D : Dy) (L : List Dy) (tl2 : Nat → Int) (D2 : Dy) (L2 : List Dy) (tp : Nat → Int) (nt fs fp : Int) (hT : Tok tl) (n : Int) (hs : Sok n tl D) (hn : n ≤ 1400000000) (hZ : Tz tl) (hru : -1 ≤ tl 2 ∧ tl 2 < tl 1) (m : Nat) (hm : D.1 18 + ((m : Nat) : Int) ≤ 9999) (hm2 : m ≤ 10000)  : Ctr l G yX10_pass cX10_pass 3 ((Option.none : Option Jvm.ClassFile.FieldType)) 8 0 0 [vr kb, vi ((m : Nat) : Int)] (fun w => isEn G (kb + 850) (aA kb) (tz (kb + 1)) tl fx X cl 1 D w ∧ isKr kb fx fx2 L tl2 D2 L2 tp nt fs fp w) (fun w r w' => r = none ∧ isK G kb fx fx2 X cl ((sDays X 0 m (tl, D, L)).2) tl2 D2 L2 tp nt fs fp w') := by
  refine Ctr.of (t := tX10_pass) (lv0 := [some (vr kb), some (vi ((m : Nat) : Int)), none]) (by decide +kernel) tX10_pass_ok rfl rfl (fun w g hP M => ?_)
  have hd := hs.1
  have hi := hs.2.1
  have h9 := hs.2.2.1
  have hJ := hs.2.2.2.1
  have hz0 := hs.2.2.2.2
  have hdr : (1 : Int) = 0 ∨ (1 : Int) = 1 := Or.inr rfl
  refine M.run 2 (pc' := 2) (lv' := [some (vr kb), some (vi ((m : Nat) : Int)), some (vi 0)]) (st' := []) rfl ?_
  have Lp2 : ∀ (N : Nat) (i : Nat) (Dc : Dy) (Lc : List Dy) (wa : Wo), (isEn G (kb + 850) (aA kb) (tz (kb + 1)) tl fx X cl 1 Dc wa) → (isKr kb fx fx2 Lc tl2 D2 L2 tp nt fs fp wa) → (Sok (n + 110 * ((i : Nat) : Int)) tl Dc) → (i ≤ m) → (Dc.1 18 = D.1 18 + ((i : Nat) : Int)) → (sDays X 0 m (tl, D, L) = sDays X 0 (m - i) (tl, Dc, Lc)) → m - i < N → g 0 0 wa 2 [some (vr kb), some (vi ((m : Nat) : Int)), some (vi ((i : Nat) : Int))] [] := by
    intro N
    induction N with
    | zero => intro i Dc Lc wa _ _ _ _ _ _ hN; exact absurd hN (Nat.not_lt_zero _)
    | succ N ih2 =>
      intro i Dc Lc wa hEa hKa hsa hi2 h18 hI hN
      refine M.run 2 (pc' := 4) (lv' := [some (vr kb), some (vi ((m : Nat) : Int)), some (vi ((i : Nat) : Int))]) (st' := [vi ((m : Nat) : Int), vi ((i : Nat) : Int)]) rfl ?_
      refine M.icmp_ge (tgt := 27) rfl (qI (by omega)) (qI (by omega)) (by decide) (fun h4 => ?_) (fun h4 => ?_)
      · skip
        exact M.vret rfl (Nat.zero_le _) (Nat.zero_le _) ⟨rfl, (by rw [hI, show m - i = 0 by omega]; exact ⟨hEa, hKa⟩)⟩
      · skip
        refine M.run 1 (pc' := 8) (lv' := [some (vr kb), some (vi ((m : Nat) : Int)), some (vi ((i : Nat) : Int))]) (st' := [vr kb]) rfl ?_
        refine M.get fl_X10_12 rfl (hKa.1) (kf := 0) (v := vr (kb + 1)) rfl ?_
        obtain ⟨_, _, _, _, hsg1, _⟩ := hKa.2.1
        refine M.callV (mK_rem l G kb tl fx fx2 X cl Dc Lc tl2 D2 L2 tp nt fs fp) cv_X10_119 cd_X5_remember rfl (st := []) rfl hsg1.1 (by decide) (by decide) rfl (Nat.zero_le _) (Nat.zero_le _) ⟨hEa, hKa⟩ (fun r3 w4 q5 => ?_)
        obtain ⟨q5r, hE2, hK2⟩ := q5
        rw [q5r]
        refine M.run 1 (pc' := 15) (lv' := [some (vr kb), some (vi ((m : Nat) : Int)), some (vi ((i : Nat) : Int))]) (st' := [vr kb]) rfl ?_
        refine M.get fl_X10_34 rfl (hK2.1) (kf := 4) (v := vr ((aA kb) 13)) rfl ?_
        refine M.callV (nX1_tick l G (kb + 850) (aA kb) (tz (kb + 1)) tl fx X cl 1 Dc hT (n + 110 * ((i : Nat) : Int)) hsa.1 (by omega) hsa.2.2.2.1 hZ hru hdr (Inv_38 hsa.2.1) (by have q1 := hsa.2.1.1; omega)) cv_X10_143 cd_X1_tick rfl (st := []) rfl hE2.2.2.1 (by decide) (by decide) rfl (Nat.zero_le _) (Nat.zero_le _) hE2 (fun r9 w10 q11 => ?_)
        obtain ⟨q11r, q11e, q11f⟩ := q11
        rw [q11r]
        have hE7 : isEn G (kb + 850) (aA kb) (tz (kb + 1)) tl fx X cl 1 (mTick X tl 0 Dc) w10 := q11e
        have hK8 : isKr kb fx fx2 (pushL Lc Dc) tl2 D2 L2 tp nt fs fp w10 := kr_E hK2 q11f
        refine M.run 2 (pc' := 2) (lv' := [some (vr kb), some (vi ((m : Nat) : Int)), some (vi (((i : Nat) : Int) + 1))]) (st' := []) rfl ?_
        exact ih2 (i + 1) (mTick X tl 0 Dc) (pushL Lc Dc) w10 hE7 hK8 (Sok_mono (by omega) (Sok_tick hT hsa (by omega))) (by omega) (by rw [mTick_18]; omega) (by rw [hI, sDays_s (by omega) (show ¬ Dc.1 18 = 9999 by omega), show m - i - 1 = m - (i + 1) by omega]) (by omega)
  exact Lp2 _ 0 D L w hP.1 hP.2 (Sok_mono (by omega) hs) (Nat.zero_le _) (by omega) rfl (Nat.lt_succ_self _)
set_option maxHeartbeats 4000000 in
set_option maxRecDepth 100000 in
theorem kX10_day (l : Launch) (G : GT) (kb : Nat) (tl fx fx2 : Nat → Int) (X : Nat → Int → Option Gn) (cl : Nat → Int) (D : Dy) (L : List Dy) (tl2 : Nat → Int) (D2 : Dy) (L2 : List Dy) (tp : Nat → Int) (nt fs fp : Int) (hT : Tok tl) (n : Int) (hs : Sok n tl D) (hn : n ≤ 1400000000) (hZ : Tz tl) (hru : -1 ≤ tl 2 ∧ tl 2 < tl 1) (x : Int) (hx : -2147483648 ≤ x ∧ x ≤ 2147483647)  : Ctr l G yX10_day cX10_day 3 ((Option.some Jvm.ClassFile.FieldType.int)) 9 0 0 [vr kb, vi x] (fun w => isEn G (kb + 850) (aA kb) (tz (kb + 1)) tl fx X cl 1 D w ∧ isKr kb fx fx2 L tl2 D2 L2 tp nt fs fp w) (fun w r w' => r = some (vi (if (1 ≤ x ∧ x ≤ 30) ∧ D.1 18 + x ≤ 9999 then (sDays X 0 x.toNat (tl, D, L)).2.2.1.1 21 - D.1 21 else -1)) ∧ isK G kb fx fx2 X cl (if (1 ≤ x ∧ x ≤ 30) ∧ D.1 18 + x ≤ 9999 then (sDays X 0 x.toNat (tl, D, L)).2 else (tl, D, L)) tl2 D2 L2 tp nt fs fp w') := by
  refine Ctr.of (t := tX10_day) (lv0 := [some (vr kb), some (vi x), none]) (by decide +kernel) tX10_day_ok rfl rfl (fun w g hP M => ?_)
  have hd := hs.1
  have hi := hs.2.1
  have h9 := hs.2.2.1
  have hJ := hs.2.2.2.1
  have hz0 := hs.2.2.2.2
  have hdr : (1 : Int) = 0 ∨ (1 : Int) = 1 := Or.inr rfl
  have hck := Dok_clk hd
  refine M.run 2 (pc' := 2) (lv' := [some (vr kb), some (vi x), none]) (st' := [vi 1, vi x]) rfl ?_
  refine M.icmp_lt (tgt := 26) rfl (qI (by omega)) (qI (by decide)) (by decide) (fun h2 => ?_) (fun h2 => ?_)
  · skip
    refine M.run 1 (pc' := 27) (lv' := [some (vr kb), some (vi x), none]) (st' := [vi (-1)]) rfl ?_
    exact M.iret rfl (Nat.zero_le _) (Nat.zero_le _) ⟨reI (if_neg (by omega)).symm, (by rw [if_neg (by omega)]; exact ⟨hP.1, hP.2⟩)⟩
  · skip
    refine M.run 2 (pc' := 8) (lv' := [some (vr kb), some (vi x), none]) (st' := [vi 30, vi x]) rfl ?_
    refine M.icmp_gt (tgt := 26) rfl (qI (by omega)) (qI (by decide)) (by decide) (fun h8 => ?_) (fun h8 => ?_)
    · skip
      refine M.run 1 (pc' := 27) (lv' := [some (vr kb), some (vi x), none]) (st' := [vi (-1)]) rfl ?_
      exact M.iret rfl (Nat.zero_le _) (Nat.zero_le _) ⟨reI (if_neg (by omega)).symm, (by rw [if_neg (by omega)]; exact ⟨hP.1, hP.2⟩)⟩
    · skip
      refine M.run 3 (pc' := 16) (lv' := [some (vr kb), some (vi x), none]) (st' := [vr kb, vi 9999, vi x]) rfl ?_
      refine M.get fl_X10_28 rfl (hP.2.1) (kf := 3) (v := vr ((aA kb) 0)) rfl ?_
      refine M.get fl_X10_134 rfl hP.1.1.1 (kf := 0) (v := vi (D.1 18)) rfl ?_
      refine M.run 1 (pc' := 23) (lv' := [some (vr kb), some (vi x), none]) (st' := [vi (9999 - (D.1 18)), vi x]) rfl ?_
      refine M.icmp_le (tgt := 28) rfl (qI (by omega)) (qI (by omega)) (by decide) (fun h23 => ?_) (fun h23 => ?_)
      · skip
        obtain ⟨c, rfl⟩ := Int.eq_ofNat_of_zero_le (show (0 : Int) ≤ x from (by omega))
        refine M.run 1 (pc' := 29) (lv' := [some (vr kb), some (vi ((c : Nat) : Int)), none]) (st' := [vr kb]) rfl ?_
        refine M.get fl_X10_28 rfl (hP.2.1) (kf := 3) (v := vr ((aA kb) 0)) rfl ?_
        refine M.get fl_X10_137 rfl hP.1.1.1 (kf := 3) (v := vi (D.1 21)) rfl ?_
        refine M.run 3 (pc' := 38) (lv' := [some (vr kb), some (vi ((c : Nat) : Int)), some (vi (D.1 21))]) (st' := [vi ((c : Nat) : Int), vr kb]) rfl ?_
        refine M.callV (kX10_pass l G kb tl fx fx2 X cl D L tl2 D2 L2 tp nt fs fp hT n hs (by omega) hZ hru c (by omega) (by omega)) cv_X10_140 cd_X10_pass rfl (st := []) rfl (hP.2.1) (by decide) (by decide) rfl (Nat.zero_le _) (Nat.zero_le _) ⟨hP.1, hP.2⟩ (fun r2 w3 q4 => ?_)
        obtain ⟨q4r, hE1, hK1⟩ := q4
        rw [q4r]
        refine M.run 1 (pc' := 42) (lv' := [some (vr kb), some (vi ((c : Nat) : Int)), some (vi (D.1 21))]) (st' := [vr kb]) rfl ?_
        refine M.get fl_X10_28 rfl (hK1.1) (kf := 3) (v := vr ((aA kb) 0)) rfl ?_
        refine M.get fl_X10_137 rfl hE1.1.1 (kf := 3) (v := vi (((sDays X 0 c (tl, D, L)).2.2.1).1 21)) rfl ?_
        refine M.run 2 (pc' := 50) (lv' := [some (vr kb), some (vi ((c : Nat) : Int)), some (vi (D.1 21))]) (st' := [vi ((((sDays X 0 c (tl, D, L)).2.2.1).1 21) - (D.1 21))]) rfl ?_
        exact M.iret rfl (Nat.zero_le _) (Nat.zero_le _) ⟨reI (if_pos (by omega)).symm, (by rw [if_pos (by omega)]; exact ⟨hE1, hK1⟩)⟩
      · skip
        refine M.run 1 (pc' := 27) (lv' := [some (vr kb), some (vi x), none]) (st' := [vi (-1)]) rfl ?_
        exact M.iret rfl (Nat.zero_le _) (Nat.zero_le _) ⟨reI (if_neg (by omega)).symm, (by rw [if_neg (by omega)]; exact ⟨hP.1, hP.2⟩)⟩
set_option maxHeartbeats 4000000 in
set_option maxRecDepth 100000 in
theorem kX10_undo (l : Launch) (G : GT) (kb : Nat) (tl fx fx2 : Nat → Int) (X : Nat → Int → Option Gn) (cl : Nat → Int) (D : Dy) (L : List Dy) (tl2 : Nat → Int) (D2 : Dy) (L2 : List Dy) (tp : Nat → Int) (nt fs fp : Int) (hT : Tok tl) (n : Int) (hs : Sok n tl D) (hn : n ≤ 1400000000) (hZ : Tz tl) (hru : -1 ≤ tl 2 ∧ tl 2 < tl 1)  : Ctr l G yX10_undo cX10_undo 1 ((Option.some Jvm.ClassFile.FieldType.int)) 4 0 0 [vr kb] (fun w => isEn G (kb + 850) (aA kb) (tz (kb + 1)) tl fx X cl 1 D w ∧ isKr kb fx fx2 L tl2 D2 L2 tp nt fs fp w) (fun w r w' => r = some (vi (if L.length = 0 then -1 else ((L.length : Nat) : Int) - 1)) ∧ isK G kb fx fx2 X cl (sUndo (tl, D, L)) tl2 D2 L2 tp nt fs fp w') := by
  refine Ctr.of (t := tX10_undo) (lv0 := [some (vr kb)]) (by decide +kernel) tX10_undo_ok rfl rfl (fun w g hP M => ?_)
  have hd := hs.1
  have hi := hs.2.1
  have h9 := hs.2.2.1
  have hJ := hs.2.2.2.1
  have hz0 := hs.2.2.2.2
  have hdr : (1 : Int) = 0 ∨ (1 : Int) = 1 := Or.inr rfl
  refine M.run 1 (pc' := 1) (lv' := [some (vr kb)]) (st' := [vr kb]) rfl ?_
  refine M.get fl_X10_12 rfl (hP.2.1) (kf := 0) (v := vr (kb + 1)) rfl ?_
  obtain ⟨_, _, _, _, hsg1, _⟩ := hP.2.2.1
  refine M.callV (mK_take l G kb tl fx fx2 X cl D L tl2 D2 L2 tp nt fs fp) cv_X10_182 cd_X5_takeBack rfl (st := []) rfl hsg1.1 (by decide) (by decide) rfl (Nat.zero_le _) (Nat.zero_le _) hP (fun r3 w4 q5 => ?_)
  have hq2 : r3 = some (vi (if L.length = 0 then -1 else ((L.length : Nat) : Int) - 1)) ∧ isK G kb fx fx2 X cl (sUndo (tl, D, L)) tl2 D2 L2 tp nt fs fp w4 := by
    unfold sUndo
    by_cases hc : L.length = 0
    · obtain ⟨q1, q2⟩ := q5.1 hc
      rw [if_pos hc, if_pos hc, q2]
      exact ⟨q1, hP⟩
    · obtain ⟨q1, q2, q3⟩ := q5.2 (L.length - 1) (by omega)
      rw [if_neg hc, if_neg hc]
      exact ⟨q1.trans (reI (by omega)), q2, q3⟩
  rw [hq2.1]
  exact M.iret rfl (Nat.zero_le _) (Nat.zero_le _) ⟨rfl, hq2.2.1, hq2.2.2⟩
set_option maxHeartbeats 4000000 in
set_option maxRecDepth 100000 in
theorem kX10_image (l : Launch) (G : GT) (kb : Nat) (tl fx fx2 : Nat → Int) (X : Nat → Int → Option Gn) (cl : Nat → Int) (D : Dy) (L : List Dy) (tl2 : Nat → Int) (D2 : Dy) (L2 : List Dy) (tp : Nat → Int) (nt fs fp : Int) (hT : Tok tl) (n : Int) (hs : Sok n tl D) (hn : n ≤ 1400000000) (hZ : Tz tl) (hru : -1 ≤ tl 2 ∧ tl 2 < tl 1)  : Ctr l G yX10_image cX10_image 1 ((Option.some Jvm.ClassFile.FieldType.int)) 4 0 0 [vr kb] (fun w => isEn G (kb + 850) (aA kb) (tz (kb + 1)) tl fx X cl 1 D w ∧ isKr kb fx fx2 L tl2 D2 L2 tp nt fs fp w) (fun w r w' => r = some (vi (D.1 18)) ∧ ∃ hh, isEn G (kb + 850) (aA kb) (tz (kb + 1)) tl fx X cl 1 D w' ∧ isKr kb fx hh L tl D L tp nt fs fp w') := by
  refine Ctr.of (t := tX10_image) (lv0 := [some (vr kb)]) (by decide +kernel) tX10_image_ok rfl rfl (fun w g hP M => ?_)
  have hd := hs.1
  have hi := hs.2.1
  have h9 := hs.2.2.1
  have hJ := hs.2.2.2.1
  have hz0 := hs.2.2.2.2
  have hdr : (1 : Int) = 0 ∨ (1 : Int) = 1 := Or.inr rfl
  refine M.run 1 (pc' := 1) (lv' := [some (vr kb)]) (st' := [vr kb]) rfl ?_
  refine M.get fl_X10_16 rfl (hP.2.1) (kf := 1) (v := vr (kb + 412)) rfl ?_
  refine M.run 1 (pc' := 5) (lv' := [some (vr kb)]) (st' := [vr kb, vr (kb + 412)]) rfl ?_
  refine M.get fl_X10_12 rfl (hP.2.1) (kf := 0) (v := vr (kb + 1)) rfl ?_
  obtain ⟨_, _, _, _, hsg1, _⟩ := hP.2.2.2.1
  refine M.callV (mK_img l G kb tl fx fx2 X cl D L tl2 D2 L2 tp nt fs fp (hT.1 1 (by decide)).2) cv_X10_339 cd_X5_copyFrom rfl (st := []) rfl hsg1.1 (by decide) (by decide) rfl (Nat.zero_le _) (Nat.zero_le _) hP (fun r3 w4 q5 => ?_)
  obtain ⟨q5r, hh, hE2, hK2⟩ := q5
  rw [q5r]
  refine M.run 1 (pc' := 12) (lv' := [some (vr kb)]) (st' := [vr kb]) rfl ?_
  refine M.get fl_X10_28 rfl (hK2.1) (kf := 3) (v := vr ((aA kb) 0)) rfl ?_
  refine M.get fl_X10_134 rfl hE2.1.1 (kf := 0) (v := vi (D.1 18)) rfl ?_
  exact M.iret rfl (Nat.zero_le _) (Nat.zero_le _) ⟨rfl, hh, hE2, hK2⟩
set_option maxHeartbeats 4000000 in
set_option maxRecDepth 100000 in
theorem kX10_back (l : Launch) (G : GT) (kb : Nat) (tl fx fx2 : Nat → Int) (X : Nat → Int → Option Gn) (cl : Nat → Int) (D : Dy) (L : List Dy) (tl2 : Nat → Int) (D2 : Dy) (L2 : List Dy) (tp : Nat → Int) (nt fs fp : Int) (hT : Tok tl) (n : Int) (hs : Sok n tl D) (hn : n ≤ 1400000000) (hZ : Tz tl) (hru : -1 ≤ tl 2 ∧ tl 2 < tl 1) (ht24 : tl2 1 ≤ 4) (ht21 : tl2 1 ≤ tl 1)  : Ctr l G yX10_back cX10_back 1 ((Option.some Jvm.ClassFile.FieldType.int)) 4 0 0 [vr kb] (fun w => isEn G (kb + 850) (aA kb) (tz (kb + 1)) tl fx X cl 1 D w ∧ isKr kb fx fx2 L tl2 D2 L2 tp nt fs fp w) (fun w r w' => r = some (vi (D2.1 18)) ∧ ∃ hh, isEn G (kb + 850) (aA kb) (tz (kb + 1)) tl2 hh X cl 1 D2 w' ∧ isKr kb hh fx2 L2 tl2 D2 L2 tp nt fs fp w') := by
  refine Ctr.of (t := tX10_back) (lv0 := [some (vr kb)]) (by decide +kernel) tX10_back_ok rfl rfl (fun w g hP M => ?_)
  have hd := hs.1
  have hi := hs.2.1
  have h9 := hs.2.2.1
  have hJ := hs.2.2.2.1
  have hz0 := hs.2.2.2.2
  have hdr : (1 : Int) = 0 ∨ (1 : Int) = 1 := Or.inr rfl
  refine M.run 1 (pc' := 1) (lv' := [some (vr kb)]) (st' := [vr kb]) rfl ?_
  refine M.get fl_X10_12 rfl (hP.2.1) (kf := 0) (v := vr (kb + 1)) rfl ?_
  refine M.run 1 (pc' := 5) (lv' := [some (vr kb)]) (st' := [vr kb, vr (kb + 1)]) rfl ?_
  refine M.get fl_X10_16 rfl (hP.2.1) (kf := 1) (v := vr (kb + 412)) rfl ?_
  obtain ⟨_, _, _, _, hsg1, _⟩ := hP.2.2.1
  refine M.callV (mK_bck l G kb tl fx fx2 X cl D L tl2 D2 L2 tp nt fs fp ht24 ht21) cv_X10_339 cd_X5_copyFrom rfl (st := []) rfl hsg1.1 (by decide) (by decide) rfl (Nat.zero_le _) (Nat.zero_le _) hP (fun r3 w4 q5 => ?_)
  obtain ⟨q5r, hh, hE2, hK2⟩ := q5
  rw [q5r]
  refine M.run 1 (pc' := 12) (lv' := [some (vr kb)]) (st' := [vr kb]) rfl ?_
  refine M.get fl_X10_28 rfl (hK2.1) (kf := 3) (v := vr ((aA kb) 0)) rfl ?_
  refine M.get fl_X10_134 rfl hE2.1.1 (kf := 0) (v := vi (D2.1 18)) rfl ?_
  exact M.iret rfl (Nat.zero_le _) (Nat.zero_le _) ⟨rfl, hh, hE2, hK2⟩
