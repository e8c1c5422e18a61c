set_option maxHeartbeats 4000000 in
set_option maxRecDepth 100000 in
theorem kX10_spans (l : Launch) (G : GT) (kb : Nat) (tl fx fx2 : Nat → Int) (X : Nat → Int → Option Gn) (cl : Nat → Int) (D : Dy) (L : List Dy) (tl2 : Nat → Int) (D2 : Dy) (L2 : List Dy) (tp : Nat → Int) (nt fs fp : Int) (hT : Tok tl) (n : Int) (hd : Dok n D) (hn : n ≤ 1500000000) (hJ : Jok D) (hi : Inv D) (h9 : D.1 18 ≤ 9999) (hZ : Tz tl) (hru : -1 ≤ tl 2 ∧ tl 2 < tl 1) (x : Int) (hx : -2147483648 ≤ x ∧ x ≤ 2147483647)  : Ctr l G yX10_spans cX10_spans 2 ((Option.some Jvm.ClassFile.FieldType.int)) 4 0 0 [vr kb, vi x] (fun w => isEn G (kb + 850) (aA kb) (tz (kb + 1)) tl fx X cl 1 D w ∧ isKr kb fx fx2 L tl2 D2 L2 tp nt fs fp w) (fun w r w' => r = some (vi (if 0 ≤ x ∧ x ≤ 1073741823 then (((bPs x.toNat 30).length : Nat) : Int) else -1)) ∧ w' = w) := by
  refine Ctr.of (t := tX10_spans) (lv0 := [some (vr kb), some (vi x)]) (by decide +kernel) tX10_spans_ok rfl rfl (fun w g hP M => ?_)
  refine M.run 1 (pc' := 1) (lv' := [some (vr kb), some (vi x)]) (st' := [vi x]) rfl ?_
  refine M.callS (kX0_fits l G x (qI (by omega))) cs_X10_288 cd_X0_fits rfl (st := []) rfl (by decide) (by decide) rfl (Nat.zero_le _) (Nat.zero_le _) trivial (fun r1 w2 q3 => ?_)
  rw [q3.1, q3.2]
  refine M.if_eq (tgt := 16) rfl (inI_zb _) (by decide) (fun h4 => ?_) (fun h4 => ?_)
  · skip
    replace h4 := zb_fd h4
    refine M.run 1 (pc' := 17) (lv' := [some (vr kb), some (vi x)]) (st' := [vi (-1)]) rfl ?_
    exact M.iret rfl (Nat.zero_le _) (Nat.zero_le _) ⟨reI (if_neg (by omega)).symm, rfl⟩
  · skip
    replace h4 := zb_td h4
    obtain ⟨c, rfl⟩ := Int.eq_ofNat_of_zero_le (show (0 : Int) ≤ x from (by omega))
    refine M.run 2 (pc' := 10) (lv' := [some (vr kb), some (vi ((c : Nat) : Int))]) (st' := [vi 30, vi ((c : Nat) : Int)]) rfl ?_
    refine M.callS (kX0_pieceCount l G c (by omega) 30 (by omega) (by omega)) cs_X10_291 cd_X0_pieceCount rfl (st := []) rfl (by decide) (by decide) rfl (Nat.zero_le _) (Nat.zero_le _) trivial (fun r5 w6 q7 => ?_)
    rw [q7.1, q7.2]
    refine M.run 1 (pc' := 17) (lv' := [some (vr kb), some (vi ((c : Nat) : Int))]) (st' := [vi (((bPs c 30).length : Nat) : Int)]) rfl ?_
    exact M.iret rfl (Nat.zero_le _) (Nat.zero_le _) ⟨reI (if_pos h4).symm, rfl⟩
set_option maxHeartbeats 4000000 in
set_option maxRecDepth 100000 in
theorem kX10_span (l : Launch) (G : GT) (kb : Nat) (tl fx fx2 : Nat → Int) (X : Nat → Int → Option Gn) (cl : Nat → Int) (D : Dy) (L : List Dy) (tl2 : Nat → Int) (D2 : Dy) (L2 : List Dy) (tp : Nat → Int) (nt fs fp : Int) (hT : Tok tl) (n : Int) (hd : Dok n D) (hn : n ≤ 1500000000) (hJ : Jok D) (hi : Inv D) (h9 : D.1 18 ≤ 9999) (hZ : Tz tl) (hru : -1 ≤ tl 2 ∧ tl 2 < tl 1) (x : Int) (y : Int) (z : Int) (hx : -2147483648 ≤ x ∧ x ≤ 2147483647) (hy : -2147483648 ≤ y ∧ y ≤ 2147483647) (hz : -2147483648 ≤ z ∧ z ≤ 2147483647)  : Ctr l G yX10_span cX10_span 4 ((Option.some Jvm.ClassFile.FieldType.int)) 4 0 0 [vr kb, vi x, vi y, vi z] (fun w => isEn G (kb + 850) (aA kb) (tz (kb + 1)) tl fx X cl 1 D w ∧ isKr kb fx fx2 L tl2 D2 L2 tp nt fs fp w) (fun w r w' => r = some (vi (if (0 ≤ x ∧ x ≤ 1073741823) ∧ 0 ≤ y ∧ y < (((bPs x.toNat 30).length : Nat) : Int) then bEg (bPs x.toNat 30) y.toNat z else -1)) ∧ w' = w) := by
  refine Ctr.of (t := tX10_span) (lv0 := [some (vr kb), some (vi x), some (vi y), some (vi z)]) (by decide +kernel) tX10_span_ok rfl rfl (fun w g hP M => ?_)
  refine M.run 1 (pc' := 1) (lv' := [some (vr kb), some (vi x), some (vi y), some (vi z)]) (st' := [vi x]) rfl ?_
  refine M.callS (kX0_fits l G x (qI (by omega))) cs_X10_288 cd_X0_fits rfl (st := []) rfl (by decide) (by decide) rfl (Nat.zero_le _) (Nat.zero_le _) trivial (fun r1 w2 q3 => ?_)
  rw [q3.1, q3.2]
  refine M.if_eq (tgt := 18) rfl (inI_zb _) (by decide) (fun h4 => ?_) (fun h4 => ?_)
  · skip
    replace h4 := zb_fd h4
    refine M.run 1 (pc' := 19) (lv' := [some (vr kb), some (vi x), some (vi y), some (vi z)]) (st' := [vi (-1)]) rfl ?_
    exact M.iret rfl (Nat.zero_le _) (Nat.zero_le _) ⟨reI (if_neg (by omega)).symm, rfl⟩
  · skip
    replace h4 := zb_td h4
    obtain ⟨c, rfl⟩ := Int.eq_ofNat_of_zero_le (show (0 : Int) ≤ x from (by omega))
    refine M.run 4 (pc' := 12) (lv' := [some (vr kb), some (vi ((c : Nat) : Int)), some (vi y), some (vi z)]) (st' := [vi z, vi y, vi 30, vi ((c : Nat) : Int)]) rfl ?_
    refine M.callS (kX0_pieceEdge l G c (by omega) 30 (by omega) (by omega) y z (qI (by omega)) (qI (by omega))) cs_X10_294 cd_X0_pieceEdge rfl (st := []) rfl (by decide) (by decide) rfl (Nat.zero_le _) (Nat.zero_le _) trivial (fun r5 w6 q7 => ?_)
    rw [q7.1, q7.2]
    refine M.run 1 (pc' := 19) (lv' := [some (vr kb), some (vi ((c : Nat) : Int)), some (vi y), some (vi z)]) (st' := [vi (bEg (bPs c 30) y z)]) rfl ?_
    exact M.iret rfl (Nat.zero_le _) (Nat.zero_le _) ⟨reI (bEg_in.trans (ite_congr (propext ⟨fun q => ⟨h4, q⟩, fun q => q.2⟩) (fun _ => rfl) (fun _ => rfl))), rfl⟩
set_option maxHeartbeats 4000000 in
set_option maxRecDepth 100000 in
theorem kX10_within (l : Launch) (G : GT) (kb : Nat) (tl fx fx2 : Nat → Int) (X : Nat → Int → Option Gn) (cl : Nat → Int) (D : Dy) (L : List Dy) (tl2 : Nat → Int) (D2 : Dy) (L2 : List Dy) (tp : Nat → Int) (nt fs fp : Int) (hT : Tok tl) (n : Int) (hd : Dok n D) (hn : n ≤ 1500000000) (hJ : Jok D) (hi : Inv D) (h9 : D.1 18 ≤ 9999) (hZ : Tz tl) (hru : -1 ≤ tl 2 ∧ tl 2 < tl 1) (x : Int) (y : Int) (z : Int) (hx : -2147483648 ≤ x ∧ x ≤ 2147483647) (hy : -2147483648 ≤ y ∧ y ≤ 2147483647) (hz : -2147483648 ≤ z ∧ z ≤ 2147483647)  : Ctr l G yX10_within cX10_within 4 ((Option.some Jvm.ClassFile.FieldType.int)) 4 0 0 [vr kb, vi x, vi y, vi z] (fun w => isEn G (kb + 850) (aA kb) (tz (kb + 1)) tl fx X cl 1 D w ∧ isKr kb fx fx2 L tl2 D2 L2 tp nt fs fp w) (fun w r w' => r = some (vi (if (0 ≤ x ∧ x ≤ 1073741823) ∧ (0 ≤ z ∧ z ≤ 30) ∧ 0 ≤ y ∧ y ≤ z then ((x.toNat &&& bIn y.toNat z.toNat : Nat) : Int) else -1)) ∧ w' = w) := by
  refine Ctr.of (t := tX10_within) (lv0 := [some (vr kb), some (vi x), some (vi y), some (vi z)]) (by decide +kernel) tX10_within_ok rfl rfl (fun w g hP M => ?_)
  refine M.run 1 (pc' := 1) (lv' := [some (vr kb), some (vi x), some (vi y), some (vi z)]) (st' := [vi x]) rfl ?_
  refine M.callS (kX0_fits l G x (qI (by omega))) cs_X10_288 cd_X0_fits rfl (st := []) rfl (by decide) (by decide) rfl (Nat.zero_le _) (Nat.zero_le _) trivial (fun r1 w2 q3 => ?_)
  rw [q3.1, q3.2]
  refine M.if_eq (tgt := 22) rfl (inI_zb _) (by decide) (fun h4 => ?_) (fun h4 => ?_)
  · skip
    replace h4 := zb_fd h4
    refine M.run 1 (pc' := 23) (lv' := [some (vr kb), some (vi x), some (vi y), some (vi z)]) (st' := [vi (-1)]) rfl ?_
    exact M.iret rfl (Nat.zero_le _) (Nat.zero_le _) ⟨reI (if_neg (by omega)).symm, rfl⟩
  · skip
    replace h4 := zb_td h4
    refine M.run 1 (pc' := 8) (lv' := [some (vr kb), some (vi x), some (vi y), some (vi z)]) (st' := [vi y]) rfl ?_
    refine M.if_lt (tgt := 22) rfl (qI (by omega)) (by decide) (fun h8 => ?_) (fun h8 => ?_)
    · skip
      refine M.run 1 (pc' := 23) (lv' := [some (vr kb), some (vi x), some (vi y), some (vi z)]) (st' := [vi (-1)]) rfl ?_
      exact M.iret rfl (Nat.zero_le _) (Nat.zero_le _) ⟨reI (if_neg (by omega)).symm, rfl⟩
    · skip
      refine M.run 2 (pc' := 13) (lv' := [some (vr kb), some (vi x), some (vi y), some (vi z)]) (st' := [vi z, vi y]) rfl ?_
      refine M.icmp_gt (tgt := 22) rfl (qI (by omega)) (qI (by omega)) (by decide) (fun h13 => ?_) (fun h13 => ?_)
      · skip
        refine M.run 1 (pc' := 23) (lv' := [some (vr kb), some (vi x), some (vi y), some (vi z)]) (st' := [vi (-1)]) rfl ?_
        exact M.iret rfl (Nat.zero_le _) (Nat.zero_le _) ⟨reI (if_neg (by omega)).symm, rfl⟩
      · skip
        refine M.run 2 (pc' := 19) (lv' := [some (vr kb), some (vi x), some (vi y), some (vi z)]) (st' := [vi 30, vi z]) rfl ?_
        refine M.icmp_le (tgt := 24) rfl (qI (by omega)) (qI (by decide)) (by decide) (fun h19 => ?_) (fun h19 => ?_)
        · skip
          obtain ⟨c, rfl⟩ := Int.eq_ofNat_of_zero_le (show (0 : Int) ≤ x from (by omega))
          obtain ⟨e, rfl⟩ := Int.eq_ofNat_of_zero_le (show (0 : Int) ≤ y from (by omega))
          obtain ⟨f, rfl⟩ := Int.eq_ofNat_of_zero_le (show (0 : Int) ≤ z from (by omega))
          refine M.run 3 (pc' := 27) (lv' := [some (vr kb), some (vi ((c : Nat) : Int)), some (vi ((e : Nat) : Int)), some (vi ((f : Nat) : Int))]) (st' := [vi ((f : Nat) : Int), vi ((e : Nat) : Int), vi ((c : Nat) : Int)]) rfl ?_
          refine M.callS (kX0_between l G e f (by omega) (by omega)) cs_X10_298 cd_X0_between rfl (st := [vi ((c : Nat) : Int)]) rfl (by decide) (by decide) rfl (Nat.zero_le _) (Nat.zero_le _) trivial (fun r5 w6 q7 => ?_)
          rw [q7.1, q7.2]
          refine M.iand (b1 := c) (b2 := bIn e f) rfl (by omega) (by have := bIn_lt (f := e) (t := f) (by omega); omega) ?_
          have hl9 := Nat.and_le_left (n := c) (m := bIn e f)
          have hr10 := Nat.and_le_right (n := c) (m := bIn e f)
          exact M.iret rfl (Nat.zero_le _) (Nat.zero_le _) ⟨reI (if_pos (by omega)).symm, rfl⟩
        · skip
          refine M.run 1 (pc' := 23) (lv' := [some (vr kb), some (vi x), some (vi y), some (vi z)]) (st' := [vi (-1)]) rfl ?_
          exact M.iret rfl (Nat.zero_le _) (Nat.zero_le _) ⟨reI (if_neg (by omega)).symm, rfl⟩
set_option maxHeartbeats 4000000 in
set_option maxRecDepth 100000 in
theorem kX10_pieces (l : Launch) (G : GT) (kb : Nat) (tl fx fx2 : Nat → Int) (X : Nat → Int → Option Gn) (cl : Nat → Int) (D : Dy) (L : List Dy) (tl2 : Nat → Int) (D2 : Dy) (L2 : List Dy) (tp : Nat → Int) (nt fs fp : Int) (hT : Tok tl) (n : Int) (hd : Dok n D) (hn : n ≤ 1500000000) (hJ : Jok D) (hi : Inv D) (h9 : D.1 18 ≤ 9999) (hZ : Tz tl) (hru : -1 ≤ tl 2 ∧ tl 2 < tl 1) (x : Int) (hx : -2147483648 ≤ x ∧ x ≤ 2147483647)  : Ctr l G yX10_pieces cX10_pieces 2 ((Option.some Jvm.ClassFile.FieldType.int)) 4 0 0 [vr kb, vi x] (fun w => isEn G (kb + 850) (aA kb) (tz (kb + 1)) tl fx X cl 1 D w ∧ isKr kb fx fx2 L tl2 D2 L2 tp nt fs fp w) (fun w r w' => r = some (vi (if 0 ≤ x ∧ x ≤ 1073741823 then (((bPs x.toNat (tl 7).toNat).length : Nat) : Int) else -1)) ∧ w' = w) := by
  refine Ctr.of (t := tX10_pieces) (lv0 := [some (vr kb), some (vi x)]) (by decide +kernel) tX10_pieces_ok rfl rfl (fun w g hP M => ?_)
  have hk7 := Tok_7 hT
  refine M.run 1 (pc' := 1) (lv' := [some (vr kb), some (vi x)]) (st' := [vi x]) rfl ?_
  refine M.callS (kX0_fits l G x (qI (by omega))) cs_X10_288 cd_X0_fits rfl (st := []) rfl (by decide) (by decide) rfl (Nat.zero_le _) (Nat.zero_le _) trivial (fun r1 w2 q3 => ?_)
  rw [q3.1, q3.2]
  refine M.if_eq (tgt := 21) rfl (inI_zb _) (by decide) (fun h4 => ?_) (fun h4 => ?_)
  · skip
    replace h4 := zb_fd h4
    refine M.run 1 (pc' := 22) (lv' := [some (vr kb), some (vi x)]) (st' := [vi (-1)]) rfl ?_
    exact M.iret rfl (Nat.zero_le _) (Nat.zero_le _) ⟨reI (if_neg (by omega)).symm, rfl⟩
  · skip
    replace h4 := zb_td h4
    obtain ⟨c, rfl⟩ := Int.eq_ofNat_of_zero_le (show (0 : Int) ≤ x from (by omega))
    refine M.run 2 (pc' := 9) (lv' := [some (vr kb), some (vi ((c : Nat) : Int))]) (st' := [vr kb, vi ((c : Nat) : Int)]) rfl ?_
    refine M.get fl_X10_23 rfl (hP.2.1) (kf := 2) (v := vr ((tz (kb + 1)) 0)) rfl ?_
    refine M.get fl_X10_80 rfl hP.1.2.1.1 (kf := 7) (v := vi (tl 7)) rfl ?_
    rw [show (tl 7) = (((tl 7).toNat : Nat) : Int) from (Int.toNat_of_nonneg (by omega)).symm]
    refine M.callS (kX0_pieceCount l G c (by omega) ((tl 7).toNat) (by omega) (by omega)) cs_X10_291 cd_X0_pieceCount rfl (st := []) rfl (by decide) (by decide) rfl (Nat.zero_le _) (Nat.zero_le _) trivial (fun r5 w6 q7 => ?_)
    rw [q7.1, q7.2]
    refine M.run 1 (pc' := 22) (lv' := [some (vr kb), some (vi ((c : Nat) : Int))]) (st' := [vi (((bPs c ((tl 7).toNat)).length : Nat) : Int)]) rfl ?_
    exact M.iret rfl (Nat.zero_le _) (Nat.zero_le _) ⟨reI (if_pos h4).symm, rfl⟩
set_option maxHeartbeats 4000000 in
set_option maxRecDepth 100000 in
theorem kX10_piece (l : Launch) (G : GT) (kb : Nat) (tl fx fx2 : Nat → Int) (X : Nat → Int → Option Gn) (cl : Nat → Int) (D : Dy) (L : List Dy) (tl2 : Nat → Int) (D2 : Dy) (L2 : List Dy) (tp : Nat → Int) (nt fs fp : Int) (hT : Tok tl) (n : Int) (hd : Dok n D) (hn : n ≤ 1500000000) (hJ : Jok D) (hi : Inv D) (h9 : D.1 18 ≤ 9999) (hZ : Tz tl) (hru : -1 ≤ tl 2 ∧ tl 2 < tl 1) (x : Int) (y : Int) (z : Int) (hx : -2147483648 ≤ x ∧ x ≤ 2147483647) (hy : -2147483648 ≤ y ∧ y ≤ 2147483647) (hz : -2147483648 ≤ z ∧ z ≤ 2147483647)  : Ctr l G yX10_piece cX10_piece 4 ((Option.some Jvm.ClassFile.FieldType.int)) 4 0 0 [vr kb, vi x, vi y, vi z] (fun w => isEn G (kb + 850) (aA kb) (tz (kb + 1)) tl fx X cl 1 D w ∧ isKr kb fx fx2 L tl2 D2 L2 tp nt fs fp w) (fun w r w' => r = some (vi (if (0 ≤ x ∧ x ≤ 1073741823) ∧ 0 ≤ y ∧ y < (((bPs x.toNat (tl 7).toNat).length : Nat) : Int) then bEg (bPs x.toNat (tl 7).toNat) y.toNat z else -1)) ∧ w' = w) := by
  refine Ctr.of (t := tX10_piece) (lv0 := [some (vr kb), some (vi x), some (vi y), some (vi z)]) (by decide +kernel) tX10_piece_ok rfl rfl (fun w g hP M => ?_)
  have hk7 := Tok_7 hT
  refine M.run 1 (pc' := 1) (lv' := [some (vr kb), some (vi x), some (vi y), some (vi z)]) (st' := [vi x]) rfl ?_
  refine M.callS (kX0_fits l G x (qI (by omega))) cs_X10_288 cd_X0_fits rfl (st := []) rfl (by decide) (by decide) rfl (Nat.zero_le _) (Nat.zero_le _) trivial (fun r1 w2 q3 => ?_)
  rw [q3.1, q3.2]
  refine M.if_eq (tgt := 23) rfl (inI_zb _) (by decide) (fun h4 => ?_) (fun h4 => ?_)
  · skip
    replace h4 := zb_fd h4
    refine M.run 1 (pc' := 24) (lv' := [some (vr kb), some (vi x), some (vi y), some (vi z)]) (st' := [vi (-1)]) rfl ?_
    exact M.iret rfl (Nat.zero_le _) (Nat.zero_le _) ⟨reI (if_neg (by omega)).symm, rfl⟩
  · skip
    replace h4 := zb_td h4
    obtain ⟨c, rfl⟩ := Int.eq_ofNat_of_zero_le (show (0 : Int) ≤ x from (by omega))
    refine M.run 2 (pc' := 9) (lv' := [some (vr kb), some (vi ((c : Nat) : Int)), some (vi y), some (vi z)]) (st' := [vr kb, vi ((c : Nat) : Int)]) rfl ?_
    refine M.get fl_X10_23 rfl (hP.2.1) (kf := 2) (v := vr ((tz (kb + 1)) 0)) rfl ?_
    refine M.get fl_X10_80 rfl hP.1.2.1.1 (kf := 7) (v := vi (tl 7)) rfl ?_
    rw [show (tl 7) = (((tl 7).toNat : Nat) : Int) from (Int.toNat_of_nonneg (by omega)).symm]
    refine M.run 2 (pc' := 17) (lv' := [some (vr kb), some (vi ((c : Nat) : Int)), some (vi y), some (vi z)]) (st' := [vi z, vi y, vi (((tl 7).toNat : Nat) : Int), vi ((c : Nat) : Int)]) rfl ?_
    refine M.callS (kX0_pieceEdge l G c (by omega) ((tl 7).toNat) (by omega) (by omega) y z (qI (by omega)) (qI (by omega))) cs_X10_294 cd_X0_pieceEdge rfl (st := []) rfl (by decide) (by decide) rfl (Nat.zero_le _) (Nat.zero_le _) trivial (fun r5 w6 q7 => ?_)
    rw [q7.1, q7.2]
    refine M.run 1 (pc' := 24) (lv' := [some (vr kb), some (vi ((c : Nat) : Int)), some (vi y), some (vi z)]) (st' := [vi (bEg (bPs c ((tl 7).toNat)) y z)]) rfl ?_
    exact M.iret rfl (Nat.zero_le _) (Nat.zero_le _) ⟨reI (bEg_in.trans (ite_congr (propext ⟨fun q => ⟨h4, q⟩, fun q => q.2⟩) (fun _ => rfl) (fun _ => rfl))), rfl⟩
set_option maxHeartbeats 4000000 in
set_option maxRecDepth 100000 in
theorem kX10_join (l : Launch) (G : GT) (kb : Nat) (tl fx fx2 : Nat → Int) (X : Nat → Int → Option Gn) (cl : Nat → Int) (D : Dy) (L : List Dy) (tl2 : Nat → Int) (D2 : Dy) (L2 : List Dy) (tp : Nat → Int) (nt fs fp : Int) (hT : Tok tl) (n : Int) (hd : Dok n D) (hn : n ≤ 1500000000) (hJ : Jok D) (hi : Inv D) (h9 : D.1 18 ≤ 9999) (hZ : Tz tl) (hru : -1 ≤ tl 2 ∧ tl 2 < tl 1) (x : Int) (y : Int) (hx : -2147483648 ≤ x ∧ x ≤ 2147483647) (hy : -2147483648 ≤ y ∧ y ≤ 2147483647)  : Ctr l G yX10_join cX10_join 3 ((Option.some Jvm.ClassFile.FieldType.int)) 2 0 0 [vr kb, vi x, vi y] (fun w => isEn G (kb + 850) (aA kb) (tz (kb + 1)) tl fx X cl 1 D w ∧ isKr kb fx fx2 L tl2 D2 L2 tp nt fs fp w) (fun w r w' => r = some (vi (if (0 ≤ x ∧ x ≤ 1073741823) ∧ 0 ≤ y ∧ y ≤ 1073741823 then ((x.toNat ||| y.toNat : Nat) : Int) else -1)) ∧ w' = w) := by
  refine Ctr.of (t := tX10_join) (lv0 := [some (vr kb), some (vi x), some (vi y)]) (by decide +kernel) tX10_join_ok rfl rfl (fun w g hP M => ?_)
  refine M.run 1 (pc' := 1) (lv' := [some (vr kb), some (vi x), some (vi y)]) (st' := [vi x]) rfl ?_
  refine M.callS (kX0_fits l G x (qI (by omega))) cs_X10_288 cd_X0_fits rfl (st := []) rfl (by decide) (by decide) rfl (Nat.zero_le _) (Nat.zero_le _) trivial (fun r1 w2 q3 => ?_)
  rw [q3.1, q3.2]
  refine M.if_eq (tgt := 20) rfl (inI_zb _) (by decide) (fun h4 => ?_) (fun h4 => ?_)
  · skip
    replace h4 := zb_fd h4
    refine M.run 1 (pc' := 21) (lv' := [some (vr kb), some (vi x), some (vi y)]) (st' := [vi (-1)]) rfl ?_
    exact M.iret rfl (Nat.zero_le _) (Nat.zero_le _) ⟨reI (if_neg (by omega)).symm, rfl⟩
  · skip
    replace h4 := zb_td h4
    refine M.run 1 (pc' := 8) (lv' := [some (vr kb), some (vi x), some (vi y)]) (st' := [vi y]) rfl ?_
    refine M.callS (kX0_fits l G y (qI (by omega))) cs_X10_288 cd_X0_fits rfl (st := []) rfl (by decide) (by decide) rfl (Nat.zero_le _) (Nat.zero_le _) trivial (fun r5 w6 q7 => ?_)
    rw [q7.1, q7.2]
    refine M.if_eq (tgt := 20) rfl (inI_zb _) (by decide) (fun h11 => ?_) (fun h11 => ?_)
    · skip
      replace h11 := zb_fd h11
      refine M.run 1 (pc' := 21) (lv' := [some (vr kb), some (vi x), some (vi y)]) (st' := [vi (-1)]) rfl ?_
      exact M.iret rfl (Nat.zero_le _) (Nat.zero_le _) ⟨reI (if_neg (by omega)).symm, rfl⟩
    · skip
      replace h11 := zb_td h11
      obtain ⟨c, rfl⟩ := Int.eq_ofNat_of_zero_le (show (0 : Int) ≤ x from (by omega))
      obtain ⟨e, rfl⟩ := Int.eq_ofNat_of_zero_le (show (0 : Int) ≤ y from (by omega))
      refine M.run 2 (pc' := 16) (lv' := [some (vr kb), some (vi ((c : Nat) : Int)), some (vi ((e : Nat) : Int))]) (st' := [vi ((e : Nat) : Int), vi ((c : Nat) : Int)]) rfl ?_
      refine M.ior (b1 := c) (b2 := e) rfl (by omega) (by omega) ?_
      refine M.run 1 (pc' := 21) (lv' := [some (vr kb), some (vi ((c : Nat) : Int)), some (vi ((e : Nat) : Int))]) (st' := [vi ((c ||| e : Nat) : Int)]) rfl ?_
      exact M.iret rfl (Nat.zero_le _) (Nat.zero_le _) ⟨reI (if_pos (by omega)).symm, rfl⟩
set_option maxHeartbeats 4000000 in
set_option maxRecDepth 100000 in
theorem kX10_less (l : Launch) (G : GT) (kb : Nat) (tl fx fx2 : Nat → Int) (X : Nat → Int → Option Gn) (cl : Nat → Int) (D : Dy) (L : List Dy) (tl2 : Nat → Int) (D2 : Dy) (L2 : List Dy) (tp : Nat → Int) (nt fs fp : Int) (hT : Tok tl) (n : Int) (hd : Dok n D) (hn : n ≤ 1500000000) (hJ : Jok D) (hi : Inv D) (h9 : D.1 18 ≤ 9999) (hZ : Tz tl) (hru : -1 ≤ tl 2 ∧ tl 2 < tl 1) (x : Int) (y : Int) (hx : -2147483648 ≤ x ∧ x ≤ 2147483647) (hy : -2147483648 ≤ y ∧ y ≤ 2147483647)  : Ctr l G yX10_less cX10_less 3 ((Option.some Jvm.ClassFile.FieldType.int)) 2 0 0 [vr kb, vi x, vi y] (fun w => isEn G (kb + 850) (aA kb) (tz (kb + 1)) tl fx X cl 1 D w ∧ isKr kb fx fx2 L tl2 D2 L2 tp nt fs fp w) (fun w r w' => r = some (vi (if (0 ≤ x ∧ x ≤ 1073741823) ∧ 0 ≤ y ∧ y ≤ 1073741823 then ((bDf x.toNat y.toNat : Nat) : Int) else -1)) ∧ w' = w) := by
  refine Ctr.of (t := tX10_less) (lv0 := [some (vr kb), some (vi x), some (vi y)]) (by decide +kernel) tX10_less_ok rfl rfl (fun w g hP M => ?_)
  refine M.run 1 (pc' := 1) (lv' := [some (vr kb), some (vi x), some (vi y)]) (st' := [vi x]) rfl ?_
  refine M.callS (kX0_fits l G x (qI (by omega))) cs_X10_288 cd_X0_fits rfl (st := []) rfl (by decide) (by decide) rfl (Nat.zero_le _) (Nat.zero_le _) trivial (fun r1 w2 q3 => ?_)
  rw [q3.1, q3.2]
  refine M.if_eq (tgt := 22) rfl (inI_zb _) (by decide) (fun h4 => ?_) (fun h4 => ?_)
  · skip
    replace h4 := zb_fd h4
    refine M.run 1 (pc' := 23) (lv' := [some (vr kb), some (vi x), some (vi y)]) (st' := [vi (-1)]) rfl ?_
    exact M.iret rfl (Nat.zero_le _) (Nat.zero_le _) ⟨reI (if_neg (by omega)).symm, rfl⟩
  · skip
    replace h4 := zb_td h4
    refine M.run 1 (pc' := 8) (lv' := [some (vr kb), some (vi x), some (vi y)]) (st' := [vi y]) rfl ?_
    refine M.callS (kX0_fits l G y (qI (by omega))) cs_X10_288 cd_X0_fits rfl (st := []) rfl (by decide) (by decide) rfl (Nat.zero_le _) (Nat.zero_le _) trivial (fun r5 w6 q7 => ?_)
    rw [q7.1, q7.2]
    refine M.if_eq (tgt := 22) rfl (inI_zb _) (by decide) (fun h11 => ?_) (fun h11 => ?_)
    · skip
      replace h11 := zb_fd h11
      refine M.run 1 (pc' := 23) (lv' := [some (vr kb), some (vi x), some (vi y)]) (st' := [vi (-1)]) rfl ?_
      exact M.iret rfl (Nat.zero_le _) (Nat.zero_le _) ⟨reI (if_neg (by omega)).symm, rfl⟩
    · skip
      replace h11 := zb_td h11
      obtain ⟨c, rfl⟩ := Int.eq_ofNat_of_zero_le (show (0 : Int) ≤ x from (by omega))
      obtain ⟨e, rfl⟩ := Int.eq_ofNat_of_zero_le (show (0 : Int) ≤ y from (by omega))
      refine M.run 3 (pc' := 17) (lv' := [some (vr kb), some (vi ((c : Nat) : Int)), some (vi ((e : Nat) : Int))]) (st' := [vi (-1), vi ((e : Nat) : Int), vi ((c : Nat) : Int)]) rfl ?_
      refine M.ixm1 (b1 := e) rfl ?_
      refine M.iandn (b1 := c) (b2 := e) rfl (by omega) (by omega) ?_
      refine M.run 1 (pc' := 23) (lv' := [some (vr kb), some (vi ((c : Nat) : Int)), some (vi ((e : Nat) : Int))]) (st' := [vi ((bDf c e : Nat) : Int)]) rfl ?_
      exact M.iret rfl (Nat.zero_le _) (Nat.zero_le _) ⟨reI (if_pos (by omega)).symm, rfl⟩
set_option maxHeartbeats 4000000 in
set_option maxRecDepth 100000 in
theorem kX10_longest (l : Launch) (G : GT) (kb : Nat) (tl fx fx2 : Nat → Int) (X : Nat → Int → Option Gn) (cl : Nat → Int) (D : Dy) (L : List Dy) (tl2 : Nat → Int) (D2 : Dy) (L2 : List Dy) (tp : Nat → Int) (nt fs fp : Int) (hT : Tok tl) (n : Int) (hd : Dok n D) (hn : n ≤ 1500000000) (hJ : Jok D) (hi : Inv D) (h9 : D.1 18 ≤ 9999) (hZ : Tz tl) (hru : -1 ≤ tl 2 ∧ tl 2 < tl 1) (x : Int) (hx : -2147483648 ≤ x ∧ x ≤ 2147483647)  : Ctr l G yX10_longest cX10_longest 2 ((Option.some Jvm.ClassFile.FieldType.int)) 3 0 0 [vr kb, vi x] (fun w => isEn G (kb + 850) (aA kb) (tz (kb + 1)) tl fx X cl 1 D w ∧ isKr kb fx fx2 L tl2 D2 L2 tp nt fs fp w) (fun w r w' => r = some (vi (if 0 ≤ x ∧ x ≤ 1073741823 then ((mLg x.toNat 30 : Nat) : Int) else -1)) ∧ w' = w) := by
  refine Ctr.of (t := tX10_longest) (lv0 := [some (vr kb), some (vi x)]) (by decide +kernel) tX10_longest_ok rfl rfl (fun w g hP M => ?_)
  refine M.run 1 (pc' := 1) (lv' := [some (vr kb), some (vi x)]) (st' := [vi x]) rfl ?_
  refine M.callS (kX0_fits l G x (qI (by omega))) cs_X10_288 cd_X0_fits rfl (st := []) rfl (by decide) (by decide) rfl (Nat.zero_le _) (Nat.zero_le _) trivial (fun r1 w2 q3 => ?_)
  rw [q3.1, q3.2]
  refine M.if_eq (tgt := 14) rfl (inI_zb _) (by decide) (fun h4 => ?_) (fun h4 => ?_)
  · skip
    replace h4 := zb_fd h4
    refine M.run 1 (pc' := 15) (lv' := [some (vr kb), some (vi x)]) (st' := [vi (-1)]) rfl ?_
    exact M.iret rfl (Nat.zero_le _) (Nat.zero_le _) ⟨reI (if_neg (by omega)).symm, rfl⟩
  · skip
    replace h4 := zb_td h4
    obtain ⟨c, rfl⟩ := Int.eq_ofNat_of_zero_le (show (0 : Int) ≤ x from (by omega))
    refine M.run 1 (pc' := 8) (lv' := [some (vr kb), some (vi ((c : Nat) : Int))]) (st' := [vi ((c : Nat) : Int)]) rfl ?_
    refine M.callS (kX0_longestRun l G c (by omega)) cs_X10_301 cd_X0_longestRun rfl (st := []) rfl (by decide) (by decide) rfl (Nat.zero_le _) (Nat.zero_le _) trivial (fun r5 w6 q7 => ?_)
    rw [q7.1, q7.2]
    refine M.run 1 (pc' := 15) (lv' := [some (vr kb), some (vi ((c : Nat) : Int))]) (st' := [vi ((mLg c 30 : Nat) : Int)]) rfl ?_
    exact M.iret rfl (Nat.zero_le _) (Nat.zero_le _) ⟨reI (if_pos h4).symm, rfl⟩
theorem bPs30_len (v : Nat) : (bPs v 30).length ≤ 30 := bPsF_len v 30 (by decide) 30 0 (by omega)
theorem spn_a {v : Nat} {i z : Int} (hv : v < 1073741824) (h : i = -1) : (if (0 : Int) ≤ ((v : Nat) : Int) ∧ ((v : Nat) : Int) ≤ 1073741823 then (((bPs (((v : Nat) : Int)).toNat 30).length : Nat) : Int) else -1) = mSpn v i z := by
  unfold mSpn
  rw [if_pos (by omega), if_pos h]
  rfl
theorem spn_b {v : Nat} {i z e : Int} (hv : v < 1073741824) (h : ¬ i = -1) (he : e = (if ((0 : Int) ≤ ((v : Nat) : Int) ∧ ((v : Nat) : Int) ≤ 1073741823) ∧ 0 ≤ i ∧ i < (((bPs (((v : Nat) : Int)).toNat 30).length : Nat) : Int) then bEg (bPs (((v : Nat) : Int)).toNat 30) i.toNat z else -1)) : (e = -1 → -2 = mSpn v i z) ∧ (¬ e = -1 → e = mSpn v i z) := by
  have e2 : (((v : Nat) : Int)).toNat = v := rfl
  rw [e2] at he
  unfold mSpn
  rw [if_neg h]
  by_cases q : 0 ≤ i ∧ i < (((bPs v 30).length : Nat) : Int)
  · rw [if_pos ⟨by omega, q⟩] at he
    rw [if_pos q]
    have h0 := bEg_p (L := bPs v 30) (y := ((i.toNat : Nat) : Int)) (z := z) ⟨by omega, by omega⟩
    exact ⟨fun z1 => by omega, fun _ => he⟩
  · rw [if_neg (fun z1 => q z1.2)] at he
    rw [if_neg q]
    exact ⟨fun _ => rfl, fun z1 => absurd he z1⟩
theorem bEg_b2 {v : Nat} {i z e : Int} (he : e = (if ((0 : Int) ≤ ((v : Nat) : Int) ∧ ((v : Nat) : Int) ≤ 1073741823) ∧ 0 ≤ i ∧ i < (((bPs (((v : Nat) : Int)).toNat 30).length : Nat) : Int) then bEg (bPs (((v : Nat) : Int)).toNat 30) i.toNat z else -1)) : -1 ≤ e ∧ e ≤ 30 := by
  have hb : -1 ≤ bEg (bPs v 30) i.toNat z ∧ bEg (bPs v 30) i.toNat z ≤ 30 := by
    unfold bEg
    rw [if_pos (by omega)]
    split
    · next q hq =>
      have hm := List.mem_of_getElem? hq
      have hp := bPs_ok (b := v) (sz := 30) (by decide) q hm
      split <;> omega
    · exact ⟨by decide, by decide⟩
  rw [he]
  split
  · exact hb
  · exact ⟨by decide, by decide⟩

set_option maxHeartbeats 4000000 in
set_option maxRecDepth 100000 in
theorem kX10_spanOf (l : Launch) (G : GT) (kb : Nat) (tl fx fx2 : Nat → Int) (X : Nat → Int → Option Gn) (cl : Nat → Int) (D : Dy) (L : List Dy) (tl2 : Nat → Int) (D2 : Dy) (L2 : List Dy) (tp : Nat → Int) (nt fs fp : Int) (hT : Tok tl) (n : Int) (hd : Dok n D) (hn : n ≤ 1500000000) (hJ : Jok D) (hi : Inv D) (h9 : D.1 18 ≤ 9999) (hZ : Tz tl) (hru : -1 ≤ tl 2 ∧ tl 2 < tl 1) (v : Nat) (hv : v < 1073741824) (i : Int) (z : Int) (hi_ : -2147483648 ≤ i ∧ i ≤ 2147483647) (hz : -2147483648 ≤ z ∧ z ≤ 2147483647)  : Ctr l G yX10_spanOf cX10_spanOf 5 ((Option.some Jvm.ClassFile.FieldType.int)) 5 0 0 [vr kb, vi ((v : Nat) : Int), vi i, vi z] (fun w => isEn G (kb + 850) (aA kb) (tz (kb + 1)) tl fx X cl 1 D w ∧ isKr kb fx fx2 L tl2 D2 L2 tp nt fs fp w) (fun w r w' => r = some (vi (mSpn v i z)) ∧ w' = w) := by
  refine Ctr.of (t := tX10_spanOf) (lv0 := [some (vr kb), some (vi ((v : Nat) : Int)), some (vi i), some (vi z), none]) (by decide +kernel) tX10_spanOf_ok rfl rfl (fun w g hP M => ?_)
  have hl := bPs30_len v
  refine M.run 2 (pc' := 2) (lv' := [some (vr kb), some (vi ((v : Nat) : Int)), some (vi i), some (vi z), none]) (st' := [vi (-1), vi i]) rfl ?_
  refine M.icmp_ne (tgt := 11) rfl (qI (by omega)) (qI (by decide)) (by decide) (fun h2 => ?_) (fun h2 => ?_)
  · skip
    refine M.run 4 (pc' := 15) (lv' := [some (vr kb), some (vi ((v : Nat) : Int)), some (vi i), some (vi z), none]) (st' := [vi z, vi i, vi ((v : Nat) : Int), vr kb]) rfl ?_
    refine M.callV (kX10_span l G kb tl fx fx2 X cl D L tl2 D2 L2 tp nt fs fp hT n hd (by omega) hJ hi h9 hZ hru ((v : Nat) : Int) i z (by omega) (by omega) (by omega)) cv_X10_224 cd_X10_span rfl (st := []) rfl (hP.2.1) (by decide) (by decide) rfl (Nat.zero_le _) (Nat.zero_le _) ⟨hP.1, hP.2⟩ (fun r1 w2 q3 => ?_)
    rw [q3.1, q3.2]
    refine M.run 2 (pc' := 22) (lv' := [some (vr kb), some (vi ((v : Nat) : Int)), some (vi i), some (vi z), some (vi (if (0 ≤ ((v : Nat) : Int) ∧ ((v : Nat) : Int) ≤ 1073741823) ∧ 0 ≤ i ∧ i < (((bPs (((v : Nat) : Int)).toNat 30).length : Nat) : Int) then bEg (bPs (((v : Nat) : Int)).toNat 30) (i).toNat z else -1))]) (st' := [vi (if (0 ≤ ((v : Nat) : Int) ∧ ((v : Nat) : Int) ≤ 1073741823) ∧ 0 ≤ i ∧ i < (((bPs (((v : Nat) : Int)).toNat 30).length : Nat) : Int) then bEg (bPs (((v : Nat) : Int)).toNat 30) (i).toNat z else -1)]) rfl ?_
    obtain ⟨e, he⟩ : ∃ e : Int, e = (if (0 ≤ ((v : Nat) : Int) ∧ ((v : Nat) : Int) ≤ 1073741823) ∧ 0 ≤ i ∧ i < (((bPs (((v : Nat) : Int)).toNat 30).length : Nat) : Int) then bEg (bPs (((v : Nat) : Int)).toNat 30) (i).toNat z else -1) := ⟨_, rfl⟩
    rw [← he]
    have hse := spn_b hv h2 he
    have heb : -1 ≤ e ∧ e ≤ 30 := bEg_b2 he
    refine M.run 1 (pc' := 23) (lv' := [some (vr kb), some (vi ((v : Nat) : Int)), some (vi i), some (vi z), some (vi e)]) (st' := [vi (-1), vi e]) rfl ?_
    refine M.icmp_ne (tgt := 31) rfl (qI (by omega)) (qI (by decide)) (by decide) (fun h23 => ?_) (fun h23 => ?_)
    · skip
      refine M.run 1 (pc' := 33) (lv' := [some (vr kb), some (vi ((v : Nat) : Int)), some (vi i), some (vi z), some (vi e)]) (st' := [vi e]) rfl ?_
      exact M.iret rfl (Nat.zero_le _) (Nat.zero_le _) ⟨reI (hse.2 h23), rfl⟩
    · skip
      refine M.run 2 (pc' := 33) (lv' := [some (vr kb), some (vi ((v : Nat) : Int)), some (vi i), some (vi z), some (vi e)]) (st' := [vi (-2)]) rfl ?_
      exact M.iret rfl (Nat.zero_le _) (Nat.zero_le _) ⟨reI (hse.1 h23), rfl⟩
  · skip
    refine M.run 2 (pc' := 7) (lv' := [some (vr kb), some (vi ((v : Nat) : Int)), some (vi i), some (vi z), none]) (st' := [vi ((v : Nat) : Int), vr kb]) rfl ?_
    refine M.callV (kX10_spans l G kb tl fx fx2 X cl D L tl2 D2 L2 tp nt fs fp hT n hd (by omega) hJ hi h9 hZ hru ((v : Nat) : Int) (by omega)) cv_X10_221 cd_X10_spans rfl (st := []) rfl (hP.2.1) (by decide) (by decide) rfl (Nat.zero_le _) (Nat.zero_le _) ⟨hP.1, hP.2⟩ (fun r5 w6 q7 => ?_)
    rw [q7.1, q7.2]
    exact M.iret rfl (Nat.zero_le _) (Nat.zero_le _) ⟨reI (spn_a hv h2), rfl⟩
set_option maxHeartbeats 4000000 in
set_option maxRecDepth 100000 in
theorem kX10_claims (l : Launch) (G : GT) (kb : Nat) (tl fx fx2 : Nat → Int) (X : Nat → Int → Option Gn) (cl : Nat → Int) (D : Dy) (L : List Dy) (tl2 : Nat → Int) (D2 : Dy) (L2 : List Dy) (tp : Nat → Int) (nt fs fp : Int) (hT : Tok tl) (n : Int) (hd : Dok n D) (hn : n ≤ 1500000000) (hJ : Jok D) (hi : Inv D) (h9 : D.1 18 ≤ 9999) (hZ : Tz tl) (hru : -1 ≤ tl 2 ∧ tl 2 < tl 1) (x : Int) (y : Int) (z : Int) (hx : -2147483648 ≤ x ∧ x ≤ 2147483647) (hy : -2147483648 ≤ y ∧ y ≤ 2147483647) (hz : -2147483648 ≤ z ∧ z ≤ 2147483647)  : Ctr l G yX10_claims cX10_claims 4 ((Option.some Jvm.ClassFile.FieldType.int)) 6 0 0 [vr kb, vi x, vi y, vi z] (fun w => isEn G (kb + 850) (aA kb) (tz (kb + 1)) tl fx X cl 1 D w ∧ isKr kb fx fx2 L tl2 D2 L2 tp nt fs fp w) (fun w r w' => r = some (vi (if 0 ≤ x ∧ x < tl 0 then mSpn (D.1 (34 + x.toNat)).toNat y z else -2)) ∧ w' = w) := by
  refine Ctr.of (t := tX10_claims) (lv0 := [some (vr kb), some (vi x), some (vi y), some (vi z)]) (by decide +kernel) tX10_claims_ok rfl rfl (fun w g hP M => ?_)
  have hk0 : 0 ≤ tl 0 ∧ tl 0 ≤ 3 := hT.1 0 (by decide)
  refine M.run 1 (pc' := 1) (lv' := [some (vr kb), some (vi x), some (vi y), some (vi z)]) (st' := [vr kb]) rfl ?_
  refine M.get fl_X10_23 rfl (hP.2.1) (kf := 2) (v := vr ((tz (kb + 1)) 0)) rfl ?_
  refine M.run 1 (pc' := 5) (lv' := [some (vr kb), some (vi x), some (vi y), some (vi z)]) (st' := [vi x, vr ((tz (kb + 1)) 0)]) rfl ?_
  refine M.callV (qO_has l G (kb + 850) (aA kb) (tz (kb + 1)) tl fx X cl 1 D hT x ⟨by omega, by omega⟩) cv_X10_189 cd_X9_hasBlock rfl (st := []) rfl hP.1.2.1.1 (by decide) (by decide) rfl (Nat.zero_le _) (Nat.zero_le _) hP.1 (fun r1 w2 q3 => ?_)
  rw [q3.1, q3.2]
  refine M.if_ne (tgt := 14) rfl (inI_zb _) (by decide) (fun h8 => ?_) (fun h8 => ?_)
  · skip
    replace h8 := zb_td h8
    obtain ⟨c, rfl⟩ := Int.eq_ofNat_of_zero_le (show (0 : Int) ≤ x from (by omega))
    have hbt : 0 ≤ D.1 (34 + c) ∧ D.1 (34 + c) ≤ 1073741823 := Dok_clm hd (by omega)
    refine M.run 2 (pc' := 16) (lv' := [some (vr kb), some (vi ((c : Nat) : Int)), some (vi y), some (vi z)]) (st' := [vr kb, vr kb]) rfl ?_
    refine M.get fl_X10_28 rfl (hP.2.1) (kf := 3) (v := vr ((aA kb) 0)) rfl ?_
    refine M.get fl_X10_192 rfl hP.1.1.1 (kf := 5) (v := vr ((aA kb) 1)) rfl ?_
    refine M.run 2 (pc' := 24) (lv' := [some (vr kb), some (vi ((c : Nat) : Int)), some (vi y), some (vi z)]) (st' := [vi 2, vi ((c : Nat) : Int), vr ((aA kb) 1), vr kb]) rfl ?_
    refine M.callV (qB_get l G (kb + 850) (aA kb) (tz (kb + 1)) tl fx X cl 1 D c 2 (by omega) (by decide)) cv_X10_202 cd_X4_get rfl (st := [vr kb]) rfl (iS_b hP.1.1).1 (by decide) (by decide) rfl (Nat.zero_le _) (Nat.zero_le _) hP.1 (fun r5 w6 q7 => ?_)
    rw [q7.1, q7.2]
    rw [show D.1 (28 + 3 * 2 + c) = D.1 (34 + c) from rfl]
    rw [show D.1 (34 + c) = (((D.1 (34 + c)).toNat : Nat) : Int) from (Int.toNat_of_nonneg hbt.1).symm]
    refine M.run 2 (pc' := 29) (lv' := [some (vr kb), some (vi ((c : Nat) : Int)), some (vi y), some (vi z)]) (st' := [vi z, vi y, vi (((D.1 (34 + c)).toNat : Nat) : Int), vr kb]) rfl ?_
    refine M.callV (kX10_spanOf l G kb tl fx fx2 X cl D L tl2 D2 L2 tp nt fs fp hT n hd (by omega) hJ hi h9 hZ hru ((D.1 (34 + c)).toNat) (by omega) y z (by omega) (by omega)) cv_X10_212 cd_X10_spanOf rfl (st := []) rfl (hP.2.1) (by decide) (by decide) rfl (Nat.zero_le _) (Nat.zero_le _) ⟨hP.1, hP.2⟩ (fun r9 w10 q11 => ?_)
    rw [q11.1, q11.2]
    exact M.iret rfl (Nat.zero_le _) (Nat.zero_le _) ⟨reI (if_pos h8).symm, rfl⟩
  · skip
    replace h8 := zb_fd h8
    refine M.run 1 (pc' := 13) (lv' := [some (vr kb), some (vi x), some (vi y), some (vi z)]) (st' := [vi (-2)]) rfl ?_
    exact M.iret rfl (Nat.zero_le _) (Nat.zero_le _) ⟨reI (if_neg h8).symm, rfl⟩
set_option maxHeartbeats 4000000 in
set_option maxRecDepth 100000 in
theorem kX10_come (l : Launch) (G : GT) (kb : Nat) (tl fx fx2 : Nat → Int) (X : Nat → Int → Option Gn) (cl : Nat → Int) (D : Dy) (L : List Dy) (tl2 : Nat → Int) (D2 : Dy) (L2 : List Dy) (tp : Nat → Int) (nt fs fp : Int) (hT : Tok tl) (n : Int) (hd : Dok n D) (hn : n ≤ 1500000000) (hJ : Jok D) (hi : Inv D) (h9 : D.1 18 ≤ 9999) (hZ : Tz tl) (hru : -1 ≤ tl 2 ∧ tl 2 < tl 1) (x : Int) (y : Int) (z : Int) (hx : -2147483648 ≤ x ∧ x ≤ 2147483647) (hy : -2147483648 ≤ y ∧ y ≤ 2147483647) (hz : -2147483648 ≤ z ∧ z ≤ 2147483647)  : Ctr l G yX10_come cX10_come 4 ((Option.some Jvm.ClassFile.FieldType.int)) 6 0 0 [vr kb, vi x, vi y, vi z] (fun w => isEn G (kb + 850) (aA kb) (tz (kb + 1)) tl fx X cl 1 D w ∧ isKr kb fx fx2 L tl2 D2 L2 tp nt fs fp w) (fun w r w' => r = some (vi (if 0 ≤ x ∧ x < tl 0 then mSpn (D.1 (37 + x.toNat)).toNat y z else -2)) ∧ w' = w) := by
  refine Ctr.of (t := tX10_come) (lv0 := [some (vr kb), some (vi x), some (vi y), some (vi z)]) (by decide +kernel) tX10_come_ok rfl rfl (fun w g hP M => ?_)
  have hk0 : 0 ≤ tl 0 ∧ tl 0 ≤ 3 := hT.1 0 (by decide)
  refine M.run 1 (pc' := 1) (lv' := [some (vr kb), some (vi x), some (vi y), some (vi z)]) (st' := [vr kb]) rfl ?_
  refine M.get fl_X10_23 rfl (hP.2.1) (kf := 2) (v := vr ((tz (kb + 1)) 0)) rfl ?_
  refine M.run 1 (pc' := 5) (lv' := [some (vr kb), some (vi x), some (vi y), some (vi z)]) (st' := [vi x, vr ((tz (kb + 1)) 0)]) rfl ?_
  refine M.callV (qO_has l G (kb + 850) (aA kb) (tz (kb + 1)) tl fx X cl 1 D hT x ⟨by omega, by omega⟩) cv_X10_189 cd_X9_hasBlock rfl (st := []) rfl hP.1.2.1.1 (by decide) (by decide) rfl (Nat.zero_le _) (Nat.zero_le _) hP.1 (fun r1 w2 q3 => ?_)
  rw [q3.1, q3.2]
  refine M.if_ne (tgt := 14) rfl (inI_zb _) (by decide) (fun h8 => ?_) (fun h8 => ?_)
  · skip
    replace h8 := zb_td h8
    obtain ⟨c, rfl⟩ := Int.eq_ofNat_of_zero_le (show (0 : Int) ≤ x from (by omega))
    have hbt : 0 ≤ D.1 (37 + c) ∧ D.1 (37 + c) ≤ 1073741823 := Dok_com hd (by omega)
    refine M.run 2 (pc' := 16) (lv' := [some (vr kb), some (vi ((c : Nat) : Int)), some (vi y), some (vi z)]) (st' := [vr kb, vr kb]) rfl ?_
    refine M.get fl_X10_28 rfl (hP.2.1) (kf := 3) (v := vr ((aA kb) 0)) rfl ?_
    refine M.get fl_X10_192 rfl hP.1.1.1 (kf := 5) (v := vr ((aA kb) 1)) rfl ?_
    refine M.run 2 (pc' := 24) (lv' := [some (vr kb), some (vi ((c : Nat) : Int)), some (vi y), some (vi z)]) (st' := [vi 3, vi ((c : Nat) : Int), vr ((aA kb) 1), vr kb]) rfl ?_
    refine M.callV (qB_get l G (kb + 850) (aA kb) (tz (kb + 1)) tl fx X cl 1 D c 3 (by omega) (by decide)) cv_X10_202 cd_X4_get rfl (st := [vr kb]) rfl (iS_b hP.1.1).1 (by decide) (by decide) rfl (Nat.zero_le _) (Nat.zero_le _) hP.1 (fun r5 w6 q7 => ?_)
    rw [q7.1, q7.2]
    rw [show D.1 (28 + 3 * 3 + c) = D.1 (37 + c) from rfl]
    rw [show D.1 (37 + c) = (((D.1 (37 + c)).toNat : Nat) : Int) from (Int.toNat_of_nonneg hbt.1).symm]
    refine M.run 2 (pc' := 29) (lv' := [some (vr kb), some (vi ((c : Nat) : Int)), some (vi y), some (vi z)]) (st' := [vi z, vi y, vi (((D.1 (37 + c)).toNat : Nat) : Int), vr kb]) rfl ?_
    refine M.callV (kX10_spanOf l G kb tl fx fx2 X cl D L tl2 D2 L2 tp nt fs fp hT n hd (by omega) hJ hi h9 hZ hru ((D.1 (37 + c)).toNat) (by omega) y z (by omega) (by omega)) cv_X10_212 cd_X10_spanOf rfl (st := []) rfl (hP.2.1) (by decide) (by decide) rfl (Nat.zero_le _) (Nat.zero_le _) ⟨hP.1, hP.2⟩ (fun r9 w10 q11 => ?_)
    rw [q11.1, q11.2]
    exact M.iret rfl (Nat.zero_le _) (Nat.zero_le _) ⟨reI (if_pos h8).symm, rfl⟩
  · skip
    replace h8 := zb_fd h8
    refine M.run 1 (pc' := 13) (lv' := [some (vr kb), some (vi x), some (vi y), some (vi z)]) (st' := [vi (-2)]) rfl ?_
    exact M.iret rfl (Nat.zero_le _) (Nat.zero_le _) ⟨reI (if_neg h8).symm, rfl⟩
set_option maxHeartbeats 4000000 in
set_option maxRecDepth 100000 in
theorem kX10_gaps (l : Launch) (G : GT) (kb : Nat) (tl fx fx2 : Nat → Int) (X : Nat → Int → Option Gn) (cl : Nat → Int) (D : Dy) (L : List Dy) (tl2 : Nat → Int) (D2 : Dy) (L2 : List Dy) (tp : Nat → Int) (nt fs fp : Int) (hT : Tok tl) (n : Int) (hd : Dok n D) (hn : n ≤ 1500000000) (hJ : Jok D) (hi : Inv D) (h9 : D.1 18 ≤ 9999) (hZ : Tz tl) (hru : -1 ≤ tl 2 ∧ tl 2 < tl 1) (x : Int) (y : Int) (z : Int) (hx : -2147483648 ≤ x ∧ x ≤ 2147483647) (hy : -2147483648 ≤ y ∧ y ≤ 2147483647) (hz : -2147483648 ≤ z ∧ z ≤ 2147483647)  : Ctr l G yX10_gaps cX10_gaps 4 ((Option.some Jvm.ClassFile.FieldType.int)) 6 0 0 [vr kb, vi x, vi y, vi z] (fun w => isEn G (kb + 850) (aA kb) (tz (kb + 1)) tl fx X cl 1 D w ∧ isKr kb fx fx2 L tl2 D2 L2 tp nt fs fp w) (fun w r w' => r = some (vi (if 0 ≤ x ∧ x < tl 0 then mSpn (mMiss tl x.toNat (D.1 (34 + x.toNat)).toNat) y z else -2)) ∧ w' = w) := by
  refine Ctr.of (t := tX10_gaps) (lv0 := [some (vr kb), some (vi x), some (vi y), some (vi z)]) (by decide +kernel) tX10_gaps_ok rfl rfl (fun w g hP M => ?_)
  have hk0 : 0 ≤ tl 0 ∧ tl 0 ≤ 3 := hT.1 0 (by decide)
  refine M.run 1 (pc' := 1) (lv' := [some (vr kb), some (vi x), some (vi y), some (vi z)]) (st' := [vr kb]) rfl ?_
  refine M.get fl_X10_23 rfl (hP.2.1) (kf := 2) (v := vr ((tz (kb + 1)) 0)) rfl ?_
  refine M.run 1 (pc' := 5) (lv' := [some (vr kb), some (vi x), some (vi y), some (vi z)]) (st' := [vi x, vr ((tz (kb + 1)) 0)]) rfl ?_
  refine M.callV (qO_has l G (kb + 850) (aA kb) (tz (kb + 1)) tl fx X cl 1 D hT x ⟨by omega, by omega⟩) cv_X10_189 cd_X9_hasBlock rfl (st := []) rfl hP.1.2.1.1 (by decide) (by decide) rfl (Nat.zero_le _) (Nat.zero_le _) hP.1 (fun r1 w2 q3 => ?_)
  rw [q3.1, q3.2]
  refine M.if_ne (tgt := 14) rfl (inI_zb _) (by decide) (fun h8 => ?_) (fun h8 => ?_)
  · skip
    replace h8 := zb_td h8
    obtain ⟨c, rfl⟩ := Int.eq_ofNat_of_zero_le (show (0 : Int) ≤ x from (by omega))
    have hbt := Dok_clm hd (x := c) (by omega)
    have hrd := Tok_red hT (x := c) (by omega)
    have hmm := mMiss_lt hT (b := c) (by omega) (c := (D.1 (34 + c)).toNat)
    have hmm2 : bDf (bFs (tl (15 + c)).toNat) (D.1 (34 + c)).toNat < 1073741824 := hmm
    have hfs := bFs_lt (n := (tl (15 + c)).toNat) (by omega)
    refine M.run 2 (pc' := 16) (lv' := [some (vr kb), some (vi ((c : Nat) : Int)), some (vi y), some (vi z)]) (st' := [vr kb, vr kb]) rfl ?_
    refine M.get fl_X10_23 rfl (hP.2.1) (kf := 2) (v := vr ((tz (kb + 1)) 0)) rfl ?_
    refine M.run 1 (pc' := 20) (lv' := [some (vr kb), some (vi ((c : Nat) : Int)), some (vi y), some (vi z)]) (st' := [vi ((c : Nat) : Int), vr ((tz (kb + 1)) 0), vr kb]) rfl ?_
    refine M.callV (qO_redZ l G (kb + 850) (aA kb) (tz (kb + 1)) tl fx X cl 1 D hT hZ c (by omega)) cv_X10_199 cd_X9_redOf rfl (st := [vr kb]) rfl hP.1.2.1.1 (by decide) (by decide) rfl (Nat.zero_le _) (Nat.zero_le _) hP.1 (fun r5 w6 q7 => ?_)
    rw [q7.1, q7.2]
    rw [show tl (15 + c) = (((tl (15 + c)).toNat : Nat) : Int) from (Int.toNat_of_nonneg hrd.1).symm]
    refine M.callS (kX0_first l G ((tl (15 + c)).toNat) (by omega)) cs_X10_216 cd_X0_first rfl (st := [vr kb]) rfl (by decide) (by decide) rfl (Nat.zero_le _) (Nat.zero_le _) trivial (fun r9 w10 q11 => ?_)
    rw [q11.1, q11.2]
    refine M.run 1 (pc' := 27) (lv' := [some (vr kb), some (vi ((c : Nat) : Int)), some (vi y), some (vi z)]) (st' := [vr kb, vi ((bFs ((tl (15 + c)).toNat) : Nat) : Int), vr kb]) rfl ?_
    refine M.get fl_X10_28 rfl (hP.2.1) (kf := 3) (v := vr ((aA kb) 0)) rfl ?_
    refine M.get fl_X10_192 rfl hP.1.1.1 (kf := 5) (v := vr ((aA kb) 1)) rfl ?_
    refine M.run 2 (pc' := 35) (lv' := [some (vr kb), some (vi ((c : Nat) : Int)), some (vi y), some (vi z)]) (st' := [vi 2, vi ((c : Nat) : Int), vr ((aA kb) 1), vi ((bFs ((tl (15 + c)).toNat) : Nat) : Int), vr kb]) rfl ?_
    refine M.callV (qB_get l G (kb + 850) (aA kb) (tz (kb + 1)) tl fx X cl 1 D c 2 (by omega) (by decide)) cv_X10_202 cd_X4_get rfl (st := [vi ((bFs ((tl (15 + c)).toNat) : Nat) : Int), vr kb]) rfl (iS_b hP.1.1).1 (by decide) (by decide) rfl (Nat.zero_le _) (Nat.zero_le _) hP.1 (fun r13 w14 q15 => ?_)
    rw [q15.1, q15.2]
    rw [show D.1 (28 + 3 * 2 + c) = D.1 (34 + c) from rfl]
    rw [show D.1 (34 + c) = (((D.1 (34 + c)).toNat : Nat) : Int) from (Int.toNat_of_nonneg hbt.1).symm]
    refine M.run 1 (pc' := 39) (lv' := [some (vr kb), some (vi ((c : Nat) : Int)), some (vi y), some (vi z)]) (st' := [vi (-1), vi (((D.1 (34 + c)).toNat : Nat) : Int), vi ((bFs ((tl (15 + c)).toNat) : Nat) : Int), vr kb]) rfl ?_
    refine M.ixm1 (b1 := (D.1 (34 + c)).toNat) rfl ?_
    refine M.iandn (b1 := bFs ((tl (15 + c)).toNat)) (b2 := (D.1 (34 + c)).toNat) rfl (by omega) (by omega) ?_
    refine M.run 2 (pc' := 43) (lv' := [some (vr kb), some (vi ((c : Nat) : Int)), some (vi y), some (vi z)]) (st' := [vi z, vi y, vi ((bDf (bFs ((tl (15 + c)).toNat)) ((D.1 (34 + c)).toNat) : Nat) : Int), vr kb]) rfl ?_
    refine M.callV (kX10_spanOf l G kb tl fx fx2 X cl D L tl2 D2 L2 tp nt fs fp hT n hd (by omega) hJ hi h9 hZ hru (bDf (bFs ((tl (15 + c)).toNat)) ((D.1 (34 + c)).toNat)) (by omega) y z (by omega) (by omega)) cv_X10_212 cd_X10_spanOf rfl (st := []) rfl (hP.2.1) (by decide) (by decide) rfl (Nat.zero_le _) (Nat.zero_le _) ⟨hP.1, hP.2⟩ (fun r17 w18 q19 => ?_)
    rw [q19.1, q19.2]
    exact M.iret rfl (Nat.zero_le _) (Nat.zero_le _) ⟨reI (if_pos h8).symm, rfl⟩
  · skip
    replace h8 := zb_fd h8
    refine M.run 1 (pc' := 13) (lv' := [some (vr kb), some (vi x), some (vi y), some (vi z)]) (st' := [vi (-2)]) rfl ?_
    exact M.iret rfl (Nat.zero_le _) (Nat.zero_le _) ⟨reI (if_neg h8).symm, rfl⟩
set_option maxHeartbeats 4000000 in
set_option maxRecDepth 100000 in
theorem kX10_whole (l : Launch) (G : GT) (kb : Nat) (tl fx fx2 : Nat → Int) (X : Nat → Int → Option Gn) (cl : Nat → Int) (D : Dy) (L : List Dy) (tl2 : Nat → Int) (D2 : Dy) (L2 : List Dy) (tp : Nat → Int) (nt fs fp : Int) (hT : Tok tl) (n : Int) (hd : Dok n D) (hn : n ≤ 1500000000) (hJ : Jok D) (hi : Inv D) (h9 : D.1 18 ≤ 9999) (hZ : Tz tl) (hru : -1 ≤ tl 2 ∧ tl 2 < tl 1) (x : Int) (hx : -2147483648 ≤ x ∧ x ≤ 2147483647)  : Ctr l G yX10_whole cX10_whole 2 ((Option.some Jvm.ClassFile.FieldType.boolean)) 3 0 0 [vr kb, vi x] (fun w => isEn G (kb + 850) (aA kb) (tz (kb + 1)) tl fx X cl 1 D w ∧ isKr kb fx fx2 L tl2 D2 L2 tp nt fs fp w) (fun w r w' => r = some (vi (zb (decide ((0 ≤ x ∧ x < tl 0) ∧ mMiss tl x.toNat (D.1 (37 + x.toNat)).toNat = 0)))) ∧ w' = w) := by
  refine Ctr.of (t := tX10_whole) (lv0 := [some (vr kb), some (vi x)]) (by decide +kernel) tX10_whole_ok rfl rfl (fun w g hP M => ?_)
  have hk0 : 0 ≤ tl 0 ∧ tl 0 ≤ 3 := hT.1 0 (by decide)
  refine M.run 1 (pc' := 1) (lv' := [some (vr kb), some (vi x)]) (st' := [vr kb]) rfl ?_
  refine M.get fl_X10_23 rfl (hP.2.1) (kf := 2) (v := vr ((tz (kb + 1)) 0)) rfl ?_
  refine M.run 1 (pc' := 5) (lv' := [some (vr kb), some (vi x)]) (st' := [vi x, vr ((tz (kb + 1)) 0)]) rfl ?_
  refine M.callV (qO_has l G (kb + 850) (aA kb) (tz (kb + 1)) tl fx X cl 1 D hT x ⟨by omega, by omega⟩) cv_X10_189 cd_X9_hasBlock rfl (st := []) rfl hP.1.2.1.1 (by decide) (by decide) rfl (Nat.zero_le _) (Nat.zero_le _) hP.1 (fun r1 w2 q3 => ?_)
  rw [q3.1, q3.2]
  refine M.if_ne (tgt := 13) rfl (inI_zb _) (by decide) (fun h8 => ?_) (fun h8 => ?_)
  · skip
    replace h8 := zb_td h8
    obtain ⟨c, rfl⟩ := Int.eq_ofNat_of_zero_le (show (0 : Int) ≤ x from (by omega))
    have hbt := Dok_com hd (x := c) (by omega)
    have hrd := Tok_red hT (x := c) (by omega)
    have hmm := mMiss_lt hT (b := c) (by omega) (c := (D.1 (37 + c)).toNat)
    have hmm2 : bDf (bFs (tl (15 + c)).toNat) (D.1 (37 + c)).toNat < 1073741824 := hmm
    have hfs := bFs_lt (n := (tl (15 + c)).toNat) (by omega)
    refine M.run 1 (pc' := 14) (lv' := [some (vr kb), some (vi ((c : Nat) : Int))]) (st' := [vr kb]) rfl ?_
    refine M.get fl_X10_23 rfl (hP.2.1) (kf := 2) (v := vr ((tz (kb + 1)) 0)) rfl ?_
    refine M.run 1 (pc' := 18) (lv' := [some (vr kb), some (vi ((c : Nat) : Int))]) (st' := [vi ((c : Nat) : Int), vr ((tz (kb + 1)) 0)]) rfl ?_
    refine M.callV (qO_redZ l G (kb + 850) (aA kb) (tz (kb + 1)) tl fx X cl 1 D hT hZ c (by omega)) cv_X10_199 cd_X9_redOf rfl (st := []) rfl hP.1.2.1.1 (by decide) (by decide) rfl (Nat.zero_le _) (Nat.zero_le _) hP.1 (fun r5 w6 q7 => ?_)
    rw [q7.1, q7.2]
    rw [show tl (15 + c) = (((tl (15 + c)).toNat : Nat) : Int) from (Int.toNat_of_nonneg hrd.1).symm]
    refine M.callS (kX0_first l G ((tl (15 + c)).toNat) (by omega)) cs_X10_216 cd_X0_first rfl (st := []) rfl (by decide) (by decide) rfl (Nat.zero_le _) (Nat.zero_le _) trivial (fun r9 w10 q11 => ?_)
    rw [q11.1, q11.2]
    refine M.run 1 (pc' := 25) (lv' := [some (vr kb), some (vi ((c : Nat) : Int))]) (st' := [vr kb, vi ((bFs ((tl (15 + c)).toNat) : Nat) : Int)]) rfl ?_
    refine M.get fl_X10_28 rfl (hP.2.1) (kf := 3) (v := vr ((aA kb) 0)) rfl ?_
    refine M.get fl_X10_192 rfl hP.1.1.1 (kf := 5) (v := vr ((aA kb) 1)) rfl ?_
    refine M.run 2 (pc' := 33) (lv' := [some (vr kb), some (vi ((c : Nat) : Int))]) (st' := [vi 3, vi ((c : Nat) : Int), vr ((aA kb) 1), vi ((bFs ((tl (15 + c)).toNat) : Nat) : Int)]) rfl ?_
    refine M.callV (qB_get l G (kb + 850) (aA kb) (tz (kb + 1)) tl fx X cl 1 D c 3 (by omega) (by decide)) cv_X10_202 cd_X4_get rfl (st := [vi ((bFs ((tl (15 + c)).toNat) : Nat) : Int)]) rfl (iS_b hP.1.1).1 (by decide) (by decide) rfl (Nat.zero_le _) (Nat.zero_le _) hP.1 (fun r13 w14 q15 => ?_)
    rw [q15.1, q15.2]
    rw [show D.1 (28 + 3 * 3 + c) = D.1 (37 + c) from rfl]
    rw [show D.1 (37 + c) = (((D.1 (37 + c)).toNat : Nat) : Int) from (Int.toNat_of_nonneg hbt.1).symm]
    refine M.run 1 (pc' := 37) (lv' := [some (vr kb), some (vi ((c : Nat) : Int))]) (st' := [vi (-1), vi (((D.1 (37 + c)).toNat : Nat) : Int), vi ((bFs ((tl (15 + c)).toNat) : Nat) : Int)]) rfl ?_
    refine M.ixm1 (b1 := (D.1 (37 + c)).toNat) rfl ?_
    refine M.iandn (b1 := bFs ((tl (15 + c)).toNat)) (b2 := (D.1 (37 + c)).toNat) rfl (by omega) (by omega) ?_
    refine M.if_ne (tgt := 46) rfl (qI (by omega)) (by decide) (fun h39 => ?_) (fun h39 => ?_)
    · skip
      refine M.run 1 (pc' := 47) (lv' := [some (vr kb), some (vi ((c : Nat) : Int))]) (st' := [vi 0]) rfl ?_
      exact M.zret rfl (Or.inl rfl) (Nat.zero_le _) (Nat.zero_le _) ⟨reI (by rw [decide_eq_false (fun q => h39 (congrArg (fun x : Nat => (x : Int)) q.2))]; rfl), rfl⟩
    · skip
      refine M.run 2 (pc' := 47) (lv' := [some (vr kb), some (vi ((c : Nat) : Int))]) (st' := [vi 1]) rfl ?_
      exact M.zret rfl (Or.inr rfl) (Nat.zero_le _) (Nat.zero_le _) ⟨reI (by rw [decide_eq_true ⟨h8, Int.ofNat.inj h39⟩]; rfl), rfl⟩
  · skip
    replace h8 := zb_fd h8
    refine M.run 1 (pc' := 12) (lv' := [some (vr kb), some (vi x)]) (st' := [vi 0]) rfl ?_
    exact M.zret rfl (Or.inl rfl) (Nat.zero_le _) (Nat.zero_le _) ⟨reI (by rw [decide_eq_false (fun q => h8 q.1)]; rfl), rfl⟩
set_option maxHeartbeats 4000000 in
set_option maxRecDepth 100000 in
theorem kX10_resent (l : Launch) (G : GT) (kb : Nat) (tl fx fx2 : Nat → Int) (X : Nat → Int → Option Gn) (cl : Nat → Int) (D : Dy) (L : List Dy) (tl2 : Nat → Int) (D2 : Dy) (L2 : List Dy) (tp : Nat → Int) (nt fs fp : Int) (hT : Tok tl) (n : Int) (hd : Dok n D) (hn : n ≤ 1500000000) (hJ : Jok D) (hi : Inv D) (h9 : D.1 18 ≤ 9999) (hZ : Tz tl) (hru : -1 ≤ tl 2 ∧ tl 2 < tl 1) (x : Int) (hx : -2147483648 ≤ x ∧ x ≤ 2147483647)  : Ctr l G yX10_resent cX10_resent 2 ((Option.some Jvm.ClassFile.FieldType.int)) 3 0 0 [vr kb, vi x] (fun w => isEn G (kb + 850) (aA kb) (tz (kb + 1)) tl fx X cl 1 D w ∧ isKr kb fx fx2 L tl2 D2 L2 tp nt fs fp w) (fun w r w' => r = some (vi (if 0 ≤ x ∧ x < tl 0 then (if tl (12 + x.toNat) < D.1 (46 + x.toNat) then D.1 (46 + x.toNat) - tl (12 + x.toNat) else 0) else -1)) ∧ w' = w) := by
  refine Ctr.of (t := tX10_resent) (lv0 := [some (vr kb), some (vi x)]) (by decide +kernel) tX10_resent_ok rfl rfl (fun w g hP M => ?_)
  have hk0 : 0 ≤ tl 0 ∧ tl 0 ≤ 3 := hT.1 0 (by decide)
  refine M.run 1 (pc' := 1) (lv' := [some (vr kb), some (vi x)]) (st' := [vr kb]) rfl ?_
  refine M.get fl_X10_23 rfl (hP.2.1) (kf := 2) (v := vr ((tz (kb + 1)) 0)) rfl ?_
  refine M.run 1 (pc' := 5) (lv' := [some (vr kb), some (vi x)]) (st' := [vi x, vr ((tz (kb + 1)) 0)]) rfl ?_
  refine M.callV (qO_has l G (kb + 850) (aA kb) (tz (kb + 1)) tl fx X cl 1 D hT x ⟨by omega, by omega⟩) cv_X10_189 cd_X9_hasBlock rfl (st := []) rfl hP.1.2.1.1 (by decide) (by decide) rfl (Nat.zero_le _) (Nat.zero_le _) hP.1 (fun r1 w2 q3 => ?_)
  rw [q3.1, q3.2]
  refine M.if_ne (tgt := 13) rfl (inI_zb _) (by decide) (fun h8 => ?_) (fun h8 => ?_)
  · skip
    replace h8 := zb_td h8
    obtain ⟨c, rfl⟩ := Int.eq_ofNat_of_zero_le (show (0 : Int) ≤ x from (by omega))
    have hbt := Dok_byt hd (x := c) (by omega)
    have hln := Tok_len hT (x := c) (by omega)
    refine M.run 2 (pc' := 15) (lv' := [some (vr kb), some (vi ((c : Nat) : Int))]) (st' := [vr kb, vi 0]) rfl ?_
    refine M.get fl_X10_28 rfl (hP.2.1) (kf := 3) (v := vr ((aA kb) 0)) rfl ?_
    refine M.get fl_X10_192 rfl hP.1.1.1 (kf := 5) (v := vr ((aA kb) 1)) rfl ?_
    refine M.run 2 (pc' := 24) (lv' := [some (vr kb), some (vi ((c : Nat) : Int))]) (st' := [vi 6, vi ((c : Nat) : Int), vr ((aA kb) 1), vi 0]) rfl ?_
    refine M.callV (qB_get l G (kb + 850) (aA kb) (tz (kb + 1)) tl fx X cl 1 D c 6 (by omega) (by decide)) cv_X10_202 cd_X4_get rfl (st := [vi 0]) rfl (iS_b hP.1.1).1 (by decide) (by decide) rfl (Nat.zero_le _) (Nat.zero_le _) hP.1 (fun r5 w6 q7 => ?_)
    rw [q7.1, q7.2]
    rw [show D.1 (28 + 3 * 6 + c) = D.1 (46 + c) from rfl]
    refine M.run 1 (pc' := 28) (lv' := [some (vr kb), some (vi ((c : Nat) : Int))]) (st' := [vr kb, vi (D.1 (46 + c)), vi 0]) rfl ?_
    refine M.get fl_X10_23 rfl (hP.2.1) (kf := 2) (v := vr ((tz (kb + 1)) 0)) rfl ?_
    refine M.run 1 (pc' := 32) (lv' := [some (vr kb), some (vi ((c : Nat) : Int))]) (st' := [vi ((c : Nat) : Int), vr ((tz (kb + 1)) 0), vi (D.1 (46 + c)), vi 0]) rfl ?_
    refine M.callV (qO_len l G (kb + 850) (aA kb) (tz (kb + 1)) tl fx X cl 1 D hT c (by omega)) cv_X10_196 cd_X9_lengthOf rfl (st := [vi (D.1 (46 + c)), vi 0]) rfl hP.1.2.1.1 (by decide) (by decide) rfl (Nat.zero_le _) (Nat.zero_le _) hP.1 (fun r9 w10 q11 => ?_)
    rw [q11.1, q11.2]
    refine M.run 1 (pc' := 36) (lv' := [some (vr kb), some (vi ((c : Nat) : Int))]) (st' := [vi ((D.1 (46 + c)) - (tl (12 + c))), vi 0]) rfl ?_
    refine M.mmax cs_X10_261 rfl (qI (by decide)) (qI (by omega)) (by decide) (Nat.zero_le _) (Nat.zero_le _) rfl ?_
    exact M.iret rfl (Nat.zero_le _) (Nat.zero_le _) ⟨reI (by rw [if_pos h8]; show max 0 (D.1 (46 + c) - tl (12 + c)) = (if tl (12 + c) < D.1 (46 + c) then D.1 (46 + c) - tl (12 + c) else 0); split <;> omega), rfl⟩
  · skip
    replace h8 := zb_fd h8
    refine M.run 1 (pc' := 12) (lv' := [some (vr kb), some (vi x)]) (st' := [vi (-1)]) rfl ?_
    exact M.iret rfl (Nat.zero_le _) (Nat.zero_le _) ⟨reI (if_neg h8).symm, rfl⟩
set_option maxHeartbeats 4000000 in
set_option maxRecDepth 100000 in
theorem kX10_isNew (l : Launch) (G : GT) (kb : Nat) (tl fx fx2 : Nat → Int) (X : Nat → Int → Option Gn) (cl : Nat → Int) (D : Dy) (L : List Dy) (tl2 : Nat → Int) (D2 : Dy) (L2 : List Dy) (tp : Nat → Int) (nt fs fp : Int) (hT : Tok tl) (n : Int) (hd : Dok n D) (hn : n ≤ 1500000000) (hJ : Jok D) (hi : Inv D) (h9 : D.1 18 ≤ 9999) (hZ : Tz tl) (hru : -1 ≤ tl 2 ∧ tl 2 < tl 1) (x : Int) (hx : -2147483648 ≤ x ∧ x ≤ 2147483647)  : Ctr l G yX10_isNew cX10_isNew 2 ((Option.some Jvm.ClassFile.FieldType.boolean)) 3 0 0 [vr kb, vi x] (fun w => isEn G (kb + 850) (aA kb) (tz (kb + 1)) tl fx X cl 1 D w ∧ isKr kb fx fx2 L tl2 D2 L2 tp nt fs fp w) (fun w r w' => r = some (vi (zb (decide (opC tl D x)))) ∧ w' = w) := by
  refine Ctr.of (t := tX10_isNew) (lv0 := [some (vr kb), some (vi x)]) (by decide +kernel) tX10_isNew_ok rfl rfl (fun w g hP M => ?_)
  have hk0 : 0 ≤ tl 0 ∧ tl 0 ≤ 3 := hT.1 0 (by decide)
  refine M.run 1 (pc' := 1) (lv' := [some (vr kb), some (vi x)]) (st' := [vr kb]) rfl ?_
  refine M.get fl_X10_23 rfl (hP.2.1) (kf := 2) (v := vr ((tz (kb + 1)) 0)) rfl ?_
  refine M.run 1 (pc' := 5) (lv' := [some (vr kb), some (vi x)]) (st' := [vi x, vr ((tz (kb + 1)) 0)]) rfl ?_
  refine M.callV (qO_has l G (kb + 850) (aA kb) (tz (kb + 1)) tl fx X cl 1 D hT x ⟨by omega, by omega⟩) cv_X10_189 cd_X9_hasBlock rfl (st := []) rfl hP.1.2.1.1 (by decide) (by decide) rfl (Nat.zero_le _) (Nat.zero_le _) hP.1 (fun r1 w2 q3 => ?_)
  rw [q3.1, q3.2]
  refine M.if_eq (tgt := 30) rfl (inI_zb _) (by decide) (fun h8 => ?_) (fun h8 => ?_)
  · skip
    replace h8 := zb_fd h8
    refine M.run 1 (pc' := 31) (lv' := [some (vr kb), some (vi x)]) (st' := [vi 0]) rfl ?_
    exact M.zret rfl (Or.inl rfl) (Nat.zero_le _) (Nat.zero_le _) ⟨reI (by rw [decide_eq_false (fun q : opC tl D x => h8 q.1)]; rfl), rfl⟩
  · skip
    replace h8 := zb_td h8
    obtain ⟨c, rfl⟩ := Int.eq_ofNat_of_zero_le (show (0 : Int) ≤ x from (by omega))
    have hbt := Dok_how hd (x := c) (by omega)
    refine M.run 1 (pc' := 12) (lv' := [some (vr kb), some (vi ((c : Nat) : Int))]) (st' := [vr kb]) rfl ?_
    refine M.get fl_X10_28 rfl (hP.2.1) (kf := 3) (v := vr ((aA kb) 0)) rfl ?_
    refine M.get fl_X10_192 rfl hP.1.1.1 (kf := 5) (v := vr ((aA kb) 1)) rfl ?_
    refine M.run 2 (pc' := 20) (lv' := [some (vr kb), some (vi ((c : Nat) : Int))]) (st' := [vi 0, vi ((c : Nat) : Int), vr ((aA kb) 1)]) rfl ?_
    refine M.callV (qB_get l G (kb + 850) (aA kb) (tz (kb + 1)) tl fx X cl 1 D c 0 (by omega) (by decide)) cv_X10_202 cd_X4_get rfl (st := []) rfl (iS_b hP.1.1).1 (by decide) (by decide) rfl (Nat.zero_le _) (Nat.zero_le _) hP.1 (fun r5 w6 q7 => ?_)
    rw [q7.1, q7.2]
    rw [show D.1 (28 + 3 * 0 + c) = D.1 (28 + c) from rfl]
    refine M.if_ne (tgt := 30) rfl (qI (by omega)) (by decide) (fun h23 => ?_) (fun h23 => ?_)
    · skip
      refine M.run 1 (pc' := 31) (lv' := [some (vr kb), some (vi ((c : Nat) : Int))]) (st' := [vi 0]) rfl ?_
      exact M.zret rfl (Or.inl rfl) (Nat.zero_le _) (Nat.zero_le _) ⟨reI (by rw [decide_eq_false (fun q : opC tl D ((c : Nat) : Int) => h23 q.2)]; rfl), rfl⟩
    · skip
      refine M.run 2 (pc' := 31) (lv' := [some (vr kb), some (vi ((c : Nat) : Int))]) (st' := [vi 1]) rfl ?_
      exact M.zret rfl (Or.inr rfl) (Nat.zero_le _) (Nat.zero_le _) ⟨reI (by rw [decide_eq_true (show opC tl D ((c : Nat) : Int) from ⟨h8, h23⟩)]; rfl), rfl⟩
