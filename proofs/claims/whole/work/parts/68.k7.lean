theorem isTo_n {T : Nat → Nat} {tl fx : Nat → Int} {w : Wo} {k kf : Nat} {v : Int} (h : isTo T tl fx w) (hk : (k = 9 ∧ kf = 3) ∨ (k = 10 ∧ kf = 4) ∨ (k = 11 ∧ kf = 5) ∨ (k = 6 ∧ kf = 6) ∨ (k = 7 ∧ kf = 7) ∨ (k = 8 ∧ kf = 8) ∨ (k = 2 ∧ kf = 11) ∨ (k = 4 ∧ kf = 12)) : isTo T (uN tl k v) fx (up w (T 0) (Ob 8 ((toF T tl).set kf (vi v)))) := by
  obtain ⟨h0, ⟨f1, h1, c1⟩, ⟨f2, h2, c2⟩, h3, ⟨f4, h4, c4⟩, ⟨f5, h5, c5⟩, h6⟩ := h
  have ne : ∀ j : Nat, j < 6 → j ≠ 0 → T j ≠ T 0 := fun j hj h e => h (h6 j 0 hj (by decide) e)
  have hk12 : k < 12 := by omega
  refine ⟨?_, ⟨f1, (lk_up_n (ne 1 (by decide) (by decide))).trans h1, fun i hi => (c1 i hi).trans (uN_o (by omega)).symm⟩, ⟨f2, (lk_up_n (ne 2 (by decide) (by decide))).trans h2, fun i hi => (c2 i hi).trans (uN_o (by omega)).symm⟩, (lk_up_n (ne 3 (by decide) (by decide))).trans h3, ⟨f4, (lk_up_n (ne 4 (by decide) (by decide))).trans h4, fun i hi => (c4 i hi).trans (uN_o (by omega)).symm⟩, ⟨f5, (lk_up_n (ne 5 (by decide) (by decide))).trans h5, fun i hi => (c5 i hi).trans (uN_o (by omega)).symm⟩, h6⟩
  rcases hk with ⟨rfl, rfl⟩ | ⟨rfl, rfl⟩ | ⟨rfl, rfl⟩ | ⟨rfl, rfl⟩ | ⟨rfl, rfl⟩ | ⟨rfl, rfl⟩ | ⟨rfl, rfl⟩ | ⟨rfl, rfl⟩
  all_goals exact lk_up_s h0
section QK7
variable {G : GT} {kb : Nat} {fx fx2 tl tl2 t2 tp : Nat → Int} {X : Nat → Int → Option Gn} {cl : Nat → Int} {D D2 Dx E : Dy} {L L2 : List Dy} {nt fs fp : Int} {w w' : Wo}
theorem en_o (h : isEn G (kb + 850) (aA kb) (tz (kb + 1)) tl fx X cl 1 D w) (hs : isSt (aA kb) E w') (e : ∀ a : Nat, ((kb + 2 ≤ a ∧ a < kb + 8) ∨ (kb + 823 ≤ a ∧ a < kb + 826) ∨ kb + 850 ≤ a) → lk w' a = lk w a) : isEn G (kb + 850) (aA kb) (tz (kb + 1)) tl fx X cl 1 E w' := by
  obtain ⟨g1, g2, g3, g4, g5, g6, g7, g8⟩ := h
  have q : ∀ i : Nat, 13 ≤ i → i < 16 → lk w' (aA kb i) = lk w (aA kb i) := fun i h1 h2 => e _ (by unfold aA; rw [if_neg (by omega)]; omega)
  exact ⟨hs, isTo_fr g2 (fun j hj => e _ (by unfold tz; omega)), (q 13 (by decide) (by decide)).trans g3, lw_fr g4 (q 14 (by decide) (by decide)) (q 15 (by decide) (by decide)), isTs_fr g5 (fun b hb2 => e _ (by omega)), g6, g7, g8⟩
theorem en_T2 (h : isEn G (kb + 850) (aA kb) (tz (kb + 1)) tl fx X cl 1 D w) (hk : isKr kb fx fx2 L tl2 D2 L2 tp nt fs fp w) (h2 : isTo (tz (kb + 1)) t2 fx w') (hf : FrT (tz (kb + 1)) w w') (e1 : t2 1 = tl 1) : isEn G (kb + 850) (aA kb) (tz (kb + 1)) t2 fx X cl 1 D w' ∧ isKr kb fx fx2 L tl2 D2 L2 tp nt fs fp w' := by
  have q : ∀ a : Nat, (a < kb + 2 ∨ kb + 8 ≤ a) → lk w' a = lk w a := fun a ha => hf a (fun i hi => by unfold tz; omega)
  obtain ⟨g1, g2, g3, g4, g5, g6, g7, g8⟩ := h
  have qa : ∀ i : Nat, i < 16 → lk w' (aA kb i) = lk w (aA kb i) := fun i hi => q _ (by have := aA_r (kb := kb) i hi; omega)
  exact ⟨⟨isS2_e g1 (fun i hi => qa i (by omega)), h2, (qa 13 (by decide)).trans g3, lw_fr g4 (qa 14 (by decide)) (qa 15 (by decide)), by rw [e1]; exact isTs_fr g5 (fun b hb2 => q _ (by omega)), g6, g7, g8⟩, kr_fr hk (fun a ha => q a (by omega))⟩
end QK7
/-- the class with a whole standing -/
abbrev isK (G : GT) (kb : Nat) (fx fx2 : Nat → Int) (X : Nat → Int → Option Gn) (cl : Nat → Int) (S : TS) (tl2 : Nat → Int) (D2 : Dy) (L2 : List Dy) (tp : Nat → Int) (nt fs fp : Int) (w : Wo) : Prop := isEn G (kb + 850) (aA kb) (tz (kb + 1)) S.1 fx X cl 1 S.2.1 w ∧ isKr kb fx fx2 S.2.2 tl2 D2 L2 tp nt fs fp w

set_option maxHeartbeats 4000000 in
set_option maxRecDepth 100000 in
theorem kX10_delay (l : Launch) (G : GT) (kb : Nat) (tl fx fx2 : Nat → Int) (X : Nat → Int → Option Gn) (cl : Nat → Int) (D : Dy) (L : List Dy) (tl2 : Nat → Int) (D2 : Dy) (L2 : List Dy) (tp : Nat → Int) (nt fs fp : Int) (hT : Tok tl) (n : Int) (hd : Dok n D) (hn : n ≤ 1500000000) (hJ : Jok D) (hi : Inv D) (h9 : D.1 18 ≤ 9999) (hZ : Tz tl) (hru : -1 ≤ tl 2 ∧ tl 2 < tl 1) (x : Int) (hx : -2147483648 ≤ x ∧ x ≤ 2147483647)  : Ctr l G yX10_delay cX10_delay 2 ((Option.some Jvm.ClassFile.FieldType.boolean)) 1 0 0 [vr kb, vi x] (fun w => isEn G (kb + 850) (aA kb) (tz (kb + 1)) tl fx X cl 1 D w ∧ isKr kb fx fx2 L tl2 D2 L2 tp nt fs fp w) (fun w r w' => r = some (vi (zb (decide (1 ≤ x ∧ x ≤ 20)))) ∧ isK G kb fx fx2 X cl (if 1 ≤ x ∧ x ≤ 20 then uN tl 6 x else tl, D, L) tl2 D2 L2 tp nt fs fp w') := by
  refine Ctr.of (t := tX10_delay) (lv0 := [some (vr kb), some (vi x)]) (by decide +kernel) tX10_delay_ok rfl rfl (fun w g hP M => ?_)
  refine M.run 2 (pc' := 2) (lv' := [some (vr kb), some (vi x)]) (st' := [vi 1, vi x]) rfl ?_
  refine M.icmp_lt (tgt := 11) rfl (qI (by omega)) (qI (by decide)) (by decide) (fun h2 => ?_) (fun h2 => ?_)
  · skip
    refine M.run 1 (pc' := 12) (lv' := [some (vr kb), some (vi x)]) (st' := [vi 0]) rfl ?_
    exact M.zret rfl (Or.inl rfl) (Nat.zero_le _) (Nat.zero_le _) ⟨reI (by rw [decide_eq_false (by omega)]; rfl), by rw [if_neg (by omega)]; exact ⟨hP.1, hP.2⟩⟩
  · skip
    refine M.run 2 (pc' := 8) (lv' := [some (vr kb), some (vi x)]) (st' := [vi 20, vi x]) rfl ?_
    refine M.icmp_le (tgt := 13) rfl (qI (by omega)) (qI (by decide)) (by decide) (fun h8 => ?_) (fun h8 => ?_)
    · skip
      refine M.run 1 (pc' := 14) (lv' := [some (vr kb), some (vi x)]) (st' := [vr kb]) rfl ?_
      refine M.get fl_X10_23 rfl (hP.2.1) (kf := 2) (v := vr ((tz (kb + 1)) 0)) rfl ?_
      refine M.run 1 (pc' := 18) (lv' := [some (vr kb), some (vi x)]) (st' := [vi x, vr ((tz (kb + 1)) 0)]) rfl ?_
      refine M.put fl_X10_77 rfl (hP.1.2.1.1) rfl rfl (Nat.le_of_ble_eq_true rfl) ?_
      obtain ⟨hE1, hK1⟩ := en_T2 hP.1 hP.2 (isTo_n (k := 6) (kf := 6) (v := x) hP.1.2.1 (by decide)) (FrT.rf.u 0 (by decide)) (uN_o (by decide))
      change g 0 0 (up w ((tz (kb + 1)) 0) (Ob 8 ((toF (tz (kb + 1)) tl).set 6 (vi x)))) 21 [some (vr kb), some (vi x)] []
      generalize up w ((tz (kb + 1)) 0) (Ob 8 ((toF (tz (kb + 1)) tl).set 6 (vi x))) = w1 at hE1 hK1 ⊢
      refine M.run 1 (pc' := 22) (lv' := [some (vr kb), some (vi x)]) (st' := [vi 1]) rfl ?_
      exact M.zret rfl (Or.inr rfl) (Nat.zero_le _) (Nat.zero_le _) ⟨reI (by rw [decide_eq_true (by omega)]; rfl), by rw [if_pos (by omega)]; exact ⟨hE1, hK1⟩⟩
    · skip
      refine M.run 1 (pc' := 12) (lv' := [some (vr kb), some (vi x)]) (st' := [vi 0]) rfl ?_
      exact M.zret rfl (Or.inl rfl) (Nat.zero_le _) (Nat.zero_le _) ⟨reI (by rw [decide_eq_false (by omega)]; rfl), by rw [if_neg (by omega)]; exact ⟨hP.1, hP.2⟩⟩
set_option maxHeartbeats 4000000 in
set_option maxRecDepth 100000 in
theorem kX10_size (l : Launch) (G : GT) (kb : Nat) (tl fx fx2 : Nat → Int) (X : Nat → Int → Option Gn) (cl : Nat → Int) (D : Dy) (L : List Dy) (tl2 : Nat → Int) (D2 : Dy) (L2 : List Dy) (tp : Nat → Int) (nt fs fp : Int) (hT : Tok tl) (n : Int) (hd : Dok n D) (hn : n ≤ 1500000000) (hJ : Jok D) (hi : Inv D) (h9 : D.1 18 ≤ 9999) (hZ : Tz tl) (hru : -1 ≤ tl 2 ∧ tl 2 < tl 1) (x : Int) (hx : -2147483648 ≤ x ∧ x ≤ 2147483647)  : Ctr l G yX10_size cX10_size 2 ((Option.some Jvm.ClassFile.FieldType.boolean)) 1 0 0 [vr kb, vi x] (fun w => isEn G (kb + 850) (aA kb) (tz (kb + 1)) tl fx X cl 1 D w ∧ isKr kb fx fx2 L tl2 D2 L2 tp nt fs fp w) (fun w r w' => r = some (vi (zb (decide (1 ≤ x ∧ x ≤ 9)))) ∧ isK G kb fx fx2 X cl (if 1 ≤ x ∧ x ≤ 9 then uN tl 7 x else tl, D, L) tl2 D2 L2 tp nt fs fp w') := by
  refine Ctr.of (t := tX10_size) (lv0 := [some (vr kb), some (vi x)]) (by decide +kernel) tX10_size_ok rfl rfl (fun w g hP M => ?_)
  refine M.run 2 (pc' := 2) (lv' := [some (vr kb), some (vi x)]) (st' := [vi 1, vi x]) rfl ?_
  refine M.icmp_lt (tgt := 11) rfl (qI (by omega)) (qI (by decide)) (by decide) (fun h2 => ?_) (fun h2 => ?_)
  · skip
    refine M.run 1 (pc' := 12) (lv' := [some (vr kb), some (vi x)]) (st' := [vi 0]) rfl ?_
    exact M.zret rfl (Or.inl rfl) (Nat.zero_le _) (Nat.zero_le _) ⟨reI (by rw [decide_eq_false (by omega)]; rfl), by rw [if_neg (by omega)]; exact ⟨hP.1, hP.2⟩⟩
  · skip
    refine M.run 2 (pc' := 8) (lv' := [some (vr kb), some (vi x)]) (st' := [vi 9, vi x]) rfl ?_
    refine M.icmp_le (tgt := 13) rfl (qI (by omega)) (qI (by decide)) (by decide) (fun h8 => ?_) (fun h8 => ?_)
    · skip
      refine M.run 1 (pc' := 14) (lv' := [some (vr kb), some (vi x)]) (st' := [vr kb]) rfl ?_
      refine M.get fl_X10_23 rfl (hP.2.1) (kf := 2) (v := vr ((tz (kb + 1)) 0)) rfl ?_
      refine M.run 1 (pc' := 18) (lv' := [some (vr kb), some (vi x)]) (st' := [vi x, vr ((tz (kb + 1)) 0)]) rfl ?_
      refine M.put fl_X10_80 rfl (hP.1.2.1.1) rfl rfl (Nat.le_of_ble_eq_true rfl) ?_
      obtain ⟨hE1, hK1⟩ := en_T2 hP.1 hP.2 (isTo_n (k := 7) (kf := 7) (v := x) hP.1.2.1 (by decide)) (FrT.rf.u 0 (by decide)) (uN_o (by decide))
      change g 0 0 (up w ((tz (kb + 1)) 0) (Ob 8 ((toF (tz (kb + 1)) tl).set 7 (vi x)))) 21 [some (vr kb), some (vi x)] []
      generalize up w ((tz (kb + 1)) 0) (Ob 8 ((toF (tz (kb + 1)) tl).set 7 (vi x))) = w1 at hE1 hK1 ⊢
      refine M.run 1 (pc' := 22) (lv' := [some (vr kb), some (vi x)]) (st' := [vi 1]) rfl ?_
      exact M.zret rfl (Or.inr rfl) (Nat.zero_le _) (Nat.zero_le _) ⟨reI (by rw [decide_eq_true (by omega)]; rfl), by rw [if_pos (by omega)]; exact ⟨hE1, hK1⟩⟩
    · skip
      refine M.run 1 (pc' := 12) (lv' := [some (vr kb), some (vi x)]) (st' := [vi 0]) rfl ?_
      exact M.zret rfl (Or.inl rfl) (Nat.zero_le _) (Nat.zero_le _) ⟨reI (by rw [decide_eq_false (by omega)]; rfl), by rw [if_neg (by omega)]; exact ⟨hP.1, hP.2⟩⟩
set_option maxHeartbeats 4000000 in
set_option maxRecDepth 100000 in
theorem kX10_tries (l : Launch) (G : GT) (kb : Nat) (tl fx fx2 : Nat → Int) (X : Nat → Int → Option Gn) (cl : Nat → Int) (D : Dy) (L : List Dy) (tl2 : Nat → Int) (D2 : Dy) (L2 : List Dy) (tp : Nat → Int) (nt fs fp : Int) (hT : Tok tl) (n : Int) (hd : Dok n D) (hn : n ≤ 1500000000) (hJ : Jok D) (hi : Inv D) (h9 : D.1 18 ≤ 9999) (hZ : Tz tl) (hru : -1 ≤ tl 2 ∧ tl 2 < tl 1) (x : Int) (hx : -2147483648 ≤ x ∧ x ≤ 2147483647)  : Ctr l G yX10_tries cX10_tries 2 ((Option.some Jvm.ClassFile.FieldType.boolean)) 1 0 0 [vr kb, vi x] (fun w => isEn G (kb + 850) (aA kb) (tz (kb + 1)) tl fx X cl 1 D w ∧ isKr kb fx fx2 L tl2 D2 L2 tp nt fs fp w) (fun w r w' => r = some (vi (zb (decide (0 ≤ x ∧ x ≤ 9)))) ∧ isK G kb fx fx2 X cl (if 0 ≤ x ∧ x ≤ 9 then uN tl 8 x else tl, D, L) tl2 D2 L2 tp nt fs fp w') := by
  refine Ctr.of (t := tX10_tries) (lv0 := [some (vr kb), some (vi x)]) (by decide +kernel) tX10_tries_ok rfl rfl (fun w g hP M => ?_)
  refine M.run 1 (pc' := 1) (lv' := [some (vr kb), some (vi x)]) (st' := [vi x]) rfl ?_
  refine M.if_lt (tgt := 10) rfl (qI (by omega)) (by decide) (fun h1 => ?_) (fun h1 => ?_)
  · skip
    refine M.run 1 (pc' := 11) (lv' := [some (vr kb), some (vi x)]) (st' := [vi 0]) rfl ?_
    exact M.zret rfl (Or.inl rfl) (Nat.zero_le _) (Nat.zero_le _) ⟨reI (by rw [decide_eq_false (by omega)]; rfl), by rw [if_neg (by omega)]; exact ⟨hP.1, hP.2⟩⟩
  · skip
    refine M.run 2 (pc' := 7) (lv' := [some (vr kb), some (vi x)]) (st' := [vi 9, vi x]) rfl ?_
    refine M.icmp_le (tgt := 12) rfl (qI (by omega)) (qI (by decide)) (by decide) (fun h7 => ?_) (fun h7 => ?_)
    · skip
      refine M.run 1 (pc' := 13) (lv' := [some (vr kb), some (vi x)]) (st' := [vr kb]) rfl ?_
      refine M.get fl_X10_23 rfl (hP.2.1) (kf := 2) (v := vr ((tz (kb + 1)) 0)) rfl ?_
      refine M.run 1 (pc' := 17) (lv' := [some (vr kb), some (vi x)]) (st' := [vi x, vr ((tz (kb + 1)) 0)]) rfl ?_
      refine M.put fl_X10_83 rfl (hP.1.2.1.1) rfl rfl (Nat.le_of_ble_eq_true rfl) ?_
      obtain ⟨hE1, hK1⟩ := en_T2 hP.1 hP.2 (isTo_n (k := 8) (kf := 8) (v := x) hP.1.2.1 (by decide)) (FrT.rf.u 0 (by decide)) (uN_o (by decide))
      change g 0 0 (up w ((tz (kb + 1)) 0) (Ob 8 ((toF (tz (kb + 1)) tl).set 8 (vi x)))) 20 [some (vr kb), some (vi x)] []
      generalize up w ((tz (kb + 1)) 0) (Ob 8 ((toF (tz (kb + 1)) tl).set 8 (vi x))) = w1 at hE1 hK1 ⊢
      refine M.run 1 (pc' := 21) (lv' := [some (vr kb), some (vi x)]) (st' := [vi 1]) rfl ?_
      exact M.zret rfl (Or.inr rfl) (Nat.zero_le _) (Nat.zero_le _) ⟨reI (by rw [decide_eq_true (by omega)]; rfl), by rw [if_pos (by omega)]; exact ⟨hE1, hK1⟩⟩
    · skip
      refine M.run 1 (pc' := 11) (lv' := [some (vr kb), some (vi x)]) (st' := [vi 0]) rfl ?_
      exact M.zret rfl (Or.inl rfl) (Nat.zero_le _) (Nat.zero_le _) ⟨reI (by rw [decide_eq_false (by omega)]; rfl), by rw [if_neg (by omega)]; exact ⟨hP.1, hP.2⟩⟩
set_option maxHeartbeats 4000000 in
set_option maxRecDepth 100000 in
theorem kX10_window (l : Launch) (G : GT) (kb : Nat) (tl fx fx2 : Nat → Int) (X : Nat → Int → Option Gn) (cl : Nat → Int) (D : Dy) (L : List Dy) (tl2 : Nat → Int) (D2 : Dy) (L2 : List Dy) (tp : Nat → Int) (nt fs fp : Int) (hT : Tok tl) (n : Int) (hd : Dok n D) (hn : n ≤ 1500000000) (hJ : Jok D) (hi : Inv D) (h9 : D.1 18 ≤ 9999) (hZ : Tz tl) (hru : -1 ≤ tl 2 ∧ tl 2 < tl 1) (x : Int) (f : Int) (z : Int) (hx : -2147483648 ≤ x ∧ x ≤ 2147483647) (hf : -2147483648 ≤ f ∧ f ≤ 2147483647) (hz : -2147483648 ≤ z ∧ z ≤ 2147483647)  : Ctr l G yX10_window cX10_window 4 ((Option.some Jvm.ClassFile.FieldType.boolean)) 1 0 0 [vr kb, vi x, vi f, vi z] (fun w => isEn G (kb + 850) (aA kb) (tz (kb + 1)) tl fx X cl 1 D w ∧ isKr kb fx fx2 L tl2 D2 L2 tp nt fs fp w) (fun w r w' => r = some (vi (zb (decide ((1 ≤ x ∧ x ≤ 60) ∧ (0 ≤ z ∧ z ≤ x) ∧ 0 ≤ f ∧ f ≤ z - 1)))) ∧ isK G kb fx fx2 X cl (if (1 ≤ x ∧ x ≤ 60) ∧ (0 ≤ z ∧ z ≤ x) ∧ 0 ≤ f ∧ f ≤ z - 1 then uN (uN (uN tl 9 x) 10 f) 11 z else tl, D, L) tl2 D2 L2 tp nt fs fp w') := by
  refine Ctr.of (t := tX10_window) (lv0 := [some (vr kb), some (vi x), some (vi f), some (vi z)]) (by decide +kernel) tX10_window_ok rfl rfl (fun w g hP M => ?_)
  refine M.run 2 (pc' := 2) (lv' := [some (vr kb), some (vi x), some (vi f), some (vi z)]) (st' := [vi 1, vi x]) rfl ?_
  refine M.icmp_lt (tgt := 25) rfl (qI (by omega)) (qI (by decide)) (by decide) (fun h2 => ?_) (fun h2 => ?_)
  · skip
    refine M.run 1 (pc' := 26) (lv' := [some (vr kb), some (vi x), some (vi f), some (vi z)]) (st' := [vi 0]) rfl ?_
    exact M.zret rfl (Or.inl rfl) (Nat.zero_le _) (Nat.zero_le _) ⟨reI (by rw [decide_eq_false (by omega)]; rfl), by rw [if_neg (by omega)]; exact ⟨hP.1, hP.2⟩⟩
  · skip
    refine M.run 2 (pc' := 8) (lv' := [some (vr kb), some (vi x), some (vi f), some (vi z)]) (st' := [vi 60, vi x]) rfl ?_
    refine M.icmp_gt (tgt := 25) rfl (qI (by omega)) (qI (by decide)) (by decide) (fun h8 => ?_) (fun h8 => ?_)
    · skip
      refine M.run 1 (pc' := 26) (lv' := [some (vr kb), some (vi x), some (vi f), some (vi z)]) (st' := [vi 0]) rfl ?_
      exact M.zret rfl (Or.inl rfl) (Nat.zero_le _) (Nat.zero_le _) ⟨reI (by rw [decide_eq_false (by omega)]; rfl), by rw [if_neg (by omega)]; exact ⟨hP.1, hP.2⟩⟩
    · skip
      refine M.run 1 (pc' := 12) (lv' := [some (vr kb), some (vi x), some (vi f), some (vi z)]) (st' := [vi f]) rfl ?_
      refine M.if_lt (tgt := 25) rfl (qI (by omega)) (by decide) (fun h12 => ?_) (fun h12 => ?_)
      · skip
        refine M.run 1 (pc' := 26) (lv' := [some (vr kb), some (vi x), some (vi f), some (vi z)]) (st' := [vi 0]) rfl ?_
        exact M.zret rfl (Or.inl rfl) (Nat.zero_le _) (Nat.zero_le _) ⟨reI (by rw [decide_eq_false (by omega)]; rfl), by rw [if_neg (by omega)]; exact ⟨hP.1, hP.2⟩⟩
      · skip
        refine M.run 2 (pc' := 17) (lv' := [some (vr kb), some (vi x), some (vi f), some (vi z)]) (st' := [vi z, vi f]) rfl ?_
        refine M.icmp_ge (tgt := 25) rfl (qI (by omega)) (qI (by omega)) (by decide) (fun h17 => ?_) (fun h17 => ?_)
        · skip
          refine M.run 1 (pc' := 26) (lv' := [some (vr kb), some (vi x), some (vi f), some (vi z)]) (st' := [vi 0]) rfl ?_
          exact M.zret rfl (Or.inl rfl) (Nat.zero_le _) (Nat.zero_le _) ⟨reI (by rw [decide_eq_false (by omega)]; rfl), by rw [if_neg (by omega)]; exact ⟨hP.1, hP.2⟩⟩
        · skip
          refine M.run 2 (pc' := 22) (lv' := [some (vr kb), some (vi x), some (vi f), some (vi z)]) (st' := [vi x, vi z]) rfl ?_
          refine M.icmp_le (tgt := 27) rfl (qI (by omega)) (qI (by omega)) (by decide) (fun h22 => ?_) (fun h22 => ?_)
          · skip
            refine M.run 1 (pc' := 28) (lv' := [some (vr kb), some (vi x), some (vi f), some (vi z)]) (st' := [vr kb]) rfl ?_
            refine M.get fl_X10_23 rfl (hP.2.1) (kf := 2) (v := vr ((tz (kb + 1)) 0)) rfl ?_
            refine M.run 1 (pc' := 32) (lv' := [some (vr kb), some (vi x), some (vi f), some (vi z)]) (st' := [vi x, vr ((tz (kb + 1)) 0)]) rfl ?_
            refine M.put fl_X10_68 rfl (hP.1.2.1.1) rfl rfl (Nat.le_of_ble_eq_true rfl) ?_
            obtain ⟨hE1, hK1⟩ := en_T2 hP.1 hP.2 (isTo_n (k := 9) (kf := 3) (v := x) hP.1.2.1 (by decide)) (FrT.rf.u 0 (by decide)) (uN_o (by decide))
            change g 0 0 (up w ((tz (kb + 1)) 0) (Ob 8 ((toF (tz (kb + 1)) tl).set 3 (vi x)))) 35 [some (vr kb), some (vi x), some (vi f), some (vi z)] []
            generalize up w ((tz (kb + 1)) 0) (Ob 8 ((toF (tz (kb + 1)) tl).set 3 (vi x))) = w1 at hE1 hK1 ⊢
            refine M.run 1 (pc' := 36) (lv' := [some (vr kb), some (vi x), some (vi f), some (vi z)]) (st' := [vr kb]) rfl ?_
            refine M.get fl_X10_23 rfl (hK1.1) (kf := 2) (v := vr ((tz (kb + 1)) 0)) rfl ?_
            refine M.run 1 (pc' := 40) (lv' := [some (vr kb), some (vi x), some (vi f), some (vi z)]) (st' := [vi f, vr ((tz (kb + 1)) 0)]) rfl ?_
            refine M.put fl_X10_71 rfl (hE1.2.1.1) rfl rfl (Nat.le_of_ble_eq_true rfl) ?_
            obtain ⟨hE2, hK2⟩ := en_T2 hE1 hK1 (isTo_n (k := 10) (kf := 4) (v := f) hE1.2.1 (by decide)) (FrT.rf.u 0 (by decide)) (uN_o (by decide))
            change g 0 0 (up w1 ((tz (kb + 1)) 0) (Ob 8 ((toF (tz (kb + 1)) (uN tl 9 x)).set 4 (vi f)))) 43 [some (vr kb), some (vi x), some (vi f), some (vi z)] []
            generalize up w1 ((tz (kb + 1)) 0) (Ob 8 ((toF (tz (kb + 1)) (uN tl 9 x)).set 4 (vi f))) = w2 at hE2 hK2 ⊢
            refine M.run 1 (pc' := 44) (lv' := [some (vr kb), some (vi x), some (vi f), some (vi z)]) (st' := [vr kb]) rfl ?_
            refine M.get fl_X10_23 rfl (hK2.1) (kf := 2) (v := vr ((tz (kb + 1)) 0)) rfl ?_
            refine M.run 1 (pc' := 48) (lv' := [some (vr kb), some (vi x), some (vi f), some (vi z)]) (st' := [vi z, vr ((tz (kb + 1)) 0)]) rfl ?_
            refine M.put fl_X10_74 rfl (hE2.2.1.1) rfl rfl (Nat.le_of_ble_eq_true rfl) ?_
            obtain ⟨hE3, hK3⟩ := en_T2 hE2 hK2 (isTo_n (k := 11) (kf := 5) (v := z) hE2.2.1 (by decide)) (FrT.rf.u 0 (by decide)) (uN_o (by decide))
            change g 0 0 (up w2 ((tz (kb + 1)) 0) (Ob 8 ((toF (tz (kb + 1)) (uN (uN tl 9 x) 10 f)).set 5 (vi z)))) 51 [some (vr kb), some (vi x), some (vi f), some (vi z)] []
            generalize up w2 ((tz (kb + 1)) 0) (Ob 8 ((toF (tz (kb + 1)) (uN (uN tl 9 x) 10 f)).set 5 (vi z))) = w3 at hE3 hK3 ⊢
            refine M.run 1 (pc' := 52) (lv' := [some (vr kb), some (vi x), some (vi f), some (vi z)]) (st' := [vi 1]) rfl ?_
            exact M.zret rfl (Or.inr rfl) (Nat.zero_le _) (Nat.zero_le _) ⟨reI (by rw [decide_eq_true (by omega)]; rfl), by rw [if_pos (by omega)]; exact ⟨hE3, hK3⟩⟩
          · skip
            refine M.run 1 (pc' := 26) (lv' := [some (vr kb), some (vi x), some (vi f), some (vi z)]) (st' := [vi 0]) rfl ?_
            exact M.zret rfl (Or.inl rfl) (Nat.zero_le _) (Nat.zero_le _) ⟨reI (by rw [decide_eq_false (by omega)]; rfl), by rw [if_neg (by omega)]; exact ⟨hP.1, hP.2⟩⟩
set_option maxHeartbeats 4000000 in
set_option maxRecDepth 100000 in
theorem kX10_by (l : Launch) (G : GT) (kb : Nat) (tl fx fx2 : Nat → Int) (X : Nat → Int → Option Gn) (cl : Nat → Int) (D : Dy) (L : List Dy) (tl2 : Nat → Int) (D2 : Dy) (L2 : List Dy) (tp : Nat → Int) (nt fs fp : Int) (hT : Tok tl) (n : Int) (hd : Dok n D) (hn : n ≤ 1500000000) (hJ : Jok D) (hi : Inv D) (h9 : D.1 18 ≤ 9999) (hZ : Tz tl) (hru : -1 ≤ tl 2 ∧ tl 2 < tl 1) (x : Int) (hx : -2147483648 ≤ x ∧ x ≤ 2147483647)  : Ctr l G yX10_by cX10_by 2 ((Option.some Jvm.ClassFile.FieldType.boolean)) 1 0 0 [vr kb, vi x] (fun w => isEn G (kb + 850) (aA kb) (tz (kb + 1)) tl fx X cl 1 D w ∧ isKr kb fx fx2 L tl2 D2 L2 tp nt fs fp w) (fun w r w' => r = some (vi (zb (decide (-1 ≤ x ∧ x ≤ tl 1 - 1)))) ∧ isK G kb fx fx2 X cl (if -1 ≤ x ∧ x ≤ tl 1 - 1 then uN tl 2 x else tl, D, L) tl2 D2 L2 tp nt fs fp w') := by
  refine Ctr.of (t := tX10_by) (lv0 := [some (vr kb), some (vi x)]) (by decide +kernel) tX10_by_ok rfl rfl (fun w g hP M => ?_)
  have hk1 : 0 ≤ tl 1 ∧ tl 1 ≤ 4 := hT.1 1 (by decide)
  refine M.run 2 (pc' := 2) (lv' := [some (vr kb), some (vi x)]) (st' := [vi (-1), vi x]) rfl ?_
  refine M.icmp_lt (tgt := 16) rfl (qI (by omega)) (qI (by decide)) (by decide) (fun h2 => ?_) (fun h2 => ?_)
  · skip
    refine M.run 1 (pc' := 17) (lv' := [some (vr kb), some (vi x)]) (st' := [vi 0]) rfl ?_
    exact M.zret rfl (Or.inl rfl) (Nat.zero_le _) (Nat.zero_le _) ⟨reI (by rw [decide_eq_false (by omega)]; rfl), by rw [if_neg (by omega)]; exact ⟨hP.1, hP.2⟩⟩
  · skip
    refine M.run 2 (pc' := 7) (lv' := [some (vr kb), some (vi x)]) (st' := [vr kb, vi x]) rfl ?_
    refine M.get fl_X10_23 rfl (hP.2.1) (kf := 2) (v := vr ((tz (kb + 1)) 0)) rfl ?_
    refine M.get fl_X10_93 rfl hP.1.2.1.1 (kf := 9) (v := vi (tl 1)) rfl ?_
    refine M.icmp_lt (tgt := 18) rfl (qI (by omega)) (qI (by omega)) (by decide) (fun h13 => ?_) (fun h13 => ?_)
    · skip
      refine M.run 1 (pc' := 19) (lv' := [some (vr kb), some (vi x)]) (st' := [vr kb]) rfl ?_
      refine M.get fl_X10_23 rfl (hP.2.1) (kf := 2) (v := vr ((tz (kb + 1)) 0)) rfl ?_
      refine M.run 1 (pc' := 23) (lv' := [some (vr kb), some (vi x)]) (st' := [vi x, vr ((tz (kb + 1)) 0)]) rfl ?_
      refine M.put fl_X10_106 rfl (hP.1.2.1.1) rfl rfl (Nat.le_of_ble_eq_true rfl) ?_
      obtain ⟨hE1, hK1⟩ := en_T2 hP.1 hP.2 (isTo_n (k := 2) (kf := 11) (v := x) hP.1.2.1 (by decide)) (FrT.rf.u 0 (by decide)) (uN_o (by decide))
      change g 0 0 (up w ((tz (kb + 1)) 0) (Ob 8 ((toF (tz (kb + 1)) tl).set 11 (vi x)))) 26 [some (vr kb), some (vi x)] []
      generalize up w ((tz (kb + 1)) 0) (Ob 8 ((toF (tz (kb + 1)) tl).set 11 (vi x))) = w1 at hE1 hK1 ⊢
      refine M.run 1 (pc' := 27) (lv' := [some (vr kb), some (vi x)]) (st' := [vi 1]) rfl ?_
      exact M.zret rfl (Or.inr rfl) (Nat.zero_le _) (Nat.zero_le _) ⟨reI (by rw [decide_eq_true (by omega)]; rfl), by rw [if_pos (by omega)]; exact ⟨hE1, hK1⟩⟩
    · skip
      refine M.run 1 (pc' := 17) (lv' := [some (vr kb), some (vi x)]) (st' := [vi 0]) rfl ?_
      exact M.zret rfl (Or.inl rfl) (Nat.zero_le _) (Nat.zero_le _) ⟨reI (by rw [decide_eq_false (by omega)]; rfl), by rw [if_neg (by omega)]; exact ⟨hP.1, hP.2⟩⟩
set_option maxHeartbeats 4000000 in
set_option maxRecDepth 100000 in
theorem kX10_block (l : Launch) (G : GT) (kb : Nat) (tl fx fx2 : Nat → Int) (X : Nat → Int → Option Gn) (cl : Nat → Int) (D : Dy) (L : List Dy) (tl2 : Nat → Int) (D2 : Dy) (L2 : List Dy) (tp : Nat → Int) (nt fs fp : Int) (hT : Tok tl) (n : Int) (hd : Dok n D) (hn : n ≤ 1500000000) (hJ : Jok D) (hi : Inv D) (h9 : D.1 18 ≤ 9999) (hZ : Tz tl) (hru : -1 ≤ tl 2 ∧ tl 2 < tl 1) (x : Int) (y : Int) (hx : -2147483648 ≤ x ∧ x ≤ 2147483647) (hy : -2147483648 ≤ y ∧ y ≤ 2147483647)  : Ctr l G yX10_block cX10_block 3 ((Option.some Jvm.ClassFile.FieldType.int)) 2 0 0 [vr kb, vi x, vi y] (fun w => isEn G (kb + 850) (aA kb) (tz (kb + 1)) tl fx X cl 1 D w ∧ isKr kb fx fx2 L tl2 D2 L2 tp nt fs fp w) (fun w r w' => r = some (vi (if bkC tl x y then tl 0 else -1)) ∧ isK G kb fx fx2 X cl ((if bkC tl x y then uN (uN (uN tl (12 + (tl 0).toNat) x) (15 + (tl 0).toNat) y) 0 (tl 0 + 1) else tl), D, L) tl2 D2 L2 tp nt fs fp w') := by
  refine Ctr.of (t := tX10_block) (lv0 := [some (vr kb), some (vi x), some (vi y)]) (by decide +kernel) tX10_block_ok rfl rfl (fun w g hP M => ?_)
  have hk0 : 0 ≤ tl 0 ∧ tl 0 ≤ 3 := hT.1 0 (by decide)
  refine M.run 1 (pc' := 1) (lv' := [some (vr kb), some (vi x), some (vi y)]) (st' := [vr kb]) rfl ?_
  refine M.get fl_X10_23 rfl (hP.2.1) (kf := 2) (v := vr ((tz (kb + 1)) 0)) rfl ?_
  refine M.run 2 (pc' := 6) (lv' := [some (vr kb), some (vi x), some (vi y)]) (st' := [vi y, vi x, vr ((tz (kb + 1)) 0)]) rfl ?_
  refine M.callV (kX9_addBlock l G (tz (kb + 1)) tl fx hT x y (by omega) (by omega)) cv_X10_62 cd_X9_addBlock rfl (st := []) rfl hP.1.2.1.1 (by decide) (by decide) rfl (Nat.zero_le _) (Nat.zero_le _) hP.1.2.1 (fun r2 w3 q4 => ?_)
  have hq1 : r2 = some (vi (if bkC tl x y then tl 0 else (-1))) ∧ isK G kb fx fx2 X cl ((if bkC tl x y then uN (uN (uN tl (12 + (tl 0).toNat) x) (15 + (tl 0).toNat) y) 0 (tl 0 + 1) else tl), D, L) tl2 D2 L2 tp nt fs fp w3 := by
    by_cases hc : bkC tl x y
    · obtain ⟨q1, q2, q3⟩ := q4.1 hc
      rw [if_pos hc, if_pos hc]
      exact ⟨q1, en_T2 hP.1 hP.2 q2 q3 (by show (uN (uN (uN tl (12 + (tl 0).toNat) x) (15 + (tl 0).toNat) y) 0 (tl 0 + 1)) 1 = tl 1; rw [uN_o (by omega), uN_o (by omega), uN_o (by omega)])⟩
    · obtain ⟨q1, q2⟩ := q4.2 (hc)
      rw [if_neg hc, if_neg hc, q2]
      exact ⟨q1, hP.1, hP.2⟩
  rw [hq1.1]
  exact M.iret rfl (Nat.zero_le _) (Nat.zero_le _) ⟨rfl, hq1.2.1, hq1.2.2⟩
set_option maxHeartbeats 4000000 in
set_option maxRecDepth 100000 in
theorem kX10_said (l : Launch) (G : GT) (kb : Nat) (tl fx fx2 : Nat → Int) (X : Nat → Int → Option Gn) (cl : Nat → Int) (D : Dy) (L : List Dy) (tl2 : Nat → Int) (D2 : Dy) (L2 : List Dy) (tp : Nat → Int) (nt fs fp : Int) (hT : Tok tl) (n : Int) (hd : Dok n D) (hn : n ≤ 1500000000) (hJ : Jok D) (hi : Inv D) (h9 : D.1 18 ≤ 9999) (hZ : Tz tl) (hru : -1 ≤ tl 2 ∧ tl 2 < tl 1) (x : Int) (y : Int) (hx : -2147483648 ≤ x ∧ x ≤ 2147483647) (hy : -2147483648 ≤ y ∧ y ≤ 2147483647)  : Ctr l G yX10_said cX10_said 3 ((Option.some Jvm.ClassFile.FieldType.int)) 2 0 0 [vr kb, vi x, vi y] (fun w => isEn G (kb + 850) (aA kb) (tz (kb + 1)) tl fx X cl 1 D w ∧ isKr kb fx fx2 L tl2 D2 L2 tp nt fs fp w) (fun w r w' => r = some (vi (if x = -1 then 0 else if sdC tl x y then tl 4 + 1 else -2)) ∧ isK G kb fx fx2 X cl (sSaid x y (tl, D, L)) tl2 D2 L2 tp nt fs fp w') := by
  refine Ctr.of (t := tX10_said) (lv0 := [some (vr kb), some (vi x), some (vi y)]) (by decide +kernel) tX10_said_ok rfl rfl (fun w g hP M => ?_)
  have hk4 : 0 ≤ tl 4 ∧ tl 4 ≤ 8 := hT.1 4 (by decide)
  refine M.run 2 (pc' := 2) (lv' := [some (vr kb), some (vi x), some (vi y)]) (st' := [vi (-1), vi x]) rfl ?_
  refine M.icmp_ne (tgt := 15) rfl (qI (by omega)) (qI (by decide)) (by decide) (fun h2 => ?_) (fun h2 => ?_)
  · skip
    refine M.run 1 (pc' := 16) (lv' := [some (vr kb), some (vi x), some (vi y)]) (st' := [vi x]) rfl ?_
    refine M.if_lt (tgt := 34) rfl (qI (by omega)) (by decide) (fun h16 => ?_) (fun h16 => ?_)
    · skip
      refine M.run 1 (pc' := 36) (lv' := [some (vr kb), some (vi x), some (vi y)]) (st' := [vi (-2)]) rfl ?_
      exact M.iret rfl (Nat.zero_le _) (Nat.zero_le _) ⟨reI (by rw [if_neg h2, if_neg (show ¬ sdC tl x y from fun q => by unfold sdC at q; omega)]), (by unfold sSaid; rw [if_neg h2, if_neg (show ¬ sdC tl x y from fun q => by unfold sdC at q; omega)]; exact ⟨hP.1, hP.2⟩)⟩
    · skip
      refine M.run 2 (pc' := 21) (lv' := [some (vr kb), some (vi x), some (vi y)]) (st' := [vi 4, vi x]) rfl ?_
      refine M.icmp_gt (tgt := 34) rfl (qI (by omega)) (qI (by decide)) (by decide) (fun h21 => ?_) (fun h21 => ?_)
      · skip
        refine M.run 1 (pc' := 36) (lv' := [some (vr kb), some (vi x), some (vi y)]) (st' := [vi (-2)]) rfl ?_
        exact M.iret rfl (Nat.zero_le _) (Nat.zero_le _) ⟨reI (by rw [if_neg h2, if_neg (show ¬ sdC tl x y from fun q => by unfold sdC at q; omega)]), (by unfold sSaid; rw [if_neg h2, if_neg (show ¬ sdC tl x y from fun q => by unfold sdC at q; omega)]; exact ⟨hP.1, hP.2⟩)⟩
      · skip
        refine M.run 1 (pc' := 25) (lv' := [some (vr kb), some (vi x), some (vi y)]) (st' := [vi y]) rfl ?_
        refine M.if_lt (tgt := 34) rfl (qI (by omega)) (by decide) (fun h25 => ?_) (fun h25 => ?_)
        · skip
          refine M.run 1 (pc' := 36) (lv' := [some (vr kb), some (vi x), some (vi y)]) (st' := [vi (-2)]) rfl ?_
          exact M.iret rfl (Nat.zero_le _) (Nat.zero_le _) ⟨reI (by rw [if_neg h2, if_neg (show ¬ sdC tl x y from fun q => by unfold sdC at q; omega)]), (by unfold sSaid; rw [if_neg h2, if_neg (show ¬ sdC tl x y from fun q => by unfold sdC at q; omega)]; exact ⟨hP.1, hP.2⟩)⟩
        · skip
          refine M.run 2 (pc' := 31) (lv' := [some (vr kb), some (vi x), some (vi y)]) (st' := [vi 10, vi y]) rfl ?_
          refine M.icmp_le (tgt := 37) rfl (qI (by omega)) (qI (by decide)) (by decide) (fun h31 => ?_) (fun h31 => ?_)
          · skip
            refine M.run 1 (pc' := 38) (lv' := [some (vr kb), some (vi x), some (vi y)]) (st' := [vr kb]) rfl ?_
            refine M.get fl_X10_23 rfl (hP.2.1) (kf := 2) (v := vr ((tz (kb + 1)) 0)) rfl ?_
            refine M.run 2 (pc' := 43) (lv' := [some (vr kb), some (vi x), some (vi y)]) (st' := [vi y, vi x, vr ((tz (kb + 1)) 0)]) rfl ?_
            refine M.callV (kX9_addSaid l G (tz (kb + 1)) tl fx hT x y (by omega) (by omega)) cv_X10_112 cd_X9_addSaid rfl (st := []) rfl hP.1.2.1.1 (by decide) (by decide) rfl (Nat.zero_le _) (Nat.zero_le _) hP.1.2.1 (fun r2 w3 q4 => ?_)
            have hq1 : r2 = some (vi (if ¬ tl 4 = 8 then tl 4 + 1 else (-2))) ∧ isK G kb fx fx2 X cl ((if ¬ tl 4 = 8 then uN (uN (uN tl (986 + 2 * (tl 4).toNat) x) (986 + 2 * (tl 4).toNat + 1) y) 4 (tl 4 + 1) else tl), D, L) tl2 D2 L2 tp nt fs fp w3 := by
              by_cases hc : ¬ tl 4 = 8
              · obtain ⟨q1, q2, q3⟩ := q4.1 hc
                rw [if_pos hc, if_pos hc]
                exact ⟨q1, en_T2 hP.1 hP.2 q2 q3 (by show (uN (uN (uN tl (986 + 2 * (tl 4).toNat) x) (986 + 2 * (tl 4).toNat + 1) y) 4 (tl 4 + 1)) 1 = tl 1; rw [uN_o (by omega), uN_o (by omega), uN_o (by omega)])⟩
              · obtain ⟨q1, q2⟩ := q4.2 (Decidable.not_not.mp hc)
                rw [if_neg hc, if_neg hc, q2]
                exact ⟨q1, hP.1, hP.2⟩
            rw [hq1.1]
            have hsd : (if ¬ tl 4 = 8 then tl 4 + 1 else -2) = (if sdC tl x y then tl 4 + 1 else -2) := ite_congr (propext ⟨fun q => by unfold sdC; omega, fun q => by unfold sdC at q; omega⟩) (fun _ => rfl) (fun _ => rfl)
            have hsk : (((if ¬ tl 4 = 8 then uN (uN (uN tl (986 + 2 * (tl 4).toNat) x) (986 + 2 * (tl 4).toNat + 1) y) 4 (tl 4 + 1) else tl), D, L) : TS) = (if sdC tl x y then (uN (uN (uN tl (986 + 2 * (tl 4).toNat) x) (986 + 2 * (tl 4).toNat + 1) y) 4 (tl 4 + 1), (tl, D, L).2) else (tl, D, L)) := by
              by_cases q : ¬ tl 4 = 8
              · rw [if_pos q, if_pos (show sdC tl x y from by unfold sdC; omega)]
              · rw [if_neg q, if_neg (show ¬ sdC tl x y from fun z => by unfold sdC at z; omega)]
            exact M.iret rfl (Nat.zero_le _) (Nat.zero_le _) ⟨reI (by rw [if_neg h2, hsd]), (by unfold sSaid; rw [if_neg h2]; exact hsk ▸ ⟨hq1.2.1, hq1.2.2⟩)⟩
          · skip
            refine M.run 1 (pc' := 36) (lv' := [some (vr kb), some (vi x), some (vi y)]) (st' := [vi (-2)]) rfl ?_
            exact M.iret rfl (Nat.zero_le _) (Nat.zero_le _) ⟨reI (by rw [if_neg h2, if_neg (show ¬ sdC tl x y from fun q => by unfold sdC at q; omega)]), (by unfold sSaid; rw [if_neg h2, if_neg (show ¬ sdC tl x y from fun q => by unfold sdC at q; omega)]; exact ⟨hP.1, hP.2⟩)⟩
  · skip
    refine M.run 1 (pc' := 6) (lv' := [some (vr kb), some (vi x), some (vi y)]) (st' := [vr kb]) rfl ?_
    refine M.get fl_X10_23 rfl (hP.2.1) (kf := 2) (v := vr ((tz (kb + 1)) 0)) rfl ?_
    refine M.run 1 (pc' := 10) (lv' := [some (vr kb), some (vi x), some (vi y)]) (st' := [vi 0, vr ((tz (kb + 1)) 0)]) rfl ?_
    refine M.put fl_X10_109 rfl (hP.1.2.1.1) rfl rfl (Nat.le_of_ble_eq_true rfl) ?_
    obtain ⟨hE6, hK6⟩ := en_T2 hP.1 hP.2 (isTo_n (k := 4) (kf := 12) (v := 0) hP.1.2.1 (by decide)) (FrT.rf.u 0 (by decide)) (uN_o (by decide))
    change g 0 0 (up w ((tz (kb + 1)) 0) (Ob 8 ((toF (tz (kb + 1)) tl).set 12 (vi 0)))) 13 [some (vr kb), some (vi x), some (vi y)] []
    generalize up w ((tz (kb + 1)) 0) (Ob 8 ((toF (tz (kb + 1)) tl).set 12 (vi 0))) = w6 at hE6 hK6 ⊢
    refine M.run 1 (pc' := 14) (lv' := [some (vr kb), some (vi x), some (vi y)]) (st' := [vi 0]) rfl ?_
    exact M.iret rfl (Nat.zero_le _) (Nat.zero_le _) ⟨reI (if_pos h2).symm, (by unfold sSaid; rw [if_pos h2]; exact ⟨hE6, hK6⟩)⟩
