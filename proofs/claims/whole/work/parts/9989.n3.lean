/-! constructors: a state, an engine, the reader -/
/-- a state at first -/
def D0 : Dy := (fun k => if k = 19 then 491 else 0, fun _ => [], [], [], [])
theorem D0_0 {k : Nat} (h : k ≠ 19) : D0.1 k = 0 := by unfold D0; show (if k = 19 then (491 : Int) else 0) = 0; rw [if_neg h]
theorem isRw_0 {p q wd cap : Nat} {w : Wo} (h1 : lk w p = some (Ob 3 [vi (wd : Nat), vr q, vi 0])) (h2 : lk w q = some (Ar 0 (cap * wd) (fun _ => 0))) : isRw p q wd cap [] w := ⟨h1, _, h2, Nat.zero_le _, fun i k hi => absurd hi (Nat.not_lt_zero _)⟩
theorem isRw_3 {p q : Nat} {w : Wo} (h1 : lk w p = some (Ob 3 [vi 7, vr q, vi 3])) (h2 : lk w q = some (Ar 0 (3 * 7) (fun _ => 0))) : isRw p q 7 3 [blk D0 0, blk D0 1, blk D0 2] w := ⟨h1, _, h2, Nat.le_refl _, fun i k hi hk => by
  have hi2 : i < 3 := hi
  rcases (show i = 0 ∨ i = 1 ∨ i = 2 by omega) with rfl | rfl | rfl
  · exact (D0_0 (show 28 + 3 * k + 0 ≠ 19 by omega)).symm
  · exact (D0_0 (show 28 + 3 * k + 1 ≠ 19 by omega)).symm
  · exact (D0_0 (show 28 + 3 * k + 2 ≠ 19 by omega)).symm⟩
set_option maxHeartbeats 4000000 in
set_option maxRecDepth 100000 in
theorem kX6_init (l : Launch) (G : GT) (o : Nat) : CtrS l G yX6_init cX6_init 1 (none : Option FieldType) 2 12 979 [vr o] (o + 1) (fun w => lk w o = some (Ob 5 [vi 0, vi 0, vi 0, vi 0, vi 0, vn, vn, vn, vn, vn, vn]) ∧ Fu G w (o + 1)) (fun w r w' => r = none ∧ isSt (fun i => o + i) D0 w' ∧ FrB o 13 w w' ∧ Fu G w' (o + 13)) := by
  refine CtrS.of (t := tX6_init) (lv0 := [some (vr o)]) (by decide +kernel) tX6_init_ok rfl rfl (fun w g hP MS => ?_)
  obtain ⟨hP, hF⟩ := hP
  have M := MS.M
  refine M.run 1 (pc' := 1) (lv' := [some (vr o)]) (st' := [vr o]) rfl ?_
  refine M.oinit wd_o_RX6 rfl (by decide) rfl ?_
  refine M.run 2 (pc' := 8) (lv' := [some (vr o)]) (st' := [vi 491, vr o]) rfl ?_
  refine M.putW [vi 0, vi 0, vi 491, vi 0, vi 0, vn, vn, vn, vn, vn, vn] fl_X6_9 rfl hP rfl rfl (Nat.le_of_ble_eq_true rfl) rfl (fun w1_ hn1 fr1 => ?_)
  have hF1 := Fu_fr hF hn1 fr1
  refine M.run 1 (pc' := 12) (lv' := [some (vr o)]) (st' := [vr o]) rfl ?_
  refine MS.newOW (ci := 3) (o + 1) [vi 0, vn, vi 0] (by omega) hF1 rfl inX4 tyX4_ok wd_l_RX6_15 wd_i_RX4 wd_s_RX4 (by decide +kernel) rfl (by omega) (by omega) (fun w2_ hn2 fr2 hF2 => ?_)
  have hc2_0 := (fr2 _ (by omega)).trans hn1
  refine M.run 3 (pc' := 19) (lv' := [some (vr o)]) (st' := [vi 7, vi 3, vr (o + 1), vr (o + 1), vr o]) rfl ?_
  refine MS.callI (o + 2) (by omega) hF2 (kX4_init l G (o + 1) 3 7 (by decide) (by decide) (by decide) (by decide)) ci_X6_17 cd_X4_init rfl rfl (by decide) (by decide) rfl (by omega) (by omega) ⟨hn2, hF2⟩ (fun w3_ hQ3 => ?_) (fun r w1 h => h.1)
  obtain ⟨_, hn3a, hn3b, fr3, hF3⟩ := hQ3
  have hc3_0 := (fr3 _ (by omega)).trans hc2_0
  refine M.putFW [vi 0, vi 0, vi 491, vi 0, vi 0, vr (o + 1), vn, vn, vn, vn, vn] fl_X6_20 rfl rfl rfl hc3_0 rfl rfl (Nat.le_of_ble_eq_true rfl) rfl (fun w4_ hn4 fr4 => ?_)
  have hc4_1 := (fr4 _ (by omega)).trans hn3a
  have hc4_2 := (fr4 _ (by omega)).trans hn3b
  have hF4 := Fu_fr hF3 hn4 fr4
  refine M.run 1 (pc' := 26) (lv' := [some (vr o)]) (st' := [vr o]) rfl ?_
  refine M.get fl_X6_20 rfl hn4 (kf := 5) (v := vr (o + 1)) rfl ?_
  refine M.run 1 (pc' := 30) (lv' := [some (vr o)]) (st' := [vi 3, vr (o + 1)]) rfl ?_
  refine M.putW [vi ((7 : Nat) : Int), vr (o + 2), vi 3] fl_X6_24 rfl hc4_1 rfl rfl (Nat.le_of_ble_eq_true rfl) rfl (fun w5_ hn5 fr5 => ?_)
  have hc5_0 := (fr5 _ (by omega)).trans hn4
  have hc5_2 := (fr5 _ (by omega)).trans hc4_2
  have hF5 := Fu_fr hF4 hn5 fr5
  refine M.run 1 (pc' := 34) (lv' := [some (vr o)]) (st' := [vr o]) rfl ?_
  refine MS.newOW (ci := 3) (o + 3) [vi 0, vn, vi 0] (by omega) hF5 rfl inX4 tyX4_ok wd_l_RX6_15 wd_i_RX4 wd_s_RX4 (by decide +kernel) rfl (by omega) (by omega) (fun w6_ hn6 fr6 hF6 => ?_)
  have hc6_0 := (fr6 _ (by omega)).trans hc5_0
  have hc6_1 := (fr6 _ (by omega)).trans hn5
  have hc6_2 := (fr6 _ (by omega)).trans hc5_2
  refine M.run 3 (pc' := 42) (lv' := [some (vr o)]) (st' := [vi 7, vi 24, vr (o + 3), vr (o + 3), vr o]) rfl ?_
  refine MS.callI (o + 4) (by omega) hF6 (kX4_init l G (o + 3) 24 7 (by decide) (by decide) (by decide) (by decide)) ci_X6_17 cd_X4_init rfl rfl (by decide) (by decide) rfl (by omega) (by omega) ⟨hn6, hF6⟩ (fun w7_ hQ7 => ?_) (fun r w1 h => h.1)
  obtain ⟨_, hn7a, hn7b, fr7, hF7⟩ := hQ7
  have hc7_0 := (fr7 _ (by omega)).trans hc6_0
  have hc7_1 := (fr7 _ (by omega)).trans hc6_1
  have hc7_2 := (fr7 _ (by omega)).trans hc6_2
  refine M.putFW [vi 0, vi 0, vi 491, vi 0, vi 0, vr (o + 1), vr (o + 3), vn, vn, vn, vn] fl_X6_27 rfl rfl rfl hc7_0 rfl rfl (Nat.le_of_ble_eq_true rfl) rfl (fun w8_ hn8 fr8 => ?_)
  have hc8_1 := (fr8 _ (by omega)).trans hc7_1
  have hc8_2 := (fr8 _ (by omega)).trans hc7_2
  have hc8_3 := (fr8 _ (by omega)).trans hn7a
  have hc8_4 := (fr8 _ (by omega)).trans hn7b
  have hF8 := Fu_fr hF7 hn8 fr8
  refine M.run 1 (pc' := 49) (lv' := [some (vr o)]) (st' := [vr o]) rfl ?_
  refine MS.newOW (ci := 3) (o + 5) [vi 0, vn, vi 0] (by omega) hF8 rfl inX4 tyX4_ok wd_l_RX6_15 wd_i_RX4 wd_s_RX4 (by decide +kernel) rfl (by omega) (by omega) (fun w9_ hn9 fr9 hF9 => ?_)
  have hc9_0 := (fr9 _ (by omega)).trans hn8
  have hc9_1 := (fr9 _ (by omega)).trans hc8_1
  have hc9_2 := (fr9 _ (by omega)).trans hc8_2
  have hc9_3 := (fr9 _ (by omega)).trans hc8_3
  have hc9_4 := (fr9 _ (by omega)).trans hc8_4
  refine M.run 3 (pc' := 57) (lv' := [some (vr o)]) (st' := [vi 7, vi 24, vr (o + 5), vr (o + 5), vr o]) rfl ?_
  refine MS.callI (o + 6) (by omega) hF9 (kX4_init l G (o + 5) 24 7 (by decide) (by decide) (by decide) (by decide)) ci_X6_17 cd_X4_init rfl rfl (by decide) (by decide) rfl (by omega) (by omega) ⟨hn9, hF9⟩ (fun w10_ hQ10 => ?_) (fun r w1 h => h.1)
  obtain ⟨_, hn10a, hn10b, fr10, hF10⟩ := hQ10
  have hc10_0 := (fr10 _ (by omega)).trans hc9_0
  have hc10_1 := (fr10 _ (by omega)).trans hc9_1
  have hc10_2 := (fr10 _ (by omega)).trans hc9_2
  have hc10_3 := (fr10 _ (by omega)).trans hc9_3
  have hc10_4 := (fr10 _ (by omega)).trans hc9_4
  refine M.putFW [vi 0, vi 0, vi 491, vi 0, vi 0, vr (o + 1), vr (o + 3), vr (o + 5), vn, vn, vn] fl_X6_30 rfl rfl rfl hc10_0 rfl rfl (Nat.le_of_ble_eq_true rfl) rfl (fun w11_ hn11 fr11 => ?_)
  have hc11_1 := (fr11 _ (by omega)).trans hc10_1
  have hc11_2 := (fr11 _ (by omega)).trans hc10_2
  have hc11_3 := (fr11 _ (by omega)).trans hc10_3
  have hc11_4 := (fr11 _ (by omega)).trans hc10_4
  have hc11_5 := (fr11 _ (by omega)).trans hn10a
  have hc11_6 := (fr11 _ (by omega)).trans hn10b
  have hF11 := Fu_fr hF10 hn11 fr11
  refine M.run 1 (pc' := 64) (lv' := [some (vr o)]) (st' := [vr o]) rfl ?_
  refine MS.newOW (ci := 3) (o + 7) [vi 0, vn, vi 0] (by omega) hF11 rfl inX4 tyX4_ok wd_l_RX6_15 wd_i_RX4 wd_s_RX4 (by decide +kernel) rfl (by omega) (by omega) (fun w12_ hn12 fr12 hF12 => ?_)
  have hc12_0 := (fr12 _ (by omega)).trans hn11
  have hc12_1 := (fr12 _ (by omega)).trans hc11_1
  have hc12_2 := (fr12 _ (by omega)).trans hc11_2
  have hc12_3 := (fr12 _ (by omega)).trans hc11_3
  have hc12_4 := (fr12 _ (by omega)).trans hc11_4
  have hc12_5 := (fr12 _ (by omega)).trans hc11_5
  have hc12_6 := (fr12 _ (by omega)).trans hc11_6
  refine M.run 3 (pc' := 72) (lv' := [some (vr o)]) (st' := [vi 9, vi 40, vr (o + 7), vr (o + 7), vr o]) rfl ?_
  refine MS.callI (o + 8) (by omega) hF12 (kX4_init l G (o + 7) 40 9 (by decide) (by decide) (by decide) (by decide)) ci_X6_17 cd_X4_init rfl rfl (by decide) (by decide) rfl (by omega) (by omega) ⟨hn12, hF12⟩ (fun w13_ hQ13 => ?_) (fun r w1 h => h.1)
  obtain ⟨_, hn13a, hn13b, fr13, hF13⟩ := hQ13
  have hc13_0 := (fr13 _ (by omega)).trans hc12_0
  have hc13_1 := (fr13 _ (by omega)).trans hc12_1
  have hc13_2 := (fr13 _ (by omega)).trans hc12_2
  have hc13_3 := (fr13 _ (by omega)).trans hc12_3
  have hc13_4 := (fr13 _ (by omega)).trans hc12_4
  have hc13_5 := (fr13 _ (by omega)).trans hc12_5
  have hc13_6 := (fr13 _ (by omega)).trans hc12_6
  refine M.putFW [vi 0, vi 0, vi 491, vi 0, vi 0, vr (o + 1), vr (o + 3), vr (o + 5), vr (o + 7), vn, vn] fl_X6_33 rfl rfl rfl hc13_0 rfl rfl (Nat.le_of_ble_eq_true rfl) rfl (fun w14_ hn14 fr14 => ?_)
  have hc14_1 := (fr14 _ (by omega)).trans hc13_1
  have hc14_2 := (fr14 _ (by omega)).trans hc13_2
  have hc14_3 := (fr14 _ (by omega)).trans hc13_3
  have hc14_4 := (fr14 _ (by omega)).trans hc13_4
  have hc14_5 := (fr14 _ (by omega)).trans hc13_5
  have hc14_6 := (fr14 _ (by omega)).trans hc13_6
  have hc14_7 := (fr14 _ (by omega)).trans hn13a
  have hc14_8 := (fr14 _ (by omega)).trans hn13b
  have hF14 := Fu_fr hF13 hn14 fr14
  refine M.run 1 (pc' := 79) (lv' := [some (vr o)]) (st' := [vr o]) rfl ?_
  refine MS.newOW (ci := 3) (o + 9) [vi 0, vn, vi 0] (by omega) hF14 rfl inX4 tyX4_ok wd_l_RX6_15 wd_i_RX4 wd_s_RX4 (by decide +kernel) rfl (by omega) (by omega) (fun w15_ hn15 fr15 hF15 => ?_)
  have hc15_0 := (fr15 _ (by omega)).trans hn14
  have hc15_1 := (fr15 _ (by omega)).trans hc14_1
  have hc15_2 := (fr15 _ (by omega)).trans hc14_2
  have hc15_3 := (fr15 _ (by omega)).trans hc14_3
  have hc15_4 := (fr15 _ (by omega)).trans hc14_4
  have hc15_5 := (fr15 _ (by omega)).trans hc14_5
  have hc15_6 := (fr15 _ (by omega)).trans hc14_6
  have hc15_7 := (fr15 _ (by omega)).trans hc14_7
  have hc15_8 := (fr15 _ (by omega)).trans hc14_8
  refine M.run 3 (pc' := 87) (lv' := [some (vr o)]) (st' := [vi 9, vi 16, vr (o + 9), vr (o + 9), vr o]) rfl ?_
  refine MS.callI (o + 10) (by omega) hF15 (kX4_init l G (o + 9) 16 9 (by decide) (by decide) (by decide) (by decide)) ci_X6_17 cd_X4_init rfl rfl (by decide) (by decide) rfl (by omega) (by omega) ⟨hn15, hF15⟩ (fun w16_ hQ16 => ?_) (fun r w1 h => h.1)
  obtain ⟨_, hn16a, hn16b, fr16, hF16⟩ := hQ16
  have hc16_0 := (fr16 _ (by omega)).trans hc15_0
  have hc16_1 := (fr16 _ (by omega)).trans hc15_1
  have hc16_2 := (fr16 _ (by omega)).trans hc15_2
  have hc16_3 := (fr16 _ (by omega)).trans hc15_3
  have hc16_4 := (fr16 _ (by omega)).trans hc15_4
  have hc16_5 := (fr16 _ (by omega)).trans hc15_5
  have hc16_6 := (fr16 _ (by omega)).trans hc15_6
  have hc16_7 := (fr16 _ (by omega)).trans hc15_7
  have hc16_8 := (fr16 _ (by omega)).trans hc15_8
  refine M.putFW [vi 0, vi 0, vi 491, vi 0, vi 0, vr (o + 1), vr (o + 3), vr (o + 5), vr (o + 7), vr (o + 9), vn] fl_X6_36 rfl rfl rfl hc16_0 rfl rfl (Nat.le_of_ble_eq_true rfl) rfl (fun w17_ hn17 fr17 => ?_)
  have hc17_1 := (fr17 _ (by omega)).trans hc16_1
  have hc17_2 := (fr17 _ (by omega)).trans hc16_2
  have hc17_3 := (fr17 _ (by omega)).trans hc16_3
  have hc17_4 := (fr17 _ (by omega)).trans hc16_4
  have hc17_5 := (fr17 _ (by omega)).trans hc16_5
  have hc17_6 := (fr17 _ (by omega)).trans hc16_6
  have hc17_7 := (fr17 _ (by omega)).trans hc16_7
  have hc17_8 := (fr17 _ (by omega)).trans hc16_8
  have hc17_9 := (fr17 _ (by omega)).trans hn16a
  have hc17_10 := (fr17 _ (by omega)).trans hn16b
  have hF17 := Fu_fr hF16 hn17 fr17
  refine M.run 1 (pc' := 94) (lv' := [some (vr o)]) (st' := [vr o]) rfl ?_
  refine MS.newOW (ci := 3) (o + 11) [vi 0, vn, vi 0] (by omega) hF17 rfl inX4 tyX4_ok wd_l_RX6_15 wd_i_RX4 wd_s_RX4 (by decide +kernel) rfl (by omega) (by omega) (fun w18_ hn18 fr18 hF18 => ?_)
  have hc18_0 := (fr18 _ (by omega)).trans hn17
  have hc18_1 := (fr18 _ (by omega)).trans hc17_1
  have hc18_2 := (fr18 _ (by omega)).trans hc17_2
  have hc18_3 := (fr18 _ (by omega)).trans hc17_3
  have hc18_4 := (fr18 _ (by omega)).trans hc17_4
  have hc18_5 := (fr18 _ (by omega)).trans hc17_5
  have hc18_6 := (fr18 _ (by omega)).trans hc17_6
  have hc18_7 := (fr18 _ (by omega)).trans hc17_7
  have hc18_8 := (fr18 _ (by omega)).trans hc17_8
  have hc18_9 := (fr18 _ (by omega)).trans hc17_9
  have hc18_10 := (fr18 _ (by omega)).trans hc17_10
  refine M.run 3 (pc' := 101) (lv' := [some (vr o)]) (st' := [vi 4, vi 25, vr (o + 11), vr (o + 11), vr o]) rfl ?_
  refine MS.callI (o + 12) (by omega) hF18 (kX4_init l G (o + 11) 25 4 (by decide) (by decide) (by decide) (by decide)) ci_X6_17 cd_X4_init rfl rfl (by decide) (by decide) rfl (by omega) (by omega) ⟨hn18, hF18⟩ (fun w19_ hQ19 => ?_) (fun r w1 h => h.1)
  obtain ⟨_, hn19a, hn19b, fr19, hF19⟩ := hQ19
  have hc19_0 := (fr19 _ (by omega)).trans hc18_0
  have hc19_1 := (fr19 _ (by omega)).trans hc18_1
  have hc19_2 := (fr19 _ (by omega)).trans hc18_2
  have hc19_3 := (fr19 _ (by omega)).trans hc18_3
  have hc19_4 := (fr19 _ (by omega)).trans hc18_4
  have hc19_5 := (fr19 _ (by omega)).trans hc18_5
  have hc19_6 := (fr19 _ (by omega)).trans hc18_6
  have hc19_7 := (fr19 _ (by omega)).trans hc18_7
  have hc19_8 := (fr19 _ (by omega)).trans hc18_8
  have hc19_9 := (fr19 _ (by omega)).trans hc18_9
  have hc19_10 := (fr19 _ (by omega)).trans hc18_10
  refine M.putFW [vi 0, vi 0, vi 491, vi 0, vi 0, vr (o + 1), vr (o + 3), vr (o + 5), vr (o + 7), vr (o + 9), vr (o + 11)] fl_X6_39 rfl rfl rfl hc19_0 rfl rfl (Nat.le_of_ble_eq_true rfl) rfl (fun w20_ hn20 fr20 => ?_)
  have hc20_1 := (fr20 _ (by omega)).trans hc19_1
  have hc20_2 := (fr20 _ (by omega)).trans hc19_2
  have hc20_3 := (fr20 _ (by omega)).trans hc19_3
  have hc20_4 := (fr20 _ (by omega)).trans hc19_4
  have hc20_5 := (fr20 _ (by omega)).trans hc19_5
  have hc20_6 := (fr20 _ (by omega)).trans hc19_6
  have hc20_7 := (fr20 _ (by omega)).trans hc19_7
  have hc20_8 := (fr20 _ (by omega)).trans hc19_8
  have hc20_9 := (fr20 _ (by omega)).trans hc19_9
  have hc20_10 := (fr20 _ (by omega)).trans hc19_10
  have hc20_11 := (fr20 _ (by omega)).trans hn19a
  have hc20_12 := (fr20 _ (by omega)).trans hn19b
  have hF20 := Fu_fr hF19 hn20 fr20
  refine M.vret rfl (by omega) (by omega) ⟨rfl, ⟨hn20, fun r hr => ?_, fun i j hi hj h => Nat.add_left_cancel h⟩, fun q hq => ((((((((((((((((((((fr20 q (by omega)).trans (fr19 q (by omega))).trans (fr18 q (by omega))).trans (fr17 q (by omega))).trans (fr16 q (by omega))).trans (fr15 q (by omega))).trans (fr14 q (by omega))).trans (fr13 q (by omega))).trans (fr12 q (by omega))).trans (fr11 q (by omega))).trans (fr10 q (by omega))).trans (fr9 q (by omega))).trans (fr8 q (by omega))).trans (fr7 q (by omega))).trans (fr6 q (by omega))).trans (fr5 q (by omega))).trans (fr4 q (by omega))).trans (fr3 q (by omega))).trans (fr2 q (by omega))).trans (fr1 q (by omega))), hF20⟩
  rcases (show r = 0 ∨ r = 1 ∨ r = 2 ∨ r = 3 ∨ r = 4 ∨ r = 5 by omega) with rfl | rfl | rfl | rfl | rfl | rfl
  · exact isRw_3 hc20_1 hc20_2
  · exact isRw_0 hc20_3 hc20_4
  · exact isRw_0 hc20_5 hc20_6
  · exact isRw_0 hc20_7 hc20_8
  · exact isRw_0 hc20_9 hc20_10
  · exact isRw_0 hc20_11 hc20_12
set_option maxHeartbeats 4000000 in
set_option maxRecDepth 100000 in
theorem kX1_init (l : Launch) (G : GT) (o t0 a0 z : Nat) (hoz : o < z) : CtrS l G yX1_init cX1_init 3 (none : Option FieldType) 2 2 307 [vr o, vr t0, vr a0] (z) (fun w => lk w o = some (Ob 0 [vn, vn, vn, vi 0]) ∧ Fu G w z) (fun w r w' => r = none ∧ lk w' o = some (Ob 0 [vr t0, vr a0, vr z, vi 1]) ∧ lk w' z = some (Ob 1 [vr t0, vr a0, vr (z + 1), vi 0, vi 0, vi 0, vi 0]) ∧ lk w' (z + 1) = some (Ar 0 300 (fun _ => 0)) ∧ (∀ q : Nat, q ≠ o → (q < z ∨ z + 2 ≤ q) → lk w' q = lk w q) ∧ Fu G w' (z + 2)) := by
  refine CtrS.of (t := tX1_init) (lv0 := [some (vr o), some (vr t0), some (vr a0)]) (by decide +kernel) tX1_init_ok rfl rfl (fun w g hP MS => ?_)
  obtain ⟨hP, hF⟩ := hP
  have M := MS.M
  refine M.run 1 (pc' := 1) (lv' := [some (vr o), some (vr t0), some (vr a0)]) (st' := [vr o]) rfl ?_
  refine M.oinit wd_o_RX1 rfl (by decide) rfl ?_
  refine M.run 2 (pc' := 6) (lv' := [some (vr o), some (vr t0), some (vr a0)]) (st' := [vr t0, vr o]) rfl ?_
  refine M.putFW [vr t0, vn, vn, vi 0] fl_X1_9 rfl rfl rfl hP rfl rfl (Nat.le_of_ble_eq_true rfl) rfl (fun w1_ hn1 fr1 => ?_)
  have hF1 := Fu_fr hF hn1 fr1
  refine M.run 2 (pc' := 11) (lv' := [some (vr o), some (vr t0), some (vr a0)]) (st' := [vr a0, vr o]) rfl ?_
  refine M.putFW [vr t0, vr a0, vn, vi 0] fl_X1_15 rfl rfl rfl hn1 rfl rfl (Nat.le_of_ble_eq_true rfl) rfl (fun w2_ hn2 fr2 => ?_)
  have hF2 := Fu_fr hF1 hn2 fr2
  refine M.run 1 (pc' := 15) (lv' := [some (vr o), some (vr t0), some (vr a0)]) (st' := [vr o]) rfl ?_
  refine MS.newOW (ci := 1) (z) [vn, vn, vn, vi 0, vi 0, vi 0, vi 0] (by omega) hF2 rfl inX2 tyX2_ok wd_l_RX1_19 wd_i_RX2 wd_s_RX2 (by decide +kernel) rfl (by omega) (by omega) (fun w3_ hn3 fr3 hF3 => ?_)
  have hc3_0 := (fr3 _ (by omega)).trans hn2
  refine M.run 3 (pc' := 21) (lv' := [some (vr o), some (vr t0), some (vr a0)]) (st' := [vr a0, vr t0, vr z, vr z, vr o]) rfl ?_
  refine MS.callI (z + 1) (by omega) hF3 (kX2_init l G z t0 a0) ci_X1_21 cd_X2_init rfl rfl (by decide) (by decide) rfl (by omega) (by omega) ⟨hn3, hF3⟩ (fun w4_ hQ4 => ?_) (fun r w1 h => h.1)
  obtain ⟨_, hn4a, hn4b, fr4, hF4⟩ := hQ4
  have hc4_0 := (fr4 _ (by omega)).trans hc3_0
  refine M.putFW [vr t0, vr a0, vr z, vi 0] fl_X1_24 rfl rfl rfl hc4_0 rfl rfl (Nat.le_of_ble_eq_true rfl) rfl (fun w5_ hn5 fr5 => ?_)
  have hc5_1 := (fr5 _ (by omega)).trans hn4a
  have hc5_2 := (fr5 _ (by omega)).trans hn4b
  have hF5 := Fu_fr hF4 hn5 fr5
  refine M.run 2 (pc' := 29) (lv' := [some (vr o), some (vr t0), some (vr a0)]) (st' := [vi 1, vr o]) rfl ?_
  refine M.putW [vr t0, vr a0, vr z, vi 1] fl_X1_28 rfl hn5 rfl rfl (Nat.le_of_ble_eq_true rfl) rfl (fun w6_ hn6 fr6 => ?_)
  have hc6_1 := (fr6 _ (by omega)).trans hc5_1
  have hc6_2 := (fr6 _ (by omega)).trans hc5_2
  have hF6 := Fu_fr hF5 hn6 fr6
  refine M.vret rfl (by omega) (by omega) ⟨rfl, hn6, hc6_1, hc6_2, fun q hq1 hq => ((((((fr6 q (by omega)).trans (fr5 q (by omega))).trans (fr4 q (by omega))).trans (fr3 q (by omega))).trans (fr2 q (by omega))).trans (fr1 q (by omega))), hF6⟩
set_option maxHeartbeats 4000000 in
set_option maxRecDepth 100000 in
theorem kX3_init (l : Launch) (G : GT) (o : Nat) : CtrS l G yX3_init cX3_init 1 (none : Option FieldType) 2 6 1581 [vr o] (o + 1) (fun w => lk w o = some (Ob 2 [vn, vn, vn, vi 0, vi 0, vi 0, vi 0, vn, vn, vi 0, vi 0]) ∧ Fu G w (o + 1)) (fun w r w' => r = none ∧ lk w' o = some (Ob 2 [vr (o + 1), vr (o + 5), vr (o + 6), vi 0, vi 0, vi 0, vi 0, vr (gN G), vr (gN G), vi 0, vi 0]) ∧ lk w' (o + 1) = some (Ob 7 [vr (o + 2), vr (o + 3), vr (o + 4), vi 0]) ∧ lk w' (o + 2) = some (Ar 0 301 (fun _ => 0)) ∧ lk w' (o + 3) = some (Ar 0 301 (fun _ => 0)) ∧ lk w' (o + 4) = some (Ar 0 301 (fun _ => 0)) ∧ lk w' (o + 5) = some (Ar 0 602 (fun _ => 0)) ∧ lk w' (o + 6) = some (Ar 0 72 (fun _ => 0)) ∧ FrB o 7 w w' ∧ Fu G w' (o + 7)) := by
  refine CtrS.of (t := tX3_init) (lv0 := [some (vr o)]) (by decide +kernel) tX3_init_ok rfl rfl (fun w g hP MS => ?_)
  obtain ⟨hP, hF⟩ := hP
  have M := MS.M
  refine M.run 1 (pc' := 1) (lv' := [some (vr o)]) (st' := [vr o]) rfl ?_
  refine M.oinit wd_o_RX3 rfl (by decide) rfl ?_
  refine M.run 1 (pc' := 5) (lv' := [some (vr o)]) (st' := [vr o]) rfl ?_
  refine MS.newOW (ci := 7) (o + 1) [vn, vn, vn, vi 0] (by omega) hF rfl inX8 tyX8_ok wd_l_RX3_9 wd_i_RX8 wd_s_RX8 (by decide +kernel) rfl (by omega) (by omega) (fun w1_ hn1 fr1 hF1 => ?_)
  have hc1_0 := (fr1 _ (by omega)).trans hP
  refine M.run 1 (pc' := 9) (lv' := [some (vr o)]) (st' := [vr (o + 1), vr (o + 1), vr o]) rfl ?_
  refine MS.callI (o + 2) (by omega) hF1 (kX8_init l G (o + 1)) ci_X3_11 cd_X8_init rfl rfl (by decide) (by decide) rfl (by omega) (by omega) ⟨hn1, hF1⟩ (fun w2_ hQ2 => ?_) (fun r w1 h => h.1)
  obtain ⟨_, hn2a, hn2b, hn2c, hn2d, fr2, hF2⟩ := hQ2
  have hc2_0 := (fr2 _ (by omega)).trans hc1_0
  refine M.putFW [vr (o + 1), vn, vn, vi 0, vi 0, vi 0, vi 0, vn, vn, vi 0, vi 0] fl_X3_12 rfl rfl rfl hc2_0 rfl rfl (Nat.le_of_ble_eq_true rfl) rfl (fun w3_ hn3 fr3 => ?_)
  have hc3_1 := (fr3 _ (by omega)).trans hn2a
  have hc3_2 := (fr3 _ (by omega)).trans hn2b
  have hc3_3 := (fr3 _ (by omega)).trans hn2c
  have hc3_4 := (fr3 _ (by omega)).trans hn2d
  have hF3 := Fu_fr hF2 hn3 fr3
  refine M.run 2 (pc' := 19) (lv' := [some (vr o)]) (st' := [vi 602, vr o]) rfl ?_
  show g _ _ _ _ _ (vi ((602 : Nat) : Int) :: _)
  refine MS.newIW (o + 5) (by omega) hF3 (by omega) rfl (by omega) (by omega) (fun w4_ hn4 fr4 hF4 => ?_)
  have hc4_0 := (fr4 _ (by omega)).trans hn3
  have hc4_1 := (fr4 _ (by omega)).trans hc3_1
  have hc4_2 := (fr4 _ (by omega)).trans hc3_2
  have hc4_3 := (fr4 _ (by omega)).trans hc3_3
  have hc4_4 := (fr4 _ (by omega)).trans hc3_4
  refine M.putFW [vr (o + 1), vr (o + 5), vn, vi 0, vi 0, vi 0, vi 0, vn, vn, vi 0, vi 0] fl_X3_18 rfl rfl rfl hc4_0 rfl rfl (Nat.le_of_ble_eq_true rfl) rfl (fun w5_ hn5 fr5 => ?_)
  have hc5_1 := (fr5 _ (by omega)).trans hc4_1
  have hc5_2 := (fr5 _ (by omega)).trans hc4_2
  have hc5_3 := (fr5 _ (by omega)).trans hc4_3
  have hc5_4 := (fr5 _ (by omega)).trans hc4_4
  have hc5_5 := (fr5 _ (by omega)).trans hn4
  have hF5 := Fu_fr hF4 hn5 fr5
  refine M.run 2 (pc' := 27) (lv' := [some (vr o)]) (st' := [vi 72, vr o]) rfl ?_
  show g _ _ _ _ _ (vi ((72 : Nat) : Int) :: _)
  refine MS.newIW (o + 6) (by omega) hF5 (by omega) rfl (by omega) (by omega) (fun w6_ hn6 fr6 hF6 => ?_)
  have hc6_0 := (fr6 _ (by omega)).trans hn5
  have hc6_1 := (fr6 _ (by omega)).trans hc5_1
  have hc6_2 := (fr6 _ (by omega)).trans hc5_2
  have hc6_3 := (fr6 _ (by omega)).trans hc5_3
  have hc6_4 := (fr6 _ (by omega)).trans hc5_4
  have hc6_5 := (fr6 _ (by omega)).trans hc5_5
  refine M.putFW [vr (o + 1), vr (o + 5), vr (o + 6), vi 0, vi 0, vi 0, vi 0, vn, vn, vi 0, vi 0] fl_X3_22 rfl rfl rfl hc6_0 rfl rfl (Nat.le_of_ble_eq_true rfl) rfl (fun w7_ hn7 fr7 => ?_)
  have hc7_1 := (fr7 _ (by omega)).trans hc6_1
  have hc7_2 := (fr7 _ (by omega)).trans hc6_2
  have hc7_3 := (fr7 _ (by omega)).trans hc6_3
  have hc7_4 := (fr7 _ (by omega)).trans hc6_4
  have hc7_5 := (fr7 _ (by omega)).trans hc6_5
  have hc7_6 := (fr7 _ (by omega)).trans hn6
  have hF7 := Fu_fr hF6 hn7 fr7
  refine M.run 1 (pc' := 33) (lv' := [some (vr o)]) (st' := [vr o]) rfl ?_
  refine M.getsN rfl rfl ?_
  refine M.putW [vr (o + 1), vr (o + 5), vr (o + 6), vi 0, vi 0, vi 0, vi 0, vr (gN G), vn, vi 0, vi 0] fl_X3_28 rfl hn7 rfl rfl (Nat.le_of_ble_eq_true rfl) rfl (fun w8_ hn8 fr8 => ?_)
  have hc8_1 := (fr8 _ (by omega)).trans hc7_1
  have hc8_2 := (fr8 _ (by omega)).trans hc7_2
  have hc8_3 := (fr8 _ (by omega)).trans hc7_3
  have hc8_4 := (fr8 _ (by omega)).trans hc7_4
  have hc8_5 := (fr8 _ (by omega)).trans hc7_5
  have hc8_6 := (fr8 _ (by omega)).trans hc7_6
  have hF8 := Fu_fr hF7 hn8 fr8
  refine M.run 1 (pc' := 40) (lv' := [some (vr o)]) (st' := [vr o]) rfl ?_
  refine M.getsN rfl rfl ?_
  refine M.putW [vr (o + 1), vr (o + 5), vr (o + 6), vi 0, vi 0, vi 0, vi 0, vr (gN G), vr (gN G), vi 0, vi 0] fl_X3_31 rfl hn8 rfl rfl (Nat.le_of_ble_eq_true rfl) rfl (fun w9_ hn9 fr9 => ?_)
  have hc9_1 := (fr9 _ (by omega)).trans hc8_1
  have hc9_2 := (fr9 _ (by omega)).trans hc8_2
  have hc9_3 := (fr9 _ (by omega)).trans hc8_3
  have hc9_4 := (fr9 _ (by omega)).trans hc8_4
  have hc9_5 := (fr9 _ (by omega)).trans hc8_5
  have hc9_6 := (fr9 _ (by omega)).trans hc8_6
  have hF9 := Fu_fr hF8 hn9 fr9
  refine M.vret rfl (by omega) (by omega) ⟨rfl, hn9, hc9_1, hc9_2, hc9_3, hc9_4, hc9_5, hc9_6, fun q hq => (((((((((fr9 q (by omega)).trans (fr8 q (by omega))).trans (fr7 q (by omega))).trans (fr6 q (by omega))).trans (fr5 q (by omega))).trans (fr4 q (by omega))).trans (fr3 q (by omega))).trans (fr2 q (by omega))).trans (fr1 q (by omega))), hF9⟩
