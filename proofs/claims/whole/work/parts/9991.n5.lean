/-! constructors: the class whole -/
set_option maxHeartbeats 4000000 in
set_option maxRecDepth 100000 in
theorem kX10_init (l : Launch) (G : GT) (o : Nat) (X : Nat → Int → Option Gn) (cl : Nat → Int) : CtrS l G yX10_init cX10_init 1 (none : Option FieldType) 4 849 65036 [vr o] (o + 1) (fun w => lk w o = some (Ob 9 [vn, vn, vn, vn, vn, vn, vn, vn, vi 0, vi 0, vi 0]) ∧ Fu G w (o + 1)) (fun w r w' => r = none ∧ isEn G (o + 850) (aA o) (tz (o + 1)) t0i (fun _ => -1) X cl 1 D0 w' ∧ isKr o (fun _ => -1) (fun _ => -1) [] t0i D0 [] (fun _ => 0) 0 (-1) (-1) w' ∧ FrB o 850 w w' ∧ Fu G w' (o + 850)) := by
  refine CtrS.of (t := tX10_init) (lv0 := [some (vr o)]) (by decide +kernel) tX10_init_ok rfl rfl (fun w g hP MS => ?_)
  obtain ⟨hP, hF⟩ := hP
  have M := MS.M
  refine M.run 1 (pc' := 1) (lv' := [some (vr o)]) (st' := [vr o]) rfl ?_
  refine M.oinit wd_o_RX10 rfl (by decide) rfl ?_
  refine M.run 1 (pc' := 5) (lv' := [some (vr o)]) (st' := [vr o]) rfl ?_
  refine MS.newOW (ci := 4) (o + 1) [vn, vn, vn, vi 0, vi 0] (by omega) hF rfl inX5 tyX5_ok wd_l_RX10_9 wd_i_RX5 wd_s_RX5 (by decide +kernel) rfl (by omega) (by omega) (fun w1_ hn1 fr1 hF1 => ?_)
  have hc1_0 := (fr1 _ (by omega)).trans hP
  refine M.run 1 (pc' := 9) (lv' := [some (vr o)]) (st' := [vr (o + 1), vr (o + 1), vr o]) rfl ?_
  refine MS.callI (o + 2) (by omega) hF1 (kX5_init l G (o + 1)) ci_X10_11 cd_X5_init rfl rfl (by decide) (by decide) rfl (by omega) (by omega) ⟨hn1, hF1⟩ (fun w2_ hQ2 => ?_) (fun r w1 h => h.1)
  obtain ⟨_, hz2, fr2, hF2⟩ := hQ2
  have hc2_0 := (fr2 _ (by omega)).trans hc1_0
  have hS2 : Std0 (o + 1) w2_ := hz2
  refine M.putFW [vr (o + 1), vn, vn, vn, vn, vn, vn, vn, vi 0, vi 0, vi 0] fl_X10_12 rfl rfl rfl hc2_0 rfl rfl (Nat.le_of_ble_eq_true rfl) rfl (fun w3_ hn3 fr3 => ?_)
  have hS3 := std_e hS2 (fun a h1 h2 => fr3 a (by omega))
  have hF3 := Fu_fr hF2 hn3 fr3
  refine M.run 1 (pc' := 16) (lv' := [some (vr o)]) (st' := [vr o]) rfl ?_
  refine MS.newOW (ci := 4) (o + 412) [vn, vn, vn, vi 0, vi 0] (by omega) hF3 rfl inX5 tyX5_ok wd_l_RX10_9 wd_i_RX5 wd_s_RX5 (by decide +kernel) rfl (by omega) (by omega) (fun w4_ hn4 fr4 hF4 => ?_)
  have hc4_0 := (fr4 _ (by omega)).trans hn3
  have hS4 := std_e hS3 (fun a h1 h2 => fr4 a (by omega))
  refine M.run 1 (pc' := 20) (lv' := [some (vr o)]) (st' := [vr (o + 412), vr (o + 412), vr o]) rfl ?_
  refine MS.callI (o + 413) (by omega) hF4 (kX5_init l G (o + 412)) ci_X10_11 cd_X5_init rfl rfl (by decide) (by decide) rfl (by omega) (by omega) ⟨hn4, hF4⟩ (fun w5_ hQ5 => ?_) (fun r w1 h => h.1)
  obtain ⟨_, hz5, fr5, hF5⟩ := hQ5
  have hc5_0 := (fr5 _ (by omega)).trans hc4_0
  have hS5 := std_e hS4 (fun a h1 h2 => fr5 a (by omega))
  have hK5 : Std0 (o + 412) w5_ := hz5
  refine M.putFW [vr (o + 1), vr (o + 412), vn, vn, vn, vn, vn, vn, vi 0, vi 0, vi 0] fl_X10_16 rfl rfl rfl hc5_0 rfl rfl (Nat.le_of_ble_eq_true rfl) rfl (fun w6_ hn6 fr6 => ?_)
  have hS6 := std_e hS5 (fun a h1 h2 => fr6 a (by omega))
  have hK6 := std_e hK5 (fun a h1 h2 => fr6 a (by omega))
  have hF6 := Fu_fr hF5 hn6 fr6
  refine M.run 2 (pc' := 28) (lv' := [some (vr o)]) (st' := [vr o, vr o]) rfl ?_
  refine M.get fl_X10_12 rfl hn6 (kf := 0) (v := vr (o + 1)) rfl ?_
  refine M.get fl_X10_19 rfl hS6.1.1 (kf := 0) (v := vr (tz (o + 1) 0)) rfl ?_
  refine M.putFW [vr (o + 1), vr (o + 412), vr (tz (o + 1) 0), vn, vn, vn, vn, vn, vi 0, vi 0, vi 0] fl_X10_23 rfl rfl rfl hn6 rfl rfl (Nat.le_of_ble_eq_true rfl) rfl (fun w7_ hn7 fr7 => ?_)
  have hS7 := std_e hS6 (fun a h1 h2 => fr7 a (by omega))
  have hK7 := std_e hK6 (fun a h1 h2 => fr7 a (by omega))
  have hF7 := Fu_fr hF6 hn7 fr7
  refine M.run 2 (pc' := 39) (lv' := [some (vr o)]) (st' := [vr o, vr o]) rfl ?_
  refine M.get fl_X10_12 rfl hn7 (kf := 0) (v := vr (o + 1)) rfl ?_
  refine M.get fl_X10_24 rfl hS7.1.1 (kf := 1) (v := vr (nz (o + 1) 0)) rfl ?_
  refine M.putFW [vr (o + 1), vr (o + 412), vr (tz (o + 1) 0), vr (nz (o + 1) 0), vn, vn, vn, vn, vi 0, vi 0, vi 0] fl_X10_28 rfl rfl rfl hn7 rfl rfl (Nat.le_of_ble_eq_true rfl) rfl (fun w8_ hn8 fr8 => ?_)
  have hS8 := std_e hS7 (fun a h1 h2 => fr8 a (by omega))
  have hK8 := std_e hK7 (fun a h1 h2 => fr8 a (by omega))
  have hF8 := Fu_fr hF7 hn8 fr8
  refine M.run 1 (pc' := 49) (lv' := [some (vr o)]) (st' := [vr o]) rfl ?_
  refine MS.newOW (ci := 0) (o + 823) [vn, vn, vn, vi 0] (by omega) hF8 rfl inX1 tyX1_ok wd_l_RX10_29 wd_i_RX1 wd_s_RX1 (by decide +kernel) rfl (by omega) (by omega) (fun w9_ hn9 fr9 hF9 => ?_)
  have hc9_0 := (fr9 _ (by omega)).trans hn8
  have hS9 := std_e hS8 (fun a h1 h2 => fr9 a (by omega))
  have hK9 := std_e hK8 (fun a h1 h2 => fr9 a (by omega))
  refine M.run 2 (pc' := 54) (lv' := [some (vr o)]) (st' := [vr o, vr (o + 823), vr (o + 823), vr o]) rfl ?_
  refine M.get fl_X10_23 rfl hc9_0 (kf := 2) (v := vr (tz (o + 1) 0)) rfl ?_
  refine M.run 1 (pc' := 58) (lv' := [some (vr o)]) (st' := [vr o, vr (tz (o + 1) 0), vr (o + 823), vr (o + 823), vr o]) rfl ?_
  refine M.get fl_X10_28 rfl hc9_0 (kf := 3) (v := vr (nz (o + 1) 0)) rfl ?_
  refine MS.callI (o + 824) (by omega) hF9 (kX1_init l G (o + 823) (tz (o + 1) 0) (nz (o + 1) 0) (o + 824) (by omega)) ci_X10_31 cd_X1_init rfl rfl (by decide) (by decide) rfl (by omega) (by omega) ⟨hn9, hF9⟩ (fun w10_ hQ10 => ?_) (fun r w1 h => h.1)
  obtain ⟨_, hn10a, hn10b, hn10c, fr10, hF10⟩ := hQ10
  have hc10_0 := (fr10 _ (by omega) (by omega)).trans hc9_0
  have hS10 := std_e hS9 (fun a h1 h2 => fr10 a (by omega) (by omega))
  have hK10 := std_e hK9 (fun a h1 h2 => fr10 a (by omega) (by omega))
  refine M.putFW [vr (o + 1), vr (o + 412), vr (tz (o + 1) 0), vr (nz (o + 1) 0), vr (o + 823), vn, vn, vn, vi 0, vi 0, vi 0] fl_X10_34 rfl rfl rfl hc10_0 rfl rfl (Nat.le_of_ble_eq_true rfl) rfl (fun w11_ hn11 fr11 => ?_)
  have hc11_1 := (fr11 _ (by omega)).trans hn10a
  have hc11_42 := (fr11 _ (by omega)).trans hn10b
  have hc11_43 := (fr11 _ (by omega)).trans hn10c
  have hS11 := std_e hS10 (fun a h1 h2 => fr11 a (by omega))
  have hK11 := std_e hK10 (fun a h1 h2 => fr11 a (by omega))
  have hF11 := Fu_fr hF10 hn11 fr11
  refine M.run 1 (pc' := 68) (lv' := [some (vr o)]) (st' := [vr o]) rfl ?_
  refine MS.newOW (ci := 0) (o + 826) [vn, vn, vn, vi 0] (by omega) hF11 rfl inX1 tyX1_ok wd_l_RX10_29 wd_i_RX1 wd_s_RX1 (by decide +kernel) rfl (by omega) (by omega) (fun w12_ hn12 fr12 hF12 => ?_)
  have hc12_0 := (fr12 _ (by omega)).trans hn11
  have hc12_1 := (fr12 _ (by omega)).trans hc11_1
  have hc12_42 := (fr12 _ (by omega)).trans hc11_42
  have hc12_43 := (fr12 _ (by omega)).trans hc11_43
  have hS12 := std_e hS11 (fun a h1 h2 => fr12 a (by omega))
  have hK12 := std_e hK11 (fun a h1 h2 => fr12 a (by omega))
  refine M.run 2 (pc' := 73) (lv' := [some (vr o)]) (st' := [vr o, vr (o + 826), vr (o + 826), vr o]) rfl ?_
  refine M.get fl_X10_23 rfl hc12_0 (kf := 2) (v := vr (tz (o + 1) 0)) rfl ?_
  refine MS.newOW (ci := 5) (o + 827) [vi 0, vi 0, vi 0, vi 0, vi 0, vn, vn, vn, vn, vn, vn] (by omega) hF12 rfl inX6 tyX6_ok wd_l_RX10_38 wd_i_RX6 wd_s_RX6 (by decide +kernel) rfl (by omega) (by omega) (fun w13_ hn13 fr13 hF13 => ?_)
  have hc13_0 := (fr13 _ (by omega)).trans hc12_0
  have hc13_1 := (fr13 _ (by omega)).trans hc12_1
  have hc13_42 := (fr13 _ (by omega)).trans hc12_42
  have hc13_43 := (fr13 _ (by omega)).trans hc12_43
  have hc13_4 := (fr13 _ (by omega)).trans hn12
  have hS13 := std_e hS12 (fun a h1 h2 => fr13 a (by omega))
  have hK13 := std_e hK12 (fun a h1 h2 => fr13 a (by omega))
  refine M.run 1 (pc' := 80) (lv' := [some (vr o)]) (st' := [vr (o + 827), vr (o + 827), vr (tz (o + 1) 0), vr (o + 826), vr (o + 826), vr o]) rfl ?_
  refine MS.callI (o + 828) (by omega) hF13 (kX6_init l G (o + 827)) ci_X10_40 cd_X6_init rfl rfl (by decide) (by decide) rfl (by omega) (by omega) ⟨hn13, hF13⟩ (fun w14_ hQ14 => ?_) (fun r w1 h => h.1)
  obtain ⟨_, hz14, fr14, hF14⟩ := hQ14
  have hc14_0 := (fr14 _ (by omega)).trans hc13_0
  have hc14_1 := (fr14 _ (by omega)).trans hc13_1
  have hc14_42 := (fr14 _ (by omega)).trans hc13_42
  have hc14_43 := (fr14 _ (by omega)).trans hc13_43
  have hc14_4 := (fr14 _ (by omega)).trans hc13_4
  have hS14 := std_e hS13 (fun a h1 h2 => fr14 a (by omega))
  have hK14 := std_e hK13 (fun a h1 h2 => fr14 a (by omega))
  have hX14 : isSt (fun i => o + 827 + i) D0 w14_ := hz14
  refine MS.callI (o + 840) (by omega) hF14 (kX1_init l G (o + 826) (tz (o + 1) 0) (o + 827) (o + 840) (by omega)) ci_X10_31 cd_X1_init rfl rfl (by decide) (by decide) rfl (by omega) (by omega) ⟨hc14_4, hF14⟩ (fun w15_ hQ15 => ?_) (fun r w1 h => h.1)
  obtain ⟨_, hn15a, hn15b, hn15c, fr15, hF15⟩ := hQ15
  have hc15_0 := (fr15 _ (by omega) (by omega)).trans hc14_0
  have hc15_1 := (fr15 _ (by omega) (by omega)).trans hc14_1
  have hc15_42 := (fr15 _ (by omega) (by omega)).trans hc14_42
  have hc15_43 := (fr15 _ (by omega) (by omega)).trans hc14_43
  have hS15 := std_e hS14 (fun a h1 h2 => fr15 a (by omega) (by omega))
  have hK15 := std_e hK14 (fun a h1 h2 => fr15 a (by omega) (by omega))
  have hX15 := isS2_e hX14 (fun j hj => fr15 (o + 827 + j) (by omega) (by omega))
  refine M.putFW [vr (o + 1), vr (o + 412), vr (tz (o + 1) 0), vr (nz (o + 1) 0), vr (o + 823), vr (o + 826), vn, vn, vi 0, vi 0, vi 0] fl_X10_41 rfl rfl rfl hc15_0 rfl rfl (Nat.le_of_ble_eq_true rfl) rfl (fun w16_ hn16 fr16 => ?_)
  have hc16_1 := (fr16 _ (by omega)).trans hc15_1
  have hc16_42 := (fr16 _ (by omega)).trans hc15_42
  have hc16_43 := (fr16 _ (by omega)).trans hc15_43
  have hc16_4 := (fr16 _ (by omega)).trans hn15a
  have hc16_45 := (fr16 _ (by omega)).trans hn15b
  have hc16_46 := (fr16 _ (by omega)).trans hn15c
  have hS16 := std_e hS15 (fun a h1 h2 => fr16 a (by omega))
  have hK16 := std_e hK15 (fun a h1 h2 => fr16 a (by omega))
  have hX16 := isS2_e hX15 (fun j hj => fr16 (o + 827 + j) (by omega))
  have hF16 := Fu_fr hF15 hn16 fr16
  refine M.run 1 (pc' := 90) (lv' := [some (vr o)]) (st' := [vr o]) rfl ?_
  refine MS.newOW (ci := 2) (o + 842) [vn, vn, vn, vi 0, vi 0, vi 0, vi 0, vn, vn, vi 0, vi 0] (by omega) hF16 rfl inX3 tyX3_ok wd_l_RX10_44 wd_i_RX3 wd_s_RX3 (by decide +kernel) rfl (by omega) (by omega) (fun w17_ hn17 fr17 hF17 => ?_)
  have hc17_0 := (fr17 _ (by omega)).trans hn16
  have hc17_1 := (fr17 _ (by omega)).trans hc16_1
  have hc17_42 := (fr17 _ (by omega)).trans hc16_42
  have hc17_43 := (fr17 _ (by omega)).trans hc16_43
  have hc17_4 := (fr17 _ (by omega)).trans hc16_4
  have hc17_45 := (fr17 _ (by omega)).trans hc16_45
  have hc17_46 := (fr17 _ (by omega)).trans hc16_46
  have hS17 := std_e hS16 (fun a h1 h2 => fr17 a (by omega))
  have hK17 := std_e hK16 (fun a h1 h2 => fr17 a (by omega))
  have hX17 := isS2_e hX16 (fun j hj => fr17 (o + 827 + j) (by omega))
  refine M.run 1 (pc' := 94) (lv' := [some (vr o)]) (st' := [vr (o + 842), vr (o + 842), vr o]) rfl ?_
  refine MS.callI (o + 843) (by omega) hF17 (kX3_init l G (o + 842)) ci_X10_46 cd_X3_init rfl rfl (by decide) (by decide) rfl (by omega) (by omega) ⟨hn17, hF17⟩ (fun w18_ hQ18 => ?_) (fun r w1 h => h.1)
  obtain ⟨_, hn18a, hn18b, hn18c, hn18d, hn18e, hn18f, hn18g, fr18, hF18⟩ := hQ18
  have hc18_0 := (fr18 _ (by omega)).trans hc17_0
  have hc18_1 := (fr18 _ (by omega)).trans hc17_1
  have hc18_42 := (fr18 _ (by omega)).trans hc17_42
  have hc18_43 := (fr18 _ (by omega)).trans hc17_43
  have hc18_4 := (fr18 _ (by omega)).trans hc17_4
  have hc18_45 := (fr18 _ (by omega)).trans hc17_45
  have hc18_46 := (fr18 _ (by omega)).trans hc17_46
  have hS18 := std_e hS17 (fun a h1 h2 => fr18 a (by omega))
  have hK18 := std_e hK17 (fun a h1 h2 => fr18 a (by omega))
  have hX18 := isS2_e hX17 (fun j hj => fr18 (o + 827 + j) (by omega))
  refine M.putFW [vr (o + 1), vr (o + 412), vr (tz (o + 1) 0), vr (nz (o + 1) 0), vr (o + 823), vr (o + 826), vr (o + 842), vn, vi 0, vi 0, vi 0] fl_X10_47 rfl rfl rfl hc18_0 rfl rfl (Nat.le_of_ble_eq_true rfl) rfl (fun w19_ hn19 fr19 => ?_)
  have hc19_1 := (fr19 _ (by omega)).trans hc18_1
  have hc19_42 := (fr19 _ (by omega)).trans hc18_42
  have hc19_43 := (fr19 _ (by omega)).trans hc18_43
  have hc19_4 := (fr19 _ (by omega)).trans hc18_4
  have hc19_45 := (fr19 _ (by omega)).trans hc18_45
  have hc19_46 := (fr19 _ (by omega)).trans hc18_46
  have hc19_7 := (fr19 _ (by omega)).trans hn18a
  have hc19_8 := (fr19 _ (by omega)).trans hn18b
  have hc19_9 := (fr19 _ (by omega)).trans hn18c
  have hc19_10 := (fr19 _ (by omega)).trans hn18d
  have hc19_11 := (fr19 _ (by omega)).trans hn18e
  have hc19_12 := (fr19 _ (by omega)).trans hn18f
  have hc19_13 := (fr19 _ (by omega)).trans hn18g
  have hS19 := std_e hS18 (fun a h1 h2 => fr19 a (by omega))
  have hK19 := std_e hK18 (fun a h1 h2 => fr19 a (by omega))
  have hX19 := isS2_e hX18 (fun j hj => fr19 (o + 827 + j) (by omega))
  have hF19 := Fu_fr hF18 hn19 fr19
  refine M.run 2 (pc' := 104) (lv' := [some (vr o)]) (st' := [vi 300, vr o]) rfl ?_
  show g _ _ _ _ _ (vi ((300 : Nat) : Int) :: _)
  refine MS.newIW (o + 849) (by omega) hF19 (by omega) rfl (by omega) (by omega) (fun w20_ hn20 fr20 hF20 => ?_)
  have hc20_0 := (fr20 _ (by omega)).trans hn19
  have hc20_1 := (fr20 _ (by omega)).trans hc19_1
  have hc20_42 := (fr20 _ (by omega)).trans hc19_42
  have hc20_43 := (fr20 _ (by omega)).trans hc19_43
  have hc20_4 := (fr20 _ (by omega)).trans hc19_4
  have hc20_45 := (fr20 _ (by omega)).trans hc19_45
  have hc20_46 := (fr20 _ (by omega)).trans hc19_46
  have hc20_7 := (fr20 _ (by omega)).trans hc19_7
  have hc20_8 := (fr20 _ (by omega)).trans hc19_8
  have hc20_9 := (fr20 _ (by omega)).trans hc19_9
  have hc20_10 := (fr20 _ (by omega)).trans hc19_10
  have hc20_11 := (fr20 _ (by omega)).trans hc19_11
  have hc20_12 := (fr20 _ (by omega)).trans hc19_12
  have hc20_13 := (fr20 _ (by omega)).trans hc19_13
  have hS20 := std_e hS19 (fun a h1 h2 => fr20 a (by omega))
  have hK20 := std_e hK19 (fun a h1 h2 => fr20 a (by omega))
  have hX20 := isS2_e hX19 (fun j hj => fr20 (o + 827 + j) (by omega))
  refine M.putFW [vr (o + 1), vr (o + 412), vr (tz (o + 1) 0), vr (nz (o + 1) 0), vr (o + 823), vr (o + 826), vr (o + 842), vr (o + 849), vi 0, vi 0, vi 0] fl_X10_51 rfl rfl rfl hc20_0 rfl rfl (Nat.le_of_ble_eq_true rfl) rfl (fun w21_ hn21 fr21 => ?_)
  have hc21_1 := (fr21 _ (by omega)).trans hc20_1
  have hc21_42 := (fr21 _ (by omega)).trans hc20_42
  have hc21_43 := (fr21 _ (by omega)).trans hc20_43
  have hc21_4 := (fr21 _ (by omega)).trans hc20_4
  have hc21_45 := (fr21 _ (by omega)).trans hc20_45
  have hc21_46 := (fr21 _ (by omega)).trans hc20_46
  have hc21_7 := (fr21 _ (by omega)).trans hc20_7
  have hc21_8 := (fr21 _ (by omega)).trans hc20_8
  have hc21_9 := (fr21 _ (by omega)).trans hc20_9
  have hc21_10 := (fr21 _ (by omega)).trans hc20_10
  have hc21_11 := (fr21 _ (by omega)).trans hc20_11
  have hc21_12 := (fr21 _ (by omega)).trans hc20_12
  have hc21_13 := (fr21 _ (by omega)).trans hc20_13
  have hc21_14 := (fr21 _ (by omega)).trans hn20
  have hS21 := std_e hS20 (fun a h1 h2 => fr21 a (by omega))
  have hK21 := std_e hK20 (fun a h1 h2 => fr21 a (by omega))
  have hX21 := isS2_e hX20 (fun j hj => fr21 (o + 827 + j) (by omega))
  have hF21 := Fu_fr hF20 hn21 fr21
  refine M.run 2 (pc' := 111) (lv' := [some (vr o)]) (st' := [vi (-1), vr o]) rfl ?_
  refine M.putW [vr (o + 1), vr (o + 412), vr (tz (o + 1) 0), vr (nz (o + 1) 0), vr (o + 823), vr (o + 826), vr (o + 842), vr (o + 849), vi 0, vi (-1), vi 0] fl_X10_55 rfl hn21 rfl rfl (Nat.le_of_ble_eq_true rfl) rfl (fun w22_ hn22 fr22 => ?_)
  have hc22_1 := (fr22 _ (by omega)).trans hc21_1
  have hc22_42 := (fr22 _ (by omega)).trans hc21_42
  have hc22_43 := (fr22 _ (by omega)).trans hc21_43
  have hc22_4 := (fr22 _ (by omega)).trans hc21_4
  have hc22_45 := (fr22 _ (by omega)).trans hc21_45
  have hc22_46 := (fr22 _ (by omega)).trans hc21_46
  have hc22_7 := (fr22 _ (by omega)).trans hc21_7
  have hc22_8 := (fr22 _ (by omega)).trans hc21_8
  have hc22_9 := (fr22 _ (by omega)).trans hc21_9
  have hc22_10 := (fr22 _ (by omega)).trans hc21_10
  have hc22_11 := (fr22 _ (by omega)).trans hc21_11
  have hc22_12 := (fr22 _ (by omega)).trans hc21_12
  have hc22_13 := (fr22 _ (by omega)).trans hc21_13
  have hc22_14 := (fr22 _ (by omega)).trans hc21_14
  have hS22 := std_e hS21 (fun a h1 h2 => fr22 a (by omega))
  have hK22 := std_e hK21 (fun a h1 h2 => fr22 a (by omega))
  have hX22 := isS2_e hX21 (fun j hj => fr22 (o + 827 + j) (by omega))
  have hF22 := Fu_fr hF21 hn22 fr22
  refine M.run 2 (pc' := 116) (lv' := [some (vr o)]) (st' := [vi (-1), vr o]) rfl ?_
  refine M.putW [vr (o + 1), vr (o + 412), vr (tz (o + 1) 0), vr (nz (o + 1) 0), vr (o + 823), vr (o + 826), vr (o + 842), vr (o + 849), vi 0, vi (-1), vi (-1)] fl_X10_59 rfl hn22 rfl rfl (Nat.le_of_ble_eq_true rfl) rfl (fun w23_ hn23 fr23 => ?_)
  have hc23_1 := (fr23 _ (by omega)).trans hc22_1
  have hc23_42 := (fr23 _ (by omega)).trans hc22_42
  have hc23_43 := (fr23 _ (by omega)).trans hc22_43
  have hc23_4 := (fr23 _ (by omega)).trans hc22_4
  have hc23_45 := (fr23 _ (by omega)).trans hc22_45
  have hc23_46 := (fr23 _ (by omega)).trans hc22_46
  have hc23_7 := (fr23 _ (by omega)).trans hc22_7
  have hc23_8 := (fr23 _ (by omega)).trans hc22_8
  have hc23_9 := (fr23 _ (by omega)).trans hc22_9
  have hc23_10 := (fr23 _ (by omega)).trans hc22_10
  have hc23_11 := (fr23 _ (by omega)).trans hc22_11
  have hc23_12 := (fr23 _ (by omega)).trans hc22_12
  have hc23_13 := (fr23 _ (by omega)).trans hc22_13
  have hc23_14 := (fr23 _ (by omega)).trans hc22_14
  have hS23 := std_e hS22 (fun a h1 h2 => fr23 a (by omega))
  have hK23 := std_e hK22 (fun a h1 h2 => fr23 a (by omega))
  have hX23 := isS2_e hX22 (fun j hj => fr23 (o + 827 + j) (by omega))
  have hF23 := Fu_fr hF22 hn23 fr23
  obtain ⟨sR1, sT1, sS1⟩ := hS23
  obtain ⟨sR2, sT2, sS2⟩ := hK23
  refine M.vret rfl (by omega) (by omega) ⟨rfl, ⟨isS2_map sS1 (fun i hi => aA_n hi), sT1, hc23_1, ⟨_, 0, 0, 0, 0, hc23_42, hc23_43⟩, fun t ht => absurd ht (by show ¬ ((t : Int) < 0); omega), aA_inj, aA_T, aA_hb⟩, ⟨hn23, ⟨0, _, by decide, by decide, sR1, fun j hj => absurd hj (Nat.not_lt_zero _)⟩, ⟨0, _, by decide, by decide, sR2, fun j hj => absurd hj (Nat.not_lt_zero _)⟩, sT2, sS2, ⟨hc23_4, ⟨_, 0, 0, 0, 0, hc23_45, hc23_46⟩, D0, isS2_map hX23 (fun i hi => by unfold aB; rw [if_pos hi])⟩, fun j hj h0 => absurd h0 (show ¬ (0 : Int) ≤ -1 by decide), fun j hj h0 => absurd h0 (show ¬ (0 : Int) ≤ -1 by decide), fun t ht => rfl, ⟨⟨0, 0, 0, 0, 0, 0, _, _, hc23_7⟩, ⟨0, hc23_8⟩, ⟨_, hc23_9⟩, ⟨_, hc23_10⟩, ⟨_, hc23_11⟩, ⟨_, hc23_12⟩, ⟨_, hc23_13⟩⟩, hc23_14⟩, fun q hq => (((((((((((((((((((((((fr23 q (by omega)).trans (fr22 q (by omega))).trans (fr21 q (by omega))).trans (fr20 q (by omega))).trans (fr19 q (by omega))).trans (fr18 q (by omega))).trans (fr17 q (by omega))).trans (fr16 q (by omega))).trans (fr15 q (by omega) (by omega))).trans (fr14 q (by omega))).trans (fr13 q (by omega))).trans (fr12 q (by omega))).trans (fr11 q (by omega))).trans (fr10 q (by omega) (by omega))).trans (fr9 q (by omega))).trans (fr8 q (by omega))).trans (fr7 q (by omega))).trans (fr6 q (by omega))).trans (fr5 q (by omega))).trans (fr4 q (by omega))).trans (fr3 q (by omega))).trans (fr2 q (by omega))).trans (fr1 q (by omega))), hF23⟩
