/-! the law: cases 30, 31, 32, 33, 34, 35, 36, 37, 38, 39 -/
def tL_1224 : List (Nat × Instr × Nat) := [(1224, .aload_n 1, 1), (1225, .aload_n 0, 1), (1226, .iload_n 3, 1), (1227, .iconst 1, 1), (1228, .iadd, 1), (1229, .iaload, 1), (1230, .invokevirtual 142, 3), (1233, .aload_n 2, 1), (1234, .aload_n 0, 1), (1235, .iload_n 3, 1), (1236, .iconst 1, 1), (1237, .iadd, 1), (1238, .iaload, 1), (1239, .invokevirtual 145, 3), (1242, .if_icmp .eq 692, 3)]
set_option maxRecDepth 100000 in
theorem tL_1224_ok : tL_1224.all (fun q => decide (decode cL_law q.1 = .ok q.2)) = true := by decide +kernel
set_option maxHeartbeats 4000000 in
set_option maxRecDepth 100000 in
theorem law_30 (l : Launch) (G : GT) : LSt l G 1224 := by
  intro nm ds t0 Qp sz sb Ln xs g kb o n wc wm k ns i MX0 hL hi hn h hk hns hkb kk
  obtain ⟨tl, fx, fx2, X, D, L, tl2, D2, L2, t, u, b0, hC⟩ := h
  have hC0 := hC
  obtain ⟨hp, hp2, h12, hE, hKr, hTm, hIm, hTx, hby, hu4, ht3, hu23⟩ := hC0
  obtain ⟨hT, hd, hJ, hi0, h9, hZ, hru, hs, hsd, hLk, hrg⟩ := PS_all hp
  have hkc := hKr.1
  obtain ⟨oc, hoc⟩ := isT_in hTm
  have MX := MX0.tab tL_1224_ok
  have M := MX.S.M
  refine M.run 5 (pc' := 1229) (lv' := [some (vr sb), some (vr kb), some (vr o), some (vi ((i : Nat) : Int))]) (st' := [vi ((i + 1 : Nat) : Int), vr sb, vr kb]) rfl ?_
  refine MX.sld (i + 1) rfl (by omega) hL ?_
  refine M.callVm (Ctr.frL wc wm (kX10_whole l G kb tl fx fx2 X (b0 2) D L tl2 D2 L2 (b0 3) ((t : Nat) : Int) (u 5) (u 6) hT n hd (by omega) hJ hi0 h9 hZ hru ((xs (i + 1)).toInt) (i32b _))) cv_L_142 cd_X10_whole rfl (st := []) rfl (in_l hkc) (by decide) (by decide) rfl (by omega) (by omega) ⟨rfl, hE, hKr⟩ (fun r1 w1 q1 => ?_)
  obtain ⟨wc1, ⟨q1r, q1c⟩, q1w⟩ := q1
  rw [q1r, q1w, q1c]
  refine M.run 5 (pc' := 1238) (lv' := [some (vr sb), some (vr kb), some (vr o), some (vi ((i : Nat) : Int))]) (st' := [vi ((i + 1 : Nat) : Int), vr sb, vr o, vi _]) rfl ?_
  refine MX.sld (i + 1) rfl (by omega) hL ?_
  refine M.callVm (Ctr.frR wm wc (vX11_whole l G o (aI o) u tl b0 D L n hT hd hi0 h9 hLk (by omega) (Or.inl hu23) X ⟨hTx, hru.2⟩ ((xs (i + 1)).toInt) (i32b _))) cv_L_145 cd_X11_whole rfl (st := [vi _]) rfl (in_r hoc) (by decide) (by decide) rfl (by omega) (by omega) ⟨rfl, hTm⟩ (fun r2 w2 q2 => ?_)
  obtain ⟨wm1, ⟨q2r, q2c⟩, q2w⟩ := q2
  rw [q2r, q2w, q2c]
  exact M.icmp_same rfl rfl (M.wid (by omega) (by omega) (kk _ _ (LI_A hC)))
def tL_1247 : List (Nat × Instr × Nat) := [(1247, .aload_n 1, 1), (1248, .aload_n 0, 1), (1249, .iload_n 3, 1), (1250, .iconst 1, 1), (1251, .iadd, 1), (1252, .iaload, 1), (1253, .invokevirtual 146, 3), (1256, .aload_n 2, 1), (1257, .aload_n 0, 1), (1258, .iload_n 3, 1), (1259, .iconst 1, 1), (1260, .iadd, 1), (1261, .iaload, 1), (1262, .invokevirtual 149, 3), (1265, .if_icmp .eq 669, 3)]
set_option maxRecDepth 100000 in
theorem tL_1247_ok : tL_1247.all (fun q => decide (decode cL_law q.1 = .ok q.2)) = true := by decide +kernel
set_option maxHeartbeats 4000000 in
set_option maxRecDepth 100000 in
theorem law_31 (l : Launch) (G : GT) : LSt l G 1247 := by
  intro nm ds t0 Qp sz sb Ln xs g kb o n wc wm k ns i MX0 hL hi hn h hk hns hkb kk
  obtain ⟨tl, fx, fx2, X, D, L, tl2, D2, L2, t, u, b0, hC⟩ := h
  have hC0 := hC
  obtain ⟨hp, hp2, h12, hE, hKr, hTm, hIm, hTx, hby, hu4, ht3, hu23⟩ := hC0
  obtain ⟨hT, hd, hJ, hi0, h9, hZ, hru, hs, hsd, hLk, hrg⟩ := PS_all hp
  have hkc := hKr.1
  obtain ⟨oc, hoc⟩ := isT_in hTm
  have MX := MX0.tab tL_1247_ok
  have M := MX.S.M
  refine M.run 5 (pc' := 1252) (lv' := [some (vr sb), some (vr kb), some (vr o), some (vi ((i : Nat) : Int))]) (st' := [vi ((i + 1 : Nat) : Int), vr sb, vr kb]) rfl ?_
  refine MX.sld (i + 1) rfl (by omega) hL ?_
  refine M.callVm (Ctr.frL wc wm (kX10_spans l G kb tl fx fx2 X (b0 2) D L tl2 D2 L2 (b0 3) ((t : Nat) : Int) (u 5) (u 6) hT n hd (by omega) hJ hi0 h9 hZ hru ((xs (i + 1)).toInt) (i32b _))) cv_L_146 cd_X10_spans rfl (st := []) rfl (in_l hkc) (by decide) (by decide) rfl (by omega) (by omega) ⟨rfl, hE, hKr⟩ (fun r1 w1 q1 => ?_)
  obtain ⟨wc1, ⟨q1r, q1c⟩, q1w⟩ := q1
  rw [q1r, q1w, q1c]
  refine M.run 5 (pc' := 1261) (lv' := [some (vr sb), some (vr kb), some (vr o), some (vi ((i : Nat) : Int))]) (st' := [vi ((i + 1 : Nat) : Int), vr sb, vr o, vi _]) rfl ?_
  refine MX.sld (i + 1) rfl (by omega) hL ?_
  refine M.callVm (Ctr.frR wm wc (vX11_spans l G o (aI o) u tl b0 D L n hT hd hi0 h9 hLk (by omega) (Or.inl hu23) X ⟨hTx, hru.2⟩ ((xs (i + 1)).toInt) (i32b _))) cv_L_149 cd_X11_spans rfl (st := [vi _]) rfl (in_r hoc) (by decide) (by decide) rfl (by omega) (by omega) ⟨rfl, hTm⟩ (fun r2 w2 q2 => ?_)
  obtain ⟨wm1, ⟨q2r, q2c⟩, q2w⟩ := q2
  rw [q2r, q2w, q2c]
  exact M.icmp_same rfl rfl (M.wid (by omega) (by omega) (kk _ _ (LI_A hC)))
def tL_1270 : List (Nat × Instr × Nat) := [(1270, .aload_n 1, 1), (1271, .aload_n 0, 1), (1272, .iload_n 3, 1), (1273, .iconst 1, 1), (1274, .iadd, 1), (1275, .iaload, 1), (1276, .aload_n 0, 1), (1277, .iload_n 3, 1), (1278, .iconst 2, 1), (1279, .iadd, 1), (1280, .iaload, 1), (1281, .aload_n 0, 1), (1282, .iload_n 3, 1), (1283, .iconst 3, 1), (1284, .iadd, 1), (1285, .iaload, 1), (1286, .ifCond .eq 7, 3), (1289, .iconst 1, 1), (1290, .goto 4, 3), (1293, .iconst 0, 1), (1294, .invokevirtual 150, 3), (1297, .aload_n 2, 1), (1298, .aload_n 0, 1), (1299, .iload_n 3, 1), (1300, .iconst 1, 1), (1301, .iadd, 1), (1302, .iaload, 1), (1303, .aload_n 0, 1), (1304, .iload_n 3, 1), (1305, .iconst 2, 1), (1306, .iadd, 1), (1307, .iaload, 1), (1308, .aload_n 0, 1), (1309, .iload_n 3, 1), (1310, .iconst 3, 1), (1311, .iadd, 1), (1312, .iaload, 1), (1313, .ifCond .eq 7, 3), (1316, .iconst 1, 1), (1317, .goto 4, 3), (1320, .iconst 0, 1), (1321, .invokevirtual 153, 3), (1324, .if_icmp .eq 610, 3)]
set_option maxRecDepth 100000 in
theorem tL_1270_ok : tL_1270.all (fun q => decide (decode cL_law q.1 = .ok q.2)) = true := by decide +kernel
set_option maxHeartbeats 4000000 in
set_option maxRecDepth 100000 in
theorem law_32 (l : Launch) (G : GT) : LSt l G 1270 := by
  intro nm ds t0 Qp sz sb Ln xs g kb o n wc wm k ns i MX0 hL hi hn h hk hns hkb kk
  obtain ⟨tl, fx, fx2, X, D, L, tl2, D2, L2, t, u, b0, hC⟩ := h
  have hC0 := hC
  obtain ⟨hp, hp2, h12, hE, hKr, hTm, hIm, hTx, hby, hu4, ht3, hu23⟩ := hC0
  obtain ⟨hT, hd, hJ, hi0, h9, hZ, hru, hs, hsd, hLk, hrg⟩ := PS_all hp
  have hkc := hKr.1
  obtain ⟨oc, hoc⟩ := isT_in hTm
  have MX := MX0.tab tL_1270_ok
  have M := MX.S.M
  refine M.run 5 (pc' := 1275) (lv' := [some (vr sb), some (vr kb), some (vr o), some (vi ((i : Nat) : Int))]) (st' := [vi ((i + 1 : Nat) : Int), vr sb, vr kb]) rfl ?_
  refine MX.sld (i + 1) rfl (by omega) hL ?_
  refine M.run 4 (pc' := 1280) (lv' := [some (vr sb), some (vr kb), some (vr o), some (vi ((i : Nat) : Int))]) (st' := [vi ((i + 2 : Nat) : Int), vr sb, vi (xs (i + 1)).toInt, vr kb]) rfl ?_
  refine MX.sld (i + 2) rfl (by omega) hL ?_
  refine M.run 4 (pc' := 1285) (lv' := [some (vr sb), some (vr kb), some (vr o), some (vi ((i : Nat) : Int))]) (st' := [vi ((i + 3 : Nat) : Int), vr sb, vi (xs (i + 2)).toInt, vi (xs (i + 1)).toInt, vr kb]) rfl ?_
  refine MX.sld (i + 3) rfl (by omega) hL ?_
  refine M.ibool (tgt := 1293) (pcE := 1294) rfl (qI (i32b _)) rfl rfl rfl ?_
  refine M.callVm (Ctr.frL wc wm (kX10_span l G kb tl fx fx2 X (b0 2) D L tl2 D2 L2 (b0 3) ((t : Nat) : Int) (u 5) (u 6) hT n hd (by omega) hJ hi0 h9 hZ hru ((xs (i + 1)).toInt) ((xs (i + 2)).toInt) ((if (xs (i + 3)).toInt = 0 then 0 else 1)) (i32b _) (i32b _) (bz _))) cv_L_150 cd_X10_span rfl (st := []) rfl (in_l hkc) (by decide) (by decide) rfl (by omega) (by omega) ⟨rfl, hE, hKr⟩ (fun r1 w1 q1 => ?_)
  obtain ⟨wc1, ⟨q1r, q1c⟩, q1w⟩ := q1
  rw [q1r, q1w, q1c]
  refine M.run 5 (pc' := 1302) (lv' := [some (vr sb), some (vr kb), some (vr o), some (vi ((i : Nat) : Int))]) (st' := [vi ((i + 1 : Nat) : Int), vr sb, vr o, vi _]) rfl ?_
  refine MX.sld (i + 1) rfl (by omega) hL ?_
  refine M.run 4 (pc' := 1307) (lv' := [some (vr sb), some (vr kb), some (vr o), some (vi ((i : Nat) : Int))]) (st' := [vi ((i + 2 : Nat) : Int), vr sb, vi (xs (i + 1)).toInt, vr o, vi _]) rfl ?_
  refine MX.sld (i + 2) rfl (by omega) hL ?_
  refine M.run 4 (pc' := 1312) (lv' := [some (vr sb), some (vr kb), some (vr o), some (vi ((i : Nat) : Int))]) (st' := [vi ((i + 3 : Nat) : Int), vr sb, vi (xs (i + 2)).toInt, vi (xs (i + 1)).toInt, vr o, vi _]) rfl ?_
  refine MX.sld (i + 3) rfl (by omega) hL ?_
  refine M.ibool (tgt := 1320) (pcE := 1321) rfl (qI (i32b _)) rfl rfl rfl ?_
  refine M.callVm (Ctr.frR wm wc (vX11_span l G o (aI o) u tl b0 D L n hT hd hi0 h9 hLk (by omega) (Or.inl hu23) X ⟨hTx, hru.2⟩ ((xs (i + 1)).toInt) ((xs (i + 2)).toInt) ((if (xs (i + 3)).toInt = 0 then 0 else 1)) (i32b _) (i32b _) (bz _))) cv_L_153 cd_X11_span rfl (st := [vi _]) rfl (in_r hoc) (by decide) (by decide) rfl (by omega) (by omega) ⟨rfl, hTm⟩ (fun r2 w2 q2 => ?_)
  obtain ⟨wm1, ⟨q2r, q2c⟩, q2w⟩ := q2
  rw [q2r, q2w, q2c]
  exact M.icmp_same rfl rfl (M.wid (by omega) (by omega) (kk _ _ (LI_A hC)))
def tL_1329 : List (Nat × Instr × Nat) := [(1329, .aload_n 1, 1), (1330, .aload_n 0, 1), (1331, .iload_n 3, 1), (1332, .iconst 1, 1), (1333, .iadd, 1), (1334, .iaload, 1), (1335, .aload_n 0, 1), (1336, .iload_n 3, 1), (1337, .iconst 2, 1), (1338, .iadd, 1), (1339, .iaload, 1), (1340, .aload_n 0, 1), (1341, .iload_n 3, 1), (1342, .iconst 3, 1), (1343, .iadd, 1), (1344, .iaload, 1), (1345, .invokevirtual 154, 3), (1348, .aload_n 2, 1), (1349, .aload_n 0, 1), (1350, .iload_n 3, 1), (1351, .iconst 1, 1), (1352, .iadd, 1), (1353, .iaload, 1), (1354, .aload_n 0, 1), (1355, .iload_n 3, 1), (1356, .iconst 2, 1), (1357, .iadd, 1), (1358, .iaload, 1), (1359, .aload_n 0, 1), (1360, .iload_n 3, 1), (1361, .iconst 3, 1), (1362, .iadd, 1), (1363, .iaload, 1), (1364, .invokevirtual 157, 3), (1367, .if_icmp .eq 567, 3)]
set_option maxRecDepth 100000 in
theorem tL_1329_ok : tL_1329.all (fun q => decide (decode cL_law q.1 = .ok q.2)) = true := by decide +kernel
set_option maxHeartbeats 4000000 in
set_option maxRecDepth 100000 in
theorem law_33 (l : Launch) (G : GT) : LSt l G 1329 := by
  intro nm ds t0 Qp sz sb Ln xs g kb o n wc wm k ns i MX0 hL hi hn h hk hns hkb kk
  obtain ⟨tl, fx, fx2, X, D, L, tl2, D2, L2, t, u, b0, hC⟩ := h
  have hC0 := hC
  obtain ⟨hp, hp2, h12, hE, hKr, hTm, hIm, hTx, hby, hu4, ht3, hu23⟩ := hC0
  obtain ⟨hT, hd, hJ, hi0, h9, hZ, hru, hs, hsd, hLk, hrg⟩ := PS_all hp
  have hkc := hKr.1
  obtain ⟨oc, hoc⟩ := isT_in hTm
  have MX := MX0.tab tL_1329_ok
  have M := MX.S.M
  refine M.run 5 (pc' := 1334) (lv' := [some (vr sb), some (vr kb), some (vr o), some (vi ((i : Nat) : Int))]) (st' := [vi ((i + 1 : Nat) : Int), vr sb, vr kb]) rfl ?_
  refine MX.sld (i + 1) rfl (by omega) hL ?_
  refine M.run 4 (pc' := 1339) (lv' := [some (vr sb), some (vr kb), some (vr o), some (vi ((i : Nat) : Int))]) (st' := [vi ((i + 2 : Nat) : Int), vr sb, vi (xs (i + 1)).toInt, vr kb]) rfl ?_
  refine MX.sld (i + 2) rfl (by omega) hL ?_
  refine M.run 4 (pc' := 1344) (lv' := [some (vr sb), some (vr kb), some (vr o), some (vi ((i : Nat) : Int))]) (st' := [vi ((i + 3 : Nat) : Int), vr sb, vi (xs (i + 2)).toInt, vi (xs (i + 1)).toInt, vr kb]) rfl ?_
  refine MX.sld (i + 3) rfl (by omega) hL ?_
  refine M.callVm (Ctr.frL wc wm (kX10_within l G kb tl fx fx2 X (b0 2) D L tl2 D2 L2 (b0 3) ((t : Nat) : Int) (u 5) (u 6) hT n hd (by omega) hJ hi0 h9 hZ hru ((xs (i + 1)).toInt) ((xs (i + 2)).toInt) ((xs (i + 3)).toInt) (i32b _) (i32b _) (i32b _))) cv_L_154 cd_X10_within rfl (st := []) rfl (in_l hkc) (by decide) (by decide) rfl (by omega) (by omega) ⟨rfl, hE, hKr⟩ (fun r1 w1 q1 => ?_)
  obtain ⟨wc1, ⟨q1r, q1c⟩, q1w⟩ := q1
  rw [q1r, q1w, q1c]
  refine M.run 5 (pc' := 1353) (lv' := [some (vr sb), some (vr kb), some (vr o), some (vi ((i : Nat) : Int))]) (st' := [vi ((i + 1 : Nat) : Int), vr sb, vr o, vi _]) rfl ?_
  refine MX.sld (i + 1) rfl (by omega) hL ?_
  refine M.run 4 (pc' := 1358) (lv' := [some (vr sb), some (vr kb), some (vr o), some (vi ((i : Nat) : Int))]) (st' := [vi ((i + 2 : Nat) : Int), vr sb, vi (xs (i + 1)).toInt, vr o, vi _]) rfl ?_
  refine MX.sld (i + 2) rfl (by omega) hL ?_
  refine M.run 4 (pc' := 1363) (lv' := [some (vr sb), some (vr kb), some (vr o), some (vi ((i : Nat) : Int))]) (st' := [vi ((i + 3 : Nat) : Int), vr sb, vi (xs (i + 2)).toInt, vi (xs (i + 1)).toInt, vr o, vi _]) rfl ?_
  refine MX.sld (i + 3) rfl (by omega) hL ?_
  refine M.callVm (Ctr.frR wm wc (vX11_within l G o (aI o) u tl b0 D L n hT hd hi0 h9 hLk (by omega) (Or.inl hu23) X ⟨hTx, hru.2⟩ ((xs (i + 1)).toInt) ((xs (i + 2)).toInt) ((xs (i + 3)).toInt) (i32b _) (i32b _) (i32b _))) cv_L_157 cd_X11_within rfl (st := [vi _]) rfl (in_r hoc) (by decide) (by decide) rfl (by omega) (by omega) ⟨rfl, hTm⟩ (fun r2 w2 q2 => ?_)
  obtain ⟨wm1, ⟨q2r, q2c⟩, q2w⟩ := q2
  rw [q2r, q2w, q2c]
  exact M.icmp_same rfl rfl (M.wid (by omega) (by omega) (kk _ _ (LI_A hC)))
def tL_1372 : List (Nat × Instr × Nat) := [(1372, .aload_n 1, 1), (1373, .aload_n 0, 1), (1374, .iload_n 3, 1), (1375, .iconst 1, 1), (1376, .iadd, 1), (1377, .iaload, 1), (1378, .invokevirtual 158, 3), (1381, .aload_n 2, 1), (1382, .aload_n 0, 1), (1383, .iload_n 3, 1), (1384, .iconst 1, 1), (1385, .iadd, 1), (1386, .iaload, 1), (1387, .invokevirtual 161, 3), (1390, .if_icmp .eq 544, 3)]
set_option maxRecDepth 100000 in
theorem tL_1372_ok : tL_1372.all (fun q => decide (decode cL_law q.1 = .ok q.2)) = true := by decide +kernel
set_option maxHeartbeats 4000000 in
set_option maxRecDepth 100000 in
theorem law_34 (l : Launch) (G : GT) : LSt l G 1372 := by
  intro nm ds t0 Qp sz sb Ln xs g kb o n wc wm k ns i MX0 hL hi hn h hk hns hkb kk
  obtain ⟨tl, fx, fx2, X, D, L, tl2, D2, L2, t, u, b0, hC⟩ := h
  have hC0 := hC
  obtain ⟨hp, hp2, h12, hE, hKr, hTm, hIm, hTx, hby, hu4, ht3, hu23⟩ := hC0
  obtain ⟨hT, hd, hJ, hi0, h9, hZ, hru, hs, hsd, hLk, hrg⟩ := PS_all hp
  have hkc := hKr.1
  obtain ⟨oc, hoc⟩ := isT_in hTm
  have MX := MX0.tab tL_1372_ok
  have M := MX.S.M
  refine M.run 5 (pc' := 1377) (lv' := [some (vr sb), some (vr kb), some (vr o), some (vi ((i : Nat) : Int))]) (st' := [vi ((i + 1 : Nat) : Int), vr sb, vr kb]) rfl ?_
  refine MX.sld (i + 1) rfl (by omega) hL ?_
  refine M.callVm (Ctr.frL wc wm (kX10_pieces l G kb tl fx fx2 X (b0 2) D L tl2 D2 L2 (b0 3) ((t : Nat) : Int) (u 5) (u 6) hT n hd (by omega) hJ hi0 h9 hZ hru ((xs (i + 1)).toInt) (i32b _))) cv_L_158 cd_X10_pieces rfl (st := []) rfl (in_l hkc) (by decide) (by decide) rfl (by omega) (by omega) ⟨rfl, hE, hKr⟩ (fun r1 w1 q1 => ?_)
  obtain ⟨wc1, ⟨q1r, q1c⟩, q1w⟩ := q1
  rw [q1r, q1w, q1c]
  refine M.run 5 (pc' := 1386) (lv' := [some (vr sb), some (vr kb), some (vr o), some (vi ((i : Nat) : Int))]) (st' := [vi ((i + 1 : Nat) : Int), vr sb, vr o, vi _]) rfl ?_
  refine MX.sld (i + 1) rfl (by omega) hL ?_
  refine M.callVm (Ctr.frR wm wc (vX11_pieces l G o (aI o) u tl b0 D L n hT hd hi0 h9 hLk (by omega) (Or.inl hu23) X ⟨hTx, hru.2⟩ ((xs (i + 1)).toInt) (i32b _))) cv_L_161 cd_X11_pieces rfl (st := [vi _]) rfl (in_r hoc) (by decide) (by decide) rfl (by omega) (by omega) ⟨rfl, hTm⟩ (fun r2 w2 q2 => ?_)
  obtain ⟨wm1, ⟨q2r, q2c⟩, q2w⟩ := q2
  rw [q2r, q2w, q2c]
  exact M.icmp_same rfl rfl (M.wid (by omega) (by omega) (kk _ _ (LI_A hC)))
def tL_1395 : List (Nat × Instr × Nat) := [(1395, .aload_n 1, 1), (1396, .aload_n 0, 1), (1397, .iload_n 3, 1), (1398, .iconst 1, 1), (1399, .iadd, 1), (1400, .iaload, 1), (1401, .aload_n 0, 1), (1402, .iload_n 3, 1), (1403, .iconst 2, 1), (1404, .iadd, 1), (1405, .iaload, 1), (1406, .aload_n 0, 1), (1407, .iload_n 3, 1), (1408, .iconst 3, 1), (1409, .iadd, 1), (1410, .iaload, 1), (1411, .ifCond .eq 7, 3), (1414, .iconst 1, 1), (1415, .goto 4, 3), (1418, .iconst 0, 1), (1419, .invokevirtual 162, 3), (1422, .aload_n 2, 1), (1423, .aload_n 0, 1), (1424, .iload_n 3, 1), (1425, .iconst 1, 1), (1426, .iadd, 1), (1427, .iaload, 1), (1428, .aload_n 0, 1), (1429, .iload_n 3, 1), (1430, .iconst 2, 1), (1431, .iadd, 1), (1432, .iaload, 1), (1433, .aload_n 0, 1), (1434, .iload_n 3, 1), (1435, .iconst 3, 1), (1436, .iadd, 1), (1437, .iaload, 1), (1438, .ifCond .eq 7, 3), (1441, .iconst 1, 1), (1442, .goto 4, 3), (1445, .iconst 0, 1), (1446, .invokevirtual 165, 3), (1449, .if_icmp .eq 485, 3)]
set_option maxRecDepth 100000 in
theorem tL_1395_ok : tL_1395.all (fun q => decide (decode cL_law q.1 = .ok q.2)) = true := by decide +kernel
set_option maxHeartbeats 4000000 in
set_option maxRecDepth 100000 in
theorem law_35 (l : Launch) (G : GT) : LSt l G 1395 := by
  intro nm ds t0 Qp sz sb Ln xs g kb o n wc wm k ns i MX0 hL hi hn h hk hns hkb kk
  obtain ⟨tl, fx, fx2, X, D, L, tl2, D2, L2, t, u, b0, hC⟩ := h
  have hC0 := hC
  obtain ⟨hp, hp2, h12, hE, hKr, hTm, hIm, hTx, hby, hu4, ht3, hu23⟩ := hC0
  obtain ⟨hT, hd, hJ, hi0, h9, hZ, hru, hs, hsd, hLk, hrg⟩ := PS_all hp
  have hkc := hKr.1
  obtain ⟨oc, hoc⟩ := isT_in hTm
  have MX := MX0.tab tL_1395_ok
  have M := MX.S.M
  refine M.run 5 (pc' := 1400) (lv' := [some (vr sb), some (vr kb), some (vr o), some (vi ((i : Nat) : Int))]) (st' := [vi ((i + 1 : Nat) : Int), vr sb, vr kb]) rfl ?_
  refine MX.sld (i + 1) rfl (by omega) hL ?_
  refine M.run 4 (pc' := 1405) (lv' := [some (vr sb), some (vr kb), some (vr o), some (vi ((i : Nat) : Int))]) (st' := [vi ((i + 2 : Nat) : Int), vr sb, vi (xs (i + 1)).toInt, vr kb]) rfl ?_
  refine MX.sld (i + 2) rfl (by omega) hL ?_
  refine M.run 4 (pc' := 1410) (lv' := [some (vr sb), some (vr kb), some (vr o), some (vi ((i : Nat) : Int))]) (st' := [vi ((i + 3 : Nat) : Int), vr sb, vi (xs (i + 2)).toInt, vi (xs (i + 1)).toInt, vr kb]) rfl ?_
  refine MX.sld (i + 3) rfl (by omega) hL ?_
  refine M.ibool (tgt := 1418) (pcE := 1419) rfl (qI (i32b _)) rfl rfl rfl ?_
  refine M.callVm (Ctr.frL wc wm (kX10_piece l G kb tl fx fx2 X (b0 2) D L tl2 D2 L2 (b0 3) ((t : Nat) : Int) (u 5) (u 6) hT n hd (by omega) hJ hi0 h9 hZ hru ((xs (i + 1)).toInt) ((xs (i + 2)).toInt) ((if (xs (i + 3)).toInt = 0 then 0 else 1)) (i32b _) (i32b _) (bz _))) cv_L_162 cd_X10_piece rfl (st := []) rfl (in_l hkc) (by decide) (by decide) rfl (by omega) (by omega) ⟨rfl, hE, hKr⟩ (fun r1 w1 q1 => ?_)
  obtain ⟨wc1, ⟨q1r, q1c⟩, q1w⟩ := q1
  rw [q1r, q1w, q1c]
  refine M.run 5 (pc' := 1427) (lv' := [some (vr sb), some (vr kb), some (vr o), some (vi ((i : Nat) : Int))]) (st' := [vi ((i + 1 : Nat) : Int), vr sb, vr o, vi _]) rfl ?_
  refine MX.sld (i + 1) rfl (by omega) hL ?_
  refine M.run 4 (pc' := 1432) (lv' := [some (vr sb), some (vr kb), some (vr o), some (vi ((i : Nat) : Int))]) (st' := [vi ((i + 2 : Nat) : Int), vr sb, vi (xs (i + 1)).toInt, vr o, vi _]) rfl ?_
  refine MX.sld (i + 2) rfl (by omega) hL ?_
  refine M.run 4 (pc' := 1437) (lv' := [some (vr sb), some (vr kb), some (vr o), some (vi ((i : Nat) : Int))]) (st' := [vi ((i + 3 : Nat) : Int), vr sb, vi (xs (i + 2)).toInt, vi (xs (i + 1)).toInt, vr o, vi _]) rfl ?_
  refine MX.sld (i + 3) rfl (by omega) hL ?_
  refine M.ibool (tgt := 1445) (pcE := 1446) rfl (qI (i32b _)) rfl rfl rfl ?_
  refine M.callVm (Ctr.frR wm wc (vX11_piece l G o (aI o) u tl b0 D L n hT hd hi0 h9 hLk (by omega) (Or.inl hu23) X ⟨hTx, hru.2⟩ ((xs (i + 1)).toInt) ((xs (i + 2)).toInt) ((if (xs (i + 3)).toInt = 0 then 0 else 1)) (i32b _) (i32b _) (bz _))) cv_L_165 cd_X11_piece rfl (st := [vi _]) rfl (in_r hoc) (by decide) (by decide) rfl (by omega) (by omega) ⟨rfl, hTm⟩ (fun r2 w2 q2 => ?_)
  obtain ⟨wm1, ⟨q2r, q2c⟩, q2w⟩ := q2
  rw [q2r, q2w, q2c]
  exact M.icmp_same rfl rfl (M.wid (by omega) (by omega) (kk _ _ (LI_A hC)))
def tL_1454 : List (Nat × Instr × Nat) := [(1454, .aload_n 1, 1), (1455, .aload_n 0, 1), (1456, .iload_n 3, 1), (1457, .iconst 1, 1), (1458, .iadd, 1), (1459, .iaload, 1), (1460, .aload_n 0, 1), (1461, .iload_n 3, 1), (1462, .iconst 2, 1), (1463, .iadd, 1), (1464, .iaload, 1), (1465, .invokevirtual 166, 3), (1468, .aload_n 2, 1), (1469, .aload_n 0, 1), (1470, .iload_n 3, 1), (1471, .iconst 1, 1), (1472, .iadd, 1), (1473, .iaload, 1), (1474, .aload_n 0, 1), (1475, .iload_n 3, 1), (1476, .iconst 2, 1), (1477, .iadd, 1), (1478, .iaload, 1), (1479, .invokevirtual 169, 3), (1482, .if_icmp .eq 452, 3)]
set_option maxRecDepth 100000 in
theorem tL_1454_ok : tL_1454.all (fun q => decide (decode cL_law q.1 = .ok q.2)) = true := by decide +kernel
set_option maxHeartbeats 4000000 in
set_option maxRecDepth 100000 in
theorem law_36 (l : Launch) (G : GT) : LSt l G 1454 := by
  intro nm ds t0 Qp sz sb Ln xs g kb o n wc wm k ns i MX0 hL hi hn h hk hns hkb kk
  obtain ⟨tl, fx, fx2, X, D, L, tl2, D2, L2, t, u, b0, hC⟩ := h
  have hC0 := hC
  obtain ⟨hp, hp2, h12, hE, hKr, hTm, hIm, hTx, hby, hu4, ht3, hu23⟩ := hC0
  obtain ⟨hT, hd, hJ, hi0, h9, hZ, hru, hs, hsd, hLk, hrg⟩ := PS_all hp
  have hkc := hKr.1
  obtain ⟨oc, hoc⟩ := isT_in hTm
  have MX := MX0.tab tL_1454_ok
  have M := MX.S.M
  refine M.run 5 (pc' := 1459) (lv' := [some (vr sb), some (vr kb), some (vr o), some (vi ((i : Nat) : Int))]) (st' := [vi ((i + 1 : Nat) : Int), vr sb, vr kb]) rfl ?_
  refine MX.sld (i + 1) rfl (by omega) hL ?_
  refine M.run 4 (pc' := 1464) (lv' := [some (vr sb), some (vr kb), some (vr o), some (vi ((i : Nat) : Int))]) (st' := [vi ((i + 2 : Nat) : Int), vr sb, vi (xs (i + 1)).toInt, vr kb]) rfl ?_
  refine MX.sld (i + 2) rfl (by omega) hL ?_
  refine M.callVm (Ctr.frL wc wm (kX10_join l G kb tl fx fx2 X (b0 2) D L tl2 D2 L2 (b0 3) ((t : Nat) : Int) (u 5) (u 6) hT n hd (by omega) hJ hi0 h9 hZ hru ((xs (i + 1)).toInt) ((xs (i + 2)).toInt) (i32b _) (i32b _))) cv_L_166 cd_X10_join rfl (st := []) rfl (in_l hkc) (by decide) (by decide) rfl (by omega) (by omega) ⟨rfl, hE, hKr⟩ (fun r1 w1 q1 => ?_)
  obtain ⟨wc1, ⟨q1r, q1c⟩, q1w⟩ := q1
  rw [q1r, q1w, q1c]
  refine M.run 5 (pc' := 1473) (lv' := [some (vr sb), some (vr kb), some (vr o), some (vi ((i : Nat) : Int))]) (st' := [vi ((i + 1 : Nat) : Int), vr sb, vr o, vi _]) rfl ?_
  refine MX.sld (i + 1) rfl (by omega) hL ?_
  refine M.run 4 (pc' := 1478) (lv' := [some (vr sb), some (vr kb), some (vr o), some (vi ((i : Nat) : Int))]) (st' := [vi ((i + 2 : Nat) : Int), vr sb, vi (xs (i + 1)).toInt, vr o, vi _]) rfl ?_
  refine MX.sld (i + 2) rfl (by omega) hL ?_
  refine M.callVm (Ctr.frR wm wc (vX11_join l G o (aI o) u tl b0 D L n hT hd hi0 h9 hLk (by omega) (Or.inl hu23) X ⟨hTx, hru.2⟩ ((xs (i + 1)).toInt) ((xs (i + 2)).toInt) (i32b _) (i32b _))) cv_L_169 cd_X11_join rfl (st := [vi _]) rfl (in_r hoc) (by decide) (by decide) rfl (by omega) (by omega) ⟨rfl, hTm⟩ (fun r2 w2 q2 => ?_)
  obtain ⟨wm1, ⟨q2r, q2c⟩, q2w⟩ := q2
  rw [q2r, q2w, q2c]
  exact M.icmp_same rfl rfl (M.wid (by omega) (by omega) (kk _ _ (LI_A hC)))
def tL_1487 : List (Nat × Instr × Nat) := [(1487, .aload_n 1, 1), (1488, .aload_n 0, 1), (1489, .iload_n 3, 1), (1490, .iconst 1, 1), (1491, .iadd, 1), (1492, .iaload, 1), (1493, .aload_n 0, 1), (1494, .iload_n 3, 1), (1495, .iconst 2, 1), (1496, .iadd, 1), (1497, .iaload, 1), (1498, .invokevirtual 170, 3), (1501, .aload_n 2, 1), (1502, .aload_n 0, 1), (1503, .iload_n 3, 1), (1504, .iconst 1, 1), (1505, .iadd, 1), (1506, .iaload, 1), (1507, .aload_n 0, 1), (1508, .iload_n 3, 1), (1509, .iconst 2, 1), (1510, .iadd, 1), (1511, .iaload, 1), (1512, .invokevirtual 173, 3), (1515, .if_icmp .eq 419, 3)]
set_option maxRecDepth 100000 in
theorem tL_1487_ok : tL_1487.all (fun q => decide (decode cL_law q.1 = .ok q.2)) = true := by decide +kernel
set_option maxHeartbeats 4000000 in
set_option maxRecDepth 100000 in
theorem law_37 (l : Launch) (G : GT) : LSt l G 1487 := by
  intro nm ds t0 Qp sz sb Ln xs g kb o n wc wm k ns i MX0 hL hi hn h hk hns hkb kk
  obtain ⟨tl, fx, fx2, X, D, L, tl2, D2, L2, t, u, b0, hC⟩ := h
  have hC0 := hC
  obtain ⟨hp, hp2, h12, hE, hKr, hTm, hIm, hTx, hby, hu4, ht3, hu23⟩ := hC0
  obtain ⟨hT, hd, hJ, hi0, h9, hZ, hru, hs, hsd, hLk, hrg⟩ := PS_all hp
  have hkc := hKr.1
  obtain ⟨oc, hoc⟩ := isT_in hTm
  have MX := MX0.tab tL_1487_ok
  have M := MX.S.M
  refine M.run 5 (pc' := 1492) (lv' := [some (vr sb), some (vr kb), some (vr o), some (vi ((i : Nat) : Int))]) (st' := [vi ((i + 1 : Nat) : Int), vr sb, vr kb]) rfl ?_
  refine MX.sld (i + 1) rfl (by omega) hL ?_
  refine M.run 4 (pc' := 1497) (lv' := [some (vr sb), some (vr kb), some (vr o), some (vi ((i : Nat) : Int))]) (st' := [vi ((i + 2 : Nat) : Int), vr sb, vi (xs (i + 1)).toInt, vr kb]) rfl ?_
  refine MX.sld (i + 2) rfl (by omega) hL ?_
  refine M.callVm (Ctr.frL wc wm (kX10_less l G kb tl fx fx2 X (b0 2) D L tl2 D2 L2 (b0 3) ((t : Nat) : Int) (u 5) (u 6) hT n hd (by omega) hJ hi0 h9 hZ hru ((xs (i + 1)).toInt) ((xs (i + 2)).toInt) (i32b _) (i32b _))) cv_L_170 cd_X10_less rfl (st := []) rfl (in_l hkc) (by decide) (by decide) rfl (by omega) (by omega) ⟨rfl, hE, hKr⟩ (fun r1 w1 q1 => ?_)
  obtain ⟨wc1, ⟨q1r, q1c⟩, q1w⟩ := q1
  rw [q1r, q1w, q1c]
  refine M.run 5 (pc' := 1506) (lv' := [some (vr sb), some (vr kb), some (vr o), some (vi ((i : Nat) : Int))]) (st' := [vi ((i + 1 : Nat) : Int), vr sb, vr o, vi _]) rfl ?_
  refine MX.sld (i + 1) rfl (by omega) hL ?_
  refine M.run 4 (pc' := 1511) (lv' := [some (vr sb), some (vr kb), some (vr o), some (vi ((i : Nat) : Int))]) (st' := [vi ((i + 2 : Nat) : Int), vr sb, vi (xs (i + 1)).toInt, vr o, vi _]) rfl ?_
  refine MX.sld (i + 2) rfl (by omega) hL ?_
  refine M.callVm (Ctr.frR wm wc (vX11_less l G o (aI o) u tl b0 D L n hT hd hi0 h9 hLk (by omega) (Or.inl hu23) X ⟨hTx, hru.2⟩ ((xs (i + 1)).toInt) ((xs (i + 2)).toInt) (i32b _) (i32b _))) cv_L_173 cd_X11_less rfl (st := [vi _]) rfl (in_r hoc) (by decide) (by decide) rfl (by omega) (by omega) ⟨rfl, hTm⟩ (fun r2 w2 q2 => ?_)
  obtain ⟨wm1, ⟨q2r, q2c⟩, q2w⟩ := q2
  rw [q2r, q2w, q2c]
  exact M.icmp_same rfl rfl (M.wid (by omega) (by omega) (kk _ _ (LI_A hC)))
def tL_1520 : List (Nat × Instr × Nat) := [(1520, .aload_n 1, 1), (1521, .aload_n 0, 1), (1522, .iload_n 3, 1), (1523, .iconst 1, 1), (1524, .iadd, 1), (1525, .iaload, 1), (1526, .invokevirtual 174, 3), (1529, .aload_n 2, 1), (1530, .aload_n 0, 1), (1531, .iload_n 3, 1), (1532, .iconst 1, 1), (1533, .iadd, 1), (1534, .iaload, 1), (1535, .invokevirtual 177, 3), (1538, .if_icmp .eq 396, 3)]
set_option maxRecDepth 100000 in
theorem tL_1520_ok : tL_1520.all (fun q => decide (decode cL_law q.1 = .ok q.2)) = true := by decide +kernel
set_option maxHeartbeats 4000000 in
set_option maxRecDepth 100000 in
theorem law_38 (l : Launch) (G : GT) : LSt l G 1520 := by
  intro nm ds t0 Qp sz sb Ln xs g kb o n wc wm k ns i MX0 hL hi hn h hk hns hkb kk
  obtain ⟨tl, fx, fx2, X, D, L, tl2, D2, L2, t, u, b0, hC⟩ := h
  have hC0 := hC
  obtain ⟨hp, hp2, h12, hE, hKr, hTm, hIm, hTx, hby, hu4, ht3, hu23⟩ := hC0
  obtain ⟨hT, hd, hJ, hi0, h9, hZ, hru, hs, hsd, hLk, hrg⟩ := PS_all hp
  have hkc := hKr.1
  obtain ⟨oc, hoc⟩ := isT_in hTm
  have MX := MX0.tab tL_1520_ok
  have M := MX.S.M
  refine M.run 5 (pc' := 1525) (lv' := [some (vr sb), some (vr kb), some (vr o), some (vi ((i : Nat) : Int))]) (st' := [vi ((i + 1 : Nat) : Int), vr sb, vr kb]) rfl ?_
  refine MX.sld (i + 1) rfl (by omega) hL ?_
  refine M.callVm (Ctr.frL wc wm (kX10_longest l G kb tl fx fx2 X (b0 2) D L tl2 D2 L2 (b0 3) ((t : Nat) : Int) (u 5) (u 6) hT n hd (by omega) hJ hi0 h9 hZ hru ((xs (i + 1)).toInt) (i32b _))) cv_L_174 cd_X10_longest rfl (st := []) rfl (in_l hkc) (by decide) (by decide) rfl (by omega) (by omega) ⟨rfl, hE, hKr⟩ (fun r1 w1 q1 => ?_)
  obtain ⟨wc1, ⟨q1r, q1c⟩, q1w⟩ := q1
  rw [q1r, q1w, q1c]
  refine M.run 5 (pc' := 1534) (lv' := [some (vr sb), some (vr kb), some (vr o), some (vi ((i : Nat) : Int))]) (st' := [vi ((i + 1 : Nat) : Int), vr sb, vr o, vi _]) rfl ?_
  refine MX.sld (i + 1) rfl (by omega) hL ?_
  refine M.callVm (Ctr.frR wm wc (vX11_longest l G o (aI o) u tl b0 D L n hT hd hi0 h9 hLk (by omega) (Or.inl hu23) X ⟨hTx, hru.2⟩ ((xs (i + 1)).toInt) (i32b _))) cv_L_177 cd_X11_longest rfl (st := [vi _]) rfl (in_r hoc) (by decide) (by decide) rfl (by omega) (by omega) ⟨rfl, hTm⟩ (fun r2 w2 q2 => ?_)
  obtain ⟨wm1, ⟨q2r, q2c⟩, q2w⟩ := q2
  rw [q2r, q2w, q2c]
  exact M.icmp_same rfl rfl (M.wid (by omega) (by omega) (kk _ _ (LI_A hC)))
def tL_1543 : List (Nat × Instr × Nat) := [(1543, .aload_n 1, 1), (1544, .aload_n 0, 1), (1545, .iload_n 3, 1), (1546, .iconst 1, 1), (1547, .iadd, 1), (1548, .iaload, 1), (1549, .invokevirtual 178, 3), (1552, .aload_n 2, 1), (1553, .aload_n 0, 1), (1554, .iload_n 3, 1), (1555, .iconst 1, 1), (1556, .iadd, 1), (1557, .iaload, 1), (1558, .invokevirtual 181, 3), (1561, .if_icmp .eq 373, 3)]
set_option maxRecDepth 100000 in
theorem tL_1543_ok : tL_1543.all (fun q => decide (decode cL_law q.1 = .ok q.2)) = true := by decide +kernel
set_option maxHeartbeats 4000000 in
set_option maxRecDepth 100000 in
theorem law_39 (l : Launch) (G : GT) : LSt l G 1543 := by
  intro nm ds t0 Qp sz sb Ln xs g kb o n wc wm k ns i MX0 hL hi hn h hk hns hkb kk
  obtain ⟨tl, fx, fx2, X, D, L, tl2, D2, L2, t, u, b0, hC⟩ := h
  have hC0 := hC
  obtain ⟨hp, hp2, h12, hE, hKr, hTm, hIm, hTx, hby, hu4, ht3, hu23⟩ := hC0
  obtain ⟨hT, hd, hJ, hi0, h9, hZ, hru, hs, hsd, hLk, hrg⟩ := PS_all hp
  have hkc := hKr.1
  obtain ⟨oc, hoc⟩ := isT_in hTm
  have MX := MX0.tab tL_1543_ok
  have M := MX.S.M
  refine M.run 5 (pc' := 1548) (lv' := [some (vr sb), some (vr kb), some (vr o), some (vi ((i : Nat) : Int))]) (st' := [vi ((i + 1 : Nat) : Int), vr sb, vr kb]) rfl ?_
  refine MX.sld (i + 1) rfl (by omega) hL ?_
  refine M.callVm (Ctr.frL wc wm (kX10_next l G kb tl fx fx2 X (b0 2) D L tl2 D2 L2 (b0 3) ((t : Nat) : Int) (u 5) (u 6) hT n hd (by omega) hJ hi0 h9 hZ hru ((xs (i + 1)).toInt) (i32b _))) cv_L_178 cd_X10_next rfl (st := []) rfl (in_l hkc) (by decide) (by decide) rfl (by omega) (by omega) ⟨rfl, hE, hKr⟩ (fun r1 w1 q1 => ?_)
  obtain ⟨wc1, ⟨q1r, q1c⟩, q1w⟩ := q1
  rw [q1r, q1w, q1c]
  refine M.run 5 (pc' := 1557) (lv' := [some (vr sb), some (vr kb), some (vr o), some (vi ((i : Nat) : Int))]) (st' := [vi ((i + 1 : Nat) : Int), vr sb, vr o, vi _]) rfl ?_
  refine MX.sld (i + 1) rfl (by omega) hL ?_
  refine M.callVm (Ctr.frR wm wc (vX11_next l G o (aI o) u tl b0 D L n hT hd hi0 h9 hLk (by omega) (Or.inl hu23) X ⟨hTx, hru.2⟩ ((xs (i + 1)).toInt) (i32b _))) cv_L_181 cd_X11_next rfl (st := [vi _]) rfl (in_r hoc) (by decide) (by decide) rfl (by omega) (by omega) ⟨rfl, hTm⟩ (fun r2 w2 q2 => ?_)
  obtain ⟨wm1, ⟨q2r, q2c⟩, q2w⟩ := q2
  rw [q2r, q2w, q2c]
  exact M.icmp_same rfl rfl (M.wid (by omega) (by omega) (kk _ _ (LI_A hC)))
