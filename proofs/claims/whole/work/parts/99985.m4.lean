/-! the law: cases 40, 41, 42, 43, 44, 45, 46, 47, 48, 49 -/
def tL_1566 : List (Nat × Instr × Nat) := [(1566, .aload_n 1, 1), (1567, .invokevirtual 182, 3), (1570, .aload_n 2, 1), (1571, .invokevirtual 185, 3), (1574, .if_icmp .eq 360, 3)]
set_option maxRecDepth 100000 in
theorem tL_1566_ok : tL_1566.all (fun q => decide (decode cL_law q.1 = .ok q.2)) = true := by decide +kernel
set_option maxHeartbeats 4000000 in
set_option maxRecDepth 100000 in
theorem law_40 (l : Launch) (G : GT) : LSt l G 1566 := by
  intro nm ds t0 Qp sz sb Ln xs g kb o n wc wm k ns i MX0 hL hi hn h hk hns hkb kk
  obtain ⟨tl, fx, fx2, X, D, L, tl2, D2, L2, t, u, b0, hC⟩ := h
  have hC0 := hC
  obtain ⟨hp, hp2, h12, hE, hKr, hTm, hIm, hTx, hby, hu4, ht3, hu23⟩ := hC0
  obtain ⟨hT, hd, hJ, hi0, h9, hZ, hru, hs, hsd, hLk, hrg⟩ := PS_all hp
  have hkc := hKr.1
  obtain ⟨oc, hoc⟩ := isT_in hTm
  have MX := MX0.tab tL_1566_ok
  have M := MX.S.M
  refine M.run 1 (pc' := 1567) (lv' := [some (vr sb), some (vr kb), some (vr o), some (vi ((i : Nat) : Int))]) (st' := [vr kb]) rfl ?_
  refine M.callVm (Ctr.frL wc wm (kX10_round l G kb tl fx fx2 X (b0 2) D L tl2 D2 L2 (b0 3) ((t : Nat) : Int) (u 5) (u 6) hT n hd (by omega) hJ hi0 h9 hZ hru)) cv_L_182 cd_X10_round rfl (st := []) rfl (in_l hkc) (by decide) (by decide) rfl (by omega) (by omega) ⟨rfl, hE, hKr⟩ (fun r1 w1 q1 => ?_)
  obtain ⟨wc1, ⟨q1r, q1c⟩, q1w⟩ := q1
  rw [q1r, q1w, q1c]
  refine M.run 1 (pc' := 1571) (lv' := [some (vr sb), some (vr kb), some (vr o), some (vi ((i : Nat) : Int))]) (st' := [vr o, vi _]) rfl ?_
  refine M.callVm (Ctr.frR wm wc (vX11_round l G o (aI o) u tl b0 D L n hT hd hi0 h9 hLk (by omega) (Or.inl hu23) X ⟨hTx, hru.2⟩)) cv_L_185 cd_X11_round rfl (st := [vi _]) rfl (in_r hoc) (by decide) (by decide) rfl (by omega) (by omega) ⟨rfl, hTm⟩ (fun r2 w2 q2 => ?_)
  obtain ⟨wm1, ⟨q2r, q2c⟩, q2w⟩ := q2
  rw [q2r, q2w, q2c]
  exact M.icmp_same rfl rfl (M.wid (by omega) (by omega) (kk _ _ (LI_A hC)))
def tL_1579 : List (Nat × Instr × Nat) := [(1579, .aload_n 1, 1), (1580, .aload_n 0, 1), (1581, .iload_n 3, 1), (1582, .iconst 1, 1), (1583, .iadd, 1), (1584, .iaload, 1), (1585, .invokevirtual 186, 3), (1588, .aload_n 2, 1), (1589, .aload_n 0, 1), (1590, .iload_n 3, 1), (1591, .iconst 1, 1), (1592, .iadd, 1), (1593, .iaload, 1), (1594, .invokevirtual 189, 3), (1597, .if_icmp .eq 337, 3)]
set_option maxRecDepth 100000 in
theorem tL_1579_ok : tL_1579.all (fun q => decide (decode cL_law q.1 = .ok q.2)) = true := by decide +kernel
set_option maxHeartbeats 4000000 in
set_option maxRecDepth 100000 in
theorem law_41 (l : Launch) (G : GT) : LSt l G 1579 := by
  intro nm ds t0 Qp sz sb Ln xs g kb o n wc wm k ns i MX0 hL hi hn h hk hns hkb kk
  obtain ⟨tl, fx, fx2, X, D, L, tl2, D2, L2, t, u, b0, hC⟩ := h
  have hC0 := hC
  obtain ⟨hp, hp2, h12, hE, hKr, hTm, hIm, hTx, hby, hu4, ht3, hu23⟩ := hC0
  obtain ⟨hT, hd, hJ, hi0, h9, hZ, hru, hs, hsd, hLk, hrg⟩ := PS_all hp
  have hkc := hKr.1
  obtain ⟨oc, hoc⟩ := isT_in hTm
  have MX := MX0.tab tL_1579_ok
  have M := MX.S.M
  refine M.run 5 (pc' := 1584) (lv' := [some (vr sb), some (vr kb), some (vr o), some (vi ((i : Nat) : Int))]) (st' := [vi ((i + 1 : Nat) : Int), vr sb, vr kb]) rfl ?_
  refine MX.sld (i + 1) rfl (by omega) hL ?_
  refine M.callVm (Ctr.frL wc wm (kX10_rings l G kb tl fx fx2 X (b0 2) D L tl2 D2 L2 (b0 3) ((t : Nat) : Int) (u 5) (u 6) hT n hd (by omega) hJ hi0 h9 hZ hru ((xs (i + 1)).toInt) (i32b _) hrg)) cv_L_186 cd_X10_rings rfl (st := []) rfl (in_l hkc) (by decide) (by decide) rfl (by omega) (by omega) ⟨rfl, hE, hKr⟩ (fun r1 w1 q1 => ?_)
  obtain ⟨wc1, ⟨q1r, q1c⟩, q1w⟩ := q1
  rw [q1r, q1w, q1c]
  refine M.run 5 (pc' := 1593) (lv' := [some (vr sb), some (vr kb), some (vr o), some (vi ((i : Nat) : Int))]) (st' := [vi ((i + 1 : Nat) : Int), vr sb, vr o, vi _]) rfl ?_
  refine MX.sld (i + 1) rfl (by omega) hL ?_
  refine M.callVm (Ctr.frR wm wc (vX11_rings l G o (aI o) u tl b0 D L n hT hd hi0 h9 hLk (by omega) (Or.inl hu23) X ⟨hTx, hru.2⟩ ((xs (i + 1)).toInt) (i32b _) (fun i hi => by have := hrg _ (gR_mem hi); omega))) cv_L_189 cd_X11_rings rfl (st := [vi _]) rfl (in_r hoc) (by decide) (by decide) rfl (by omega) (by omega) ⟨rfl, hTm⟩ (fun r2 w2 q2 => ?_)
  obtain ⟨wm1, ⟨q2r, q2c⟩, q2w⟩ := q2
  rw [q2r, q2w, q2c]
  exact M.icmp_same rfl rfl (M.wid (by omega) (by omega) (kk _ _ (LI_A hC)))
def tL_1602 : List (Nat × Instr × Nat) := [(1602, .aload_n 1, 1), (1603, .aload_n 0, 1), (1604, .iload_n 3, 1), (1605, .iconst 1, 1), (1606, .iadd, 1), (1607, .iaload, 1), (1608, .aload_n 0, 1), (1609, .iload_n 3, 1), (1610, .iconst 2, 1), (1611, .iadd, 1), (1612, .iaload, 1), (1613, .ifCond .eq 7, 3), (1616, .iconst 1, 1), (1617, .goto 4, 3), (1620, .iconst 0, 1), (1621, .invokevirtual 190, 3), (1624, .aload_n 2, 1), (1625, .aload_n 0, 1), (1626, .iload_n 3, 1), (1627, .iconst 1, 1), (1628, .iadd, 1), (1629, .iaload, 1), (1630, .aload_n 0, 1), (1631, .iload_n 3, 1), (1632, .iconst 2, 1), (1633, .iadd, 1), (1634, .iaload, 1), (1635, .ifCond .eq 7, 3), (1638, .iconst 1, 1), (1639, .goto 4, 3), (1642, .iconst 0, 1), (1643, .invokevirtual 194, 3), (1646, .lcmp, 1), (1647, .ifCond .eq 287, 3)]
set_option maxRecDepth 100000 in
theorem tL_1602_ok : tL_1602.all (fun q => decide (decode cL_law q.1 = .ok q.2)) = true := by decide +kernel
set_option maxHeartbeats 4000000 in
set_option maxRecDepth 100000 in
theorem law_42 (l : Launch) (G : GT) : LSt l G 1602 := by
  intro nm ds t0 Qp sz sb Ln xs g kb o n wc wm k ns i MX0 hL hi hn h hk hns hkb kk
  obtain ⟨tl, fx, fx2, X, D, L, tl2, D2, L2, t, u, b0, hC⟩ := h
  have hC0 := hC
  obtain ⟨hp, hp2, h12, hE, hKr, hTm, hIm, hTx, hby, hu4, ht3, hu23⟩ := hC0
  obtain ⟨hT, hd, hJ, hi0, h9, hZ, hru, hs, hsd, hLk, hrg⟩ := PS_all hp
  have hkc := hKr.1
  obtain ⟨oc, hoc⟩ := isT_in hTm
  have MX := MX0.tab tL_1602_ok
  have M := MX.S.M
  refine M.run 5 (pc' := 1607) (lv' := [some (vr sb), some (vr kb), some (vr o), some (vi ((i : Nat) : Int))]) (st' := [vi ((i + 1 : Nat) : Int), vr sb, vr kb]) rfl ?_
  refine MX.sld (i + 1) rfl (by omega) hL ?_
  refine M.run 4 (pc' := 1612) (lv' := [some (vr sb), some (vr kb), some (vr o), some (vi ((i : Nat) : Int))]) (st' := [vi ((i + 2 : Nat) : Int), vr sb, vi (xs (i + 1)).toInt, vr kb]) rfl ?_
  refine MX.sld (i + 2) rfl (by omega) hL ?_
  refine M.ibool (tgt := 1620) (pcE := 1621) rfl (qI (i32b _)) rfl rfl rfl ?_
  refine M.callVm (Ctr.frL wc wm (kX10_odds l G kb tl fx fx2 X (b0 2) D L tl2 D2 L2 (b0 3) ((t : Nat) : Int) (u 5) (u 6) hT n hs (by omega) hZ hru ((xs (i + 1)).toInt) ((if (xs (i + 2)).toInt = 0 then 0 else 1)) (i32b _) (bz _))) cv_L_190 cd_X10_odds rfl (st := []) rfl (in_l hkc) (by decide) (by decide) rfl (by omega) (by omega) ⟨rfl, hE, hKr⟩ (fun r1 w1 q1 => ?_)
  obtain ⟨wc1, ⟨q1r, qE, qK⟩, q1w⟩ := q1
  rw [q1r, q1w]
  refine M.run 5 (pc' := 1629) (lv' := [some (vr sb), some (vr kb), some (vr o), some (vi ((i : Nat) : Int))]) (st' := [vi ((i + 1 : Nat) : Int), vr sb, vr o, vl _]) rfl ?_
  refine MX.sld (i + 1) rfl (by omega) hL ?_
  refine M.run 4 (pc' := 1634) (lv' := [some (vr sb), some (vr kb), some (vr o), some (vi ((i : Nat) : Int))]) (st' := [vi ((i + 2 : Nat) : Int), vr sb, vi (xs (i + 1)).toInt, vr o, vl _]) rfl ?_
  refine MX.sld (i + 2) rfl (by omega) hL ?_
  refine M.ibool (tgt := 1642) (pcE := 1643) rfl (qI (i32b _)) rfl rfl rfl ?_
  refine M.callVm (Ctr.frR wm wc1 (vX11_odds l G o (aI o) u tl b0 D L n hT hd hi0 h9 hLk (by omega) (Or.inl hu23) X ⟨hTx, hru.2⟩ ((xs (i + 1)).toInt) ((if (xs (i + 2)).toInt = 0 then 0 else 1)) (i32b _) (bz _))) cv_L_194 cd_X11_odds rfl (st := [vl _]) rfl (in_r hoc) (by decide) (by decide) rfl (by omega) (by omega) ⟨rfl, hTm⟩ (fun r2 w2 q2 => ?_)
  obtain ⟨wm1, ⟨q2r, qM⟩, q2w⟩ := q2
  rw [q2r, q2w]
  refine M.lcmp_same rfl ?_
  exact M.if_eq (tgt := 1934) rfl (qI (by omega)) rfl (fun _ => M.wid (by omega) (by omega) (kk _ _ (LI_B hC qE qK qM (fun _ _ => rfl)))) (fun h0 => absurd rfl h0)
def tL_1652 : List (Nat × Instr × Nat) := [(1652, .aload_n 1, 1), (1653, .aload_n 0, 1), (1654, .iload_n 3, 1), (1655, .iconst 1, 1), (1656, .iadd, 1), (1657, .iaload, 1), (1658, .invokevirtual 195, 3), (1661, .aload_n 2, 1), (1662, .aload_n 0, 1), (1663, .iload_n 3, 1), (1664, .iconst 1, 1), (1665, .iadd, 1), (1666, .iaload, 1), (1667, .invokevirtual 198, 3), (1670, .if_icmp .eq 264, 3)]
set_option maxRecDepth 100000 in
theorem tL_1652_ok : tL_1652.all (fun q => decide (decode cL_law q.1 = .ok q.2)) = true := by decide +kernel
set_option maxHeartbeats 4000000 in
set_option maxRecDepth 100000 in
theorem law_43 (l : Launch) (G : GT) : LSt l G 1652 := by
  intro nm ds t0 Qp sz sb Ln xs g kb o n wc wm k ns i MX0 hL hi hn h hk hns hkb kk
  obtain ⟨tl, fx, fx2, X, D, L, tl2, D2, L2, t, u, b0, hC⟩ := h
  have hC0 := hC
  obtain ⟨hp, hp2, h12, hE, hKr, hTm, hIm, hTx, hby, hu4, ht3, hu23⟩ := hC0
  obtain ⟨hT, hd, hJ, hi0, h9, hZ, hru, hs, hsd, hLk, hrg⟩ := PS_all hp
  have hkc := hKr.1
  obtain ⟨oc, hoc⟩ := isT_in hTm
  have MX := MX0.tab tL_1652_ok
  have M := MX.S.M
  refine M.run 5 (pc' := 1657) (lv' := [some (vr sb), some (vr kb), some (vr o), some (vi ((i : Nat) : Int))]) (st' := [vi ((i + 1 : Nat) : Int), vr sb, vr kb]) rfl ?_
  refine MX.sld (i + 1) rfl (by omega) hL ?_
  refine M.callVm (Ctr.frL wc wm (kX10_resent l G kb tl fx fx2 X (b0 2) D L tl2 D2 L2 (b0 3) ((t : Nat) : Int) (u 5) (u 6) hT n hd (by omega) hJ hi0 h9 hZ hru ((xs (i + 1)).toInt) (i32b _))) cv_L_195 cd_X10_resent rfl (st := []) rfl (in_l hkc) (by decide) (by decide) rfl (by omega) (by omega) ⟨rfl, hE, hKr⟩ (fun r1 w1 q1 => ?_)
  obtain ⟨wc1, ⟨q1r, q1c⟩, q1w⟩ := q1
  rw [q1r, q1w, q1c]
  refine M.run 5 (pc' := 1666) (lv' := [some (vr sb), some (vr kb), some (vr o), some (vi ((i : Nat) : Int))]) (st' := [vi ((i + 1 : Nat) : Int), vr sb, vr o, vi _]) rfl ?_
  refine MX.sld (i + 1) rfl (by omega) hL ?_
  refine M.callVm (Ctr.frR wm wc (vX11_resent l G o (aI o) u tl b0 D L n hT hd hi0 h9 hLk (by omega) (Or.inl hu23) X ⟨hTx, hru.2⟩ ((xs (i + 1)).toInt) (i32b _))) cv_L_198 cd_X11_resent rfl (st := [vi _]) rfl (in_r hoc) (by decide) (by decide) rfl (by omega) (by omega) ⟨rfl, hTm⟩ (fun r2 w2 q2 => ?_)
  obtain ⟨wm1, ⟨q2r, q2c⟩, q2w⟩ := q2
  rw [q2r, q2w, q2c]
  exact M.icmp_same rfl rfl (M.wid (by omega) (by omega) (kk _ _ (LI_A hC)))
def tL_1675 : List (Nat × Instr × Nat) := [(1675, .aload_n 1, 1), (1676, .invokevirtual 199, 3), (1679, .aload_n 2, 1), (1680, .invokevirtual 203, 3), (1683, .if_icmp .eq 251, 3)]
set_option maxRecDepth 100000 in
theorem tL_1675_ok : tL_1675.all (fun q => decide (decode cL_law q.1 = .ok q.2)) = true := by decide +kernel
set_option maxHeartbeats 4000000 in
set_option maxRecDepth 100000 in
theorem law_44 (l : Launch) (G : GT) : LSt l G 1675 := by
  intro nm ds t0 Qp sz sb Ln xs g kb o n wc wm k ns i MX0 hL hi hn h hk hns hkb kk
  obtain ⟨tl, fx, fx2, X, D, L, tl2, D2, L2, t, u, b0, hC⟩ := h
  have hC0 := hC
  obtain ⟨hp, hp2, h12, hE, hKr, hTm, hIm, hTx, hby, hu4, ht3, hu23⟩ := hC0
  obtain ⟨hT, hd, hJ, hi0, h9, hZ, hru, hs, hsd, hLk, hrg⟩ := PS_all hp
  have hkc := hKr.1
  obtain ⟨oc, hoc⟩ := isT_in hTm
  have MX := MX0.tab tL_1675_ok
  have M := MX.S.M
  refine M.run 1 (pc' := 1676) (lv' := [some (vr sb), some (vr kb), some (vr o), some (vi ((i : Nat) : Int))]) (st' := [vr kb]) rfl ?_
  refine M.callVm (Ctr.frL wc wm (kX10_idle l G kb tl fx fx2 X (b0 2) D L tl2 D2 L2 (b0 3) ((t : Nat) : Int) (u 5) (u 6) hT n hd (by omega) hJ hi0 h9 hZ hru)) cv_L_199 cd_X10_idle rfl (st := []) rfl (in_l hkc) (by decide) (by decide) rfl (by omega) (by omega) ⟨rfl, hE, hKr⟩ (fun r1 w1 q1 => ?_)
  obtain ⟨wc1, ⟨q1r, q1c⟩, q1w⟩ := q1
  rw [q1r, q1w, q1c]
  refine M.run 1 (pc' := 1680) (lv' := [some (vr sb), some (vr kb), some (vr o), some (vi ((i : Nat) : Int))]) (st' := [vr o, vi _]) rfl ?_
  refine M.callVm (Ctr.frR wm wc (vX11_idle l G o (aI o) u tl b0 D L n hT hd hi0 h9 hLk (by omega) (Or.inl hu23) X ⟨hTx, hru.2⟩)) cv_L_203 cd_X11_idle rfl (st := [vi _]) rfl (in_r hoc) (by decide) (by decide) rfl (by omega) (by omega) ⟨rfl, hTm⟩ (fun r2 w2 q2 => ?_)
  obtain ⟨wm1, ⟨q2r, q2c⟩, q2w⟩ := q2
  rw [q2r, q2w, q2c]
  exact M.icmp_same rfl rfl (M.wid (by omega) (by omega) (kk _ _ (LI_A hC)))
def tL_1688 : List (Nat × Instr × Nat) := [(1688, .aload_n 1, 1), (1689, .invokevirtual 204, 3), (1692, .aload_n 2, 1), (1693, .invokevirtual 207, 3), (1696, .if_icmp .eq 238, 3)]
set_option maxRecDepth 100000 in
theorem tL_1688_ok : tL_1688.all (fun q => decide (decode cL_law q.1 = .ok q.2)) = true := by decide +kernel
set_option maxHeartbeats 4000000 in
set_option maxRecDepth 100000 in
theorem law_45 (l : Launch) (G : GT) : LSt l G 1688 := by
  intro nm ds t0 Qp sz sb Ln xs g kb o n wc wm k ns i MX0 hL hi hn h hk hns hkb kk
  obtain ⟨tl, fx, fx2, X, D, L, tl2, D2, L2, t, u, b0, hC⟩ := h
  have hC0 := hC
  obtain ⟨hp, hp2, h12, hE, hKr, hTm, hIm, hTx, hby, hu4, ht3, hu23⟩ := hC0
  obtain ⟨hT, hd, hJ, hi0, h9, hZ, hru, hs, hsd, hLk, hrg⟩ := PS_all hp
  have hkc := hKr.1
  obtain ⟨oc, hoc⟩ := isT_in hTm
  have MX := MX0.tab tL_1688_ok
  have M := MX.S.M
  refine M.run 1 (pc' := 1689) (lv' := [some (vr sb), some (vr kb), some (vr o), some (vi ((i : Nat) : Int))]) (st' := [vr kb]) rfl ?_
  refine M.callVm (Ctr.frL wc wm (kX10_live l G kb tl fx fx2 X (b0 2) D L tl2 D2 L2 (b0 3) ((t : Nat) : Int) (u 5) (u 6) hT n hd (by omega) hJ hi0 h9 hZ hru)) cv_L_204 cd_X10_live rfl (st := []) rfl (in_l hkc) (by decide) (by decide) rfl (by omega) (by omega) ⟨rfl, hE, hKr⟩ (fun r1 w1 q1 => ?_)
  obtain ⟨wc1, ⟨q1r, q1c⟩, q1w⟩ := q1
  rw [q1r, q1w, q1c]
  refine M.run 1 (pc' := 1693) (lv' := [some (vr sb), some (vr kb), some (vr o), some (vi ((i : Nat) : Int))]) (st' := [vr o, vi _]) rfl ?_
  refine M.callVm (Ctr.frR wm wc (vX11_live l G o (aI o) u tl b0 D L n hT hd hi0 h9 hLk (by omega) (Or.inl hu23) X ⟨hTx, hru.2⟩)) cv_L_207 cd_X11_live rfl (st := [vi _]) rfl (in_r hoc) (by decide) (by decide) rfl (by omega) (by omega) ⟨rfl, hTm⟩ (fun r2 w2 q2 => ?_)
  obtain ⟨wm1, ⟨q2r, q2c⟩, q2w⟩ := q2
  rw [q2r, q2w, q2c]
  exact M.icmp_same rfl rfl (M.wid (by omega) (by omega) (kk _ _ (LI_A hC)))
def tL_1701 : List (Nat × Instr × Nat) := [(1701, .aload_n 1, 1), (1702, .aload_n 0, 1), (1703, .iload_n 3, 1), (1704, .iconst 1, 1), (1705, .iadd, 1), (1706, .iaload, 1), (1707, .aload_n 0, 1), (1708, .iload_n 3, 1), (1709, .iconst 2, 1), (1710, .iadd, 1), (1711, .iaload, 1), (1712, .invokevirtual 208, 3), (1715, .aload_n 2, 1), (1716, .aload_n 0, 1), (1717, .iload_n 3, 1), (1718, .iconst 1, 1), (1719, .iadd, 1), (1720, .iaload, 1), (1721, .aload_n 0, 1), (1722, .iload_n 3, 1), (1723, .iconst 2, 1), (1724, .iadd, 1), (1725, .iaload, 1), (1726, .invokevirtual 211, 3), (1729, .if_icmp .eq 205, 3)]
set_option maxRecDepth 100000 in
theorem tL_1701_ok : tL_1701.all (fun q => decide (decode cL_law q.1 = .ok q.2)) = true := by decide +kernel
set_option maxHeartbeats 4000000 in
set_option maxRecDepth 100000 in
theorem law_46 (l : Launch) (G : GT) : LSt l G 1701 := by
  intro nm ds t0 Qp sz sb Ln xs g kb o n wc wm k ns i MX0 hL hi hn h hk hns hkb kk
  obtain ⟨tl, fx, fx2, X, D, L, tl2, D2, L2, t, u, b0, hC⟩ := h
  have hC0 := hC
  obtain ⟨hp, hp2, h12, hE, hKr, hTm, hIm, hTx, hby, hu4, ht3, hu23⟩ := hC0
  obtain ⟨hT, hd, hJ, hi0, h9, hZ, hru, hs, hsd, hLk, hrg⟩ := PS_all hp
  have h4b : 0 ≤ tl 4 ∧ tl 4 ≤ 8 := hT.1 4 (by decide)
  have hkc := hKr.1
  obtain ⟨oc, hoc⟩ := isT_in hTm
  have MX := MX0.tab tL_1701_ok
  have M := MX.S.M
  refine M.run 5 (pc' := 1706) (lv' := [some (vr sb), some (vr kb), some (vr o), some (vi ((i : Nat) : Int))]) (st' := [vi ((i + 1 : Nat) : Int), vr sb, vr kb]) rfl ?_
  refine MX.sld (i + 1) rfl (by omega) hL ?_
  refine M.run 4 (pc' := 1711) (lv' := [some (vr sb), some (vr kb), some (vr o), some (vi ((i : Nat) : Int))]) (st' := [vi ((i + 2 : Nat) : Int), vr sb, vi (xs (i + 1)).toInt, vr kb]) rfl ?_
  refine MX.sld (i + 2) rfl (by omega) hL ?_
  refine M.callVm (Ctr.frL wc wm (kX10_said l G kb tl fx fx2 X (b0 2) D L tl2 D2 L2 (b0 3) ((t : Nat) : Int) (u 5) (u 6) hT n hd (by omega) hJ hi0 h9 hZ hru ((xs (i + 1)).toInt) ((xs (i + 2)).toInt) (i32b _) (i32b _))) cv_L_208 cd_X10_said rfl (st := []) rfl (in_l hkc) (by decide) (by decide) rfl (by omega) (by omega) ⟨rfl, hE, hKr⟩ (fun r1 w1 q1 => ?_)
  obtain ⟨wc1, ⟨q1r, qK⟩, q1w⟩ := q1
  rw [q1r, q1w]
  refine M.run 5 (pc' := 1720) (lv' := [some (vr sb), some (vr kb), some (vr o), some (vi ((i : Nat) : Int))]) (st' := [vi ((i + 1 : Nat) : Int), vr sb, vr o, vi _]) rfl ?_
  refine MX.sld (i + 1) rfl (by omega) hL ?_
  refine M.run 4 (pc' := 1725) (lv' := [some (vr sb), some (vr kb), some (vr o), some (vi ((i : Nat) : Int))]) (st' := [vi ((i + 2 : Nat) : Int), vr sb, vi (xs (i + 1)).toInt, vr o, vi _]) rfl ?_
  refine MX.sld (i + 2) rfl (by omega) hL ?_
  refine M.callVm (Ctr.frR wm wc1 (vX11_said l G o (aI o) u tl b0 D L n hT hd hi0 h9 hLk (by omega) (Or.inl hu23) X ⟨hTx, hru.2⟩ ((xs (i + 1)).toInt) ((xs (i + 2)).toInt) (i32b _) (i32b _) h4b)) cv_L_211 cd_X11_said rfl (st := [vi _]) rfl (in_r hoc) (by decide) (by decide) rfl (by omega) (by omega) ⟨rfl, hTm⟩ (fun r2 w2 q2 => ?_)
  obtain ⟨wm1, ⟨q2r, qM⟩, q2w⟩ := q2
  rw [q2r, q2w]
  exact M.icmp_same rfl rfl (M.wid (by omega) (by omega) (kk _ _ (LI_C _ hC (PS_mono (by omega) (PS_said hp)) (sSaid_1 (S := (tl, D, L)) h4b.1) qK qM)))
def tL_1734 : List (Nat × Instr × Nat) := [(1734, .aload_n 1, 1), (1735, .invokevirtual 212, 3), (1738, .aload_n 2, 1), (1739, .invokevirtual 215, 3), (1742, .if_icmp .eq 192, 3)]
set_option maxRecDepth 100000 in
theorem tL_1734_ok : tL_1734.all (fun q => decide (decode cL_law q.1 = .ok q.2)) = true := by decide +kernel
set_option maxHeartbeats 4000000 in
set_option maxRecDepth 100000 in
theorem law_47 (l : Launch) (G : GT) : LSt l G 1734 := by
  intro nm ds t0 Qp sz sb Ln xs g kb o n wc wm k ns i MX0 hL hi hn h hk hns hkb kk
  obtain ⟨tl, fx, fx2, X, D, L, tl2, D2, L2, t, u, b0, hC⟩ := h
  have hC0 := hC
  obtain ⟨hp, hp2, h12, hE, hKr, hTm, hIm, hTx, hby, hu4, ht3, hu23⟩ := hC0
  obtain ⟨hT, hd, hJ, hi0, h9, hZ, hru, hs, hsd, hLk, hrg⟩ := PS_all hp
  have h4b : 0 ≤ tl 4 ∧ tl 4 ≤ 8 := hT.1 4 (by decide)
  have hkc := hKr.1
  obtain ⟨oc, hoc⟩ := isT_in hTm
  have MX := MX0.tab tL_1734_ok
  have M := MX.S.M
  refine M.run 1 (pc' := 1735) (lv' := [some (vr sb), some (vr kb), some (vr o), some (vi ((i : Nat) : Int))]) (st' := [vr kb]) rfl ?_
  refine M.callVm (Ctr.frL wc wm (kX10_whose l G kb tl fx fx2 X (b0 2) D L tl2 D2 L2 (b0 3) ((t : Nat) : Int) (u 5) (u 6) hT n hs (by omega) hZ hru hsd)) cv_L_212 cd_X10_whose rfl (st := []) rfl (in_l hkc) (by decide) (by decide) rfl (by omega) (by omega) ⟨rfl, hE, hKr⟩ (fun r1 w1 q1 => ?_)
  obtain ⟨wc1, ⟨q1r, qE, qK⟩, q1w⟩ := q1
  rw [q1r, q1w]
  refine M.run 1 (pc' := 1739) (lv' := [some (vr sb), some (vr kb), some (vr o), some (vi ((i : Nat) : Int))]) (st' := [vr o, vi _]) rfl ?_
  refine M.callVm (Ctr.frR wm wc1 (vX11_whose l G o (aI o) u tl b0 D L n hT hd hi0 h9 hLk (by omega) (Or.inl hu23) X ⟨hTx, hru.2⟩ hsd h4b.2)) cv_L_215 cd_X11_whose rfl (st := [vi _]) rfl (in_r hoc) (by decide) (by decide) rfl (by omega) (by omega) ⟨rfl, hTm⟩ (fun r2 w2 q2 => ?_)
  obtain ⟨wm1, ⟨q2r, qM⟩, q2w⟩ := q2
  rw [q2r, q2w]
  exact M.icmp_same rfl rfl (M.wid (by omega) (by omega) (kk _ _ (LI_B hC qE qK qM (fun _ _ => rfl))))
def tL_1747 : List (Nat × Instr × Nat) := [(1747, .aload_n 1, 1), (1748, .aload_n 0, 1), (1749, .iload_n 3, 1), (1750, .iconst 1, 1), (1751, .iadd, 1), (1752, .iaload, 1), (1753, .aload_n 0, 1), (1754, .iload_n 3, 1), (1755, .iconst 2, 1), (1756, .iadd, 1), (1757, .iaload, 1), (1758, .invokevirtual 216, 3), (1761, .aload_n 2, 1), (1762, .aload_n 0, 1), (1763, .iload_n 3, 1), (1764, .iconst 1, 1), (1765, .iadd, 1), (1766, .iaload, 1), (1767, .aload_n 0, 1), (1768, .iload_n 3, 1), (1769, .iconst 2, 1), (1770, .iadd, 1), (1771, .iaload, 1), (1772, .invokevirtual 219, 3), (1775, .if_icmp .eq 159, 3)]
set_option maxRecDepth 100000 in
theorem tL_1747_ok : tL_1747.all (fun q => decide (decode cL_law q.1 = .ok q.2)) = true := by decide +kernel
set_option maxHeartbeats 4000000 in
set_option maxRecDepth 100000 in
theorem law_48 (l : Launch) (G : GT) : LSt l G 1747 := by
  intro nm ds t0 Qp sz sb Ln xs g kb o n wc wm k ns i MX0 hL hi hn h hk hns hkb kk
  obtain ⟨tl, fx, fx2, X, D, L, tl2, D2, L2, t, u, b0, hC⟩ := h
  have hC0 := hC
  obtain ⟨hp, hp2, h12, hE, hKr, hTm, hIm, hTx, hby, hu4, ht3, hu23⟩ := hC0
  obtain ⟨hT, hd, hJ, hi0, h9, hZ, hru, hs, hsd, hLk, hrg⟩ := PS_all hp
  have hkc := hKr.1
  obtain ⟨oc, hoc⟩ := isT_in hTm
  have MX := MX0.tab tL_1747_ok
  have M := MX.S.M
  refine M.run 5 (pc' := 1752) (lv' := [some (vr sb), some (vr kb), some (vr o), some (vi ((i : Nat) : Int))]) (st' := [vi ((i + 1 : Nat) : Int), vr sb, vr kb]) rfl ?_
  refine MX.sld (i + 1) rfl (by omega) hL ?_
  refine M.run 4 (pc' := 1757) (lv' := [some (vr sb), some (vr kb), some (vr o), some (vi ((i : Nat) : Int))]) (st' := [vi ((i + 2 : Nat) : Int), vr sb, vi (xs (i + 1)).toInt, vr kb]) rfl ?_
  refine MX.sld (i + 2) rfl (by omega) hL ?_
  refine M.callVm (Ctr.frL wc wm (kX10_loses l G kb tl fx fx2 X (b0 2) D L tl2 D2 L2 (b0 3) ((t : Nat) : Int) (u 5) (u 6) hT n hs (by omega) hZ hru ((xs (i + 1)).toInt) ((xs (i + 2)).toInt) (i32b _) (i32b _))) cv_L_216 cd_X10_loses rfl (st := []) rfl (in_l hkc) (by decide) (by decide) rfl (by omega) (by omega) ⟨rfl, hE, hKr⟩ (fun r1 w1 q1 => ?_)
  obtain ⟨wc1, ⟨q1r, qE, qK⟩, q1w⟩ := q1
  rw [q1r, q1w]
  refine M.run 5 (pc' := 1766) (lv' := [some (vr sb), some (vr kb), some (vr o), some (vi ((i : Nat) : Int))]) (st' := [vi ((i + 1 : Nat) : Int), vr sb, vr o, vi _]) rfl ?_
  refine MX.sld (i + 1) rfl (by omega) hL ?_
  refine M.run 4 (pc' := 1771) (lv' := [some (vr sb), some (vr kb), some (vr o), some (vi ((i : Nat) : Int))]) (st' := [vi ((i + 2 : Nat) : Int), vr sb, vi (xs (i + 1)).toInt, vr o, vi _]) rfl ?_
  refine MX.sld (i + 2) rfl (by omega) hL ?_
  refine M.callVm (Ctr.frR wm wc1 (vX11_loses l G o (aI o) u tl b0 D L n hT hd hi0 h9 hLk (by omega) (Or.inl hu23) X ⟨hTx, hru.2⟩ ((xs (i + 1)).toInt) ((xs (i + 2)).toInt) (i32b _) (i32b _))) cv_L_219 cd_X11_loses rfl (st := [vi _]) rfl (in_r hoc) (by decide) (by decide) rfl (by omega) (by omega) ⟨rfl, hTm⟩ (fun r2 w2 q2 => ?_)
  obtain ⟨wm1, ⟨q2r, qM⟩, q2w⟩ := q2
  rw [q2r, q2w]
  exact M.icmp_same rfl rfl (M.wid (by omega) (by omega) (kk _ _ (LI_B hC qE qK qM (fun _ _ => rfl))))
def tL_1780 : List (Nat × Instr × Nat) := [(1780, .aload_n 1, 1), (1781, .aload_n 0, 1), (1782, .iload_n 3, 1), (1783, .iconst 1, 1), (1784, .iadd, 1), (1785, .iaload, 1), (1786, .aload_n 0, 1), (1787, .iload_n 3, 1), (1788, .iconst 2, 1), (1789, .iadd, 1), (1790, .iaload, 1), (1791, .aload_n 0, 1), (1792, .iload_n 3, 1), (1793, .iconst 3, 1), (1794, .iadd, 1), (1795, .iaload, 1), (1796, .invokevirtual 220, 3), (1799, .aload_n 2, 1), (1800, .aload_n 0, 1), (1801, .iload_n 3, 1), (1802, .iconst 1, 1), (1803, .iadd, 1), (1804, .iaload, 1), (1805, .aload_n 0, 1), (1806, .iload_n 3, 1), (1807, .iconst 2, 1), (1808, .iadd, 1), (1809, .iaload, 1), (1810, .aload_n 0, 1), (1811, .iload_n 3, 1), (1812, .iconst 3, 1), (1813, .iadd, 1), (1814, .iaload, 1), (1815, .invokevirtual 223, 3), (1818, .if_icmp .eq 116, 3)]
set_option maxRecDepth 100000 in
theorem tL_1780_ok : tL_1780.all (fun q => decide (decode cL_law q.1 = .ok q.2)) = true := by decide +kernel
set_option maxHeartbeats 4000000 in
set_option maxRecDepth 100000 in
theorem law_49 (l : Launch) (G : GT) : LSt l G 1780 := by
  intro nm ds t0 Qp sz sb Ln xs g kb o n wc wm k ns i MX0 hL hi hn h hk hns hkb kk
  obtain ⟨tl, fx, fx2, X, D, L, tl2, D2, L2, t, u, b0, hC⟩ := h
  have hC0 := hC
  obtain ⟨hp, hp2, h12, hE, hKr, hTm, hIm, hTx, hby, hu4, ht3, hu23⟩ := hC0
  obtain ⟨hT, hd, hJ, hi0, h9, hZ, hru, hs, hsd, hLk, hrg⟩ := PS_all hp
  have hkc := hKr.1
  obtain ⟨oc, hoc⟩ := isT_in hTm
  have MX := MX0.tab tL_1780_ok
  have M := MX.S.M
  refine M.run 5 (pc' := 1785) (lv' := [some (vr sb), some (vr kb), some (vr o), some (vi ((i : Nat) : Int))]) (st' := [vi ((i + 1 : Nat) : Int), vr sb, vr kb]) rfl ?_
  refine MX.sld (i + 1) rfl (by omega) hL ?_
  refine M.run 4 (pc' := 1790) (lv' := [some (vr sb), some (vr kb), some (vr o), some (vi ((i : Nat) : Int))]) (st' := [vi ((i + 2 : Nat) : Int), vr sb, vi (xs (i + 1)).toInt, vr kb]) rfl ?_
  refine MX.sld (i + 2) rfl (by omega) hL ?_
  refine M.run 4 (pc' := 1795) (lv' := [some (vr sb), some (vr kb), some (vr o), some (vi ((i : Nat) : Int))]) (st' := [vi ((i + 3 : Nat) : Int), vr sb, vi (xs (i + 2)).toInt, vi (xs (i + 1)).toInt, vr kb]) rfl ?_
  refine MX.sld (i + 3) rfl (by omega) hL ?_
  refine M.callVm (Ctr.frL wc wm (kX10_waits l G kb tl fx fx2 X (b0 2) D L tl2 D2 L2 (b0 3) ((t : Nat) : Int) (u 5) (u 6) hT n hs (by omega) hZ hru ((xs (i + 1)).toInt) ((xs (i + 2)).toInt) ((xs (i + 3)).toInt) (i32b _) (i32b _) (i32b _))) cv_L_220 cd_X10_waits rfl (st := []) rfl (in_l hkc) (by decide) (by decide) rfl (by omega) (by omega) ⟨rfl, hE, hKr⟩ (fun r1 w1 q1 => ?_)
  obtain ⟨wc1, ⟨q1r, qE, qK⟩, q1w⟩ := q1
  rw [q1r, q1w]
  refine M.run 5 (pc' := 1804) (lv' := [some (vr sb), some (vr kb), some (vr o), some (vi ((i : Nat) : Int))]) (st' := [vi ((i + 1 : Nat) : Int), vr sb, vr o, vi _]) rfl ?_
  refine MX.sld (i + 1) rfl (by omega) hL ?_
  refine M.run 4 (pc' := 1809) (lv' := [some (vr sb), some (vr kb), some (vr o), some (vi ((i : Nat) : Int))]) (st' := [vi ((i + 2 : Nat) : Int), vr sb, vi (xs (i + 1)).toInt, vr o, vi _]) rfl ?_
  refine MX.sld (i + 2) rfl (by omega) hL ?_
  refine M.run 4 (pc' := 1814) (lv' := [some (vr sb), some (vr kb), some (vr o), some (vi ((i : Nat) : Int))]) (st' := [vi ((i + 3 : Nat) : Int), vr sb, vi (xs (i + 2)).toInt, vi (xs (i + 1)).toInt, vr o, vi _]) rfl ?_
  refine MX.sld (i + 3) rfl (by omega) hL ?_
  refine M.callVm (Ctr.frR wm wc1 (vX11_waits l G o (aI o) u tl b0 D L n hT hd hi0 h9 hLk (by omega) (Or.inl hu23) X ⟨hTx, hru.2⟩ ((xs (i + 1)).toInt) ((xs (i + 2)).toInt) ((xs (i + 3)).toInt) (i32b _) (i32b _) (i32b _))) cv_L_223 cd_X11_waits rfl (st := [vi _]) rfl (in_r hoc) (by decide) (by decide) rfl (by omega) (by omega) ⟨rfl, hTm⟩ (fun r2 w2 q2 => ?_)
  obtain ⟨wm1, ⟨q2r, qM⟩, q2w⟩ := q2
  rw [q2r, q2w]
  exact M.icmp_same rfl rfl (M.wid (by omega) (by omega) (kk _ _ (LI_B hC qE qK qM (fun _ _ => rfl))))
