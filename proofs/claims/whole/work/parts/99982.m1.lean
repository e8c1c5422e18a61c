/-! the law: cases 10, 11, 12, 13, 14, 15, 16, 17, 18, 19 -/
def tL_566 : List (Nat × Instr × Nat) := [(566, .aload_n 1, 1), (567, .aload_n 0, 1), (568, .iload_n 3, 1), (569, .iconst 1, 1), (570, .iadd, 1), (571, .iaload, 1), (572, .invokevirtual 59, 3), (575, .aload_n 2, 1), (576, .aload_n 0, 1), (577, .iload_n 3, 1), (578, .iconst 1, 1), (579, .iadd, 1), (580, .iaload, 1), (581, .invokevirtual 62, 3), (584, .if_icmp .eq 1350, 3)]
set_option maxRecDepth 100000 in
theorem tL_566_ok : tL_566.all (fun q => decide (decode cL_law q.1 = .ok q.2)) = true := by decide +kernel
set_option maxHeartbeats 4000000 in
set_option maxRecDepth 100000 in
theorem law_10 (l : Launch) (G : GT) : LSt l G 566 := by
  intro nm ds t0 Qp sz sb Ln xs g kb o n wc wm k ns i MX0 hL hi hn h hk hns hkb kk
  obtain ⟨tl, fx, fx2, X, D, L, tl2, D2, L2, t, u, b0, hC⟩ := h
  have hC0 := hC
  obtain ⟨hp, hp2, h12, hE, hKr, hTm, hIm, hTx, hby, hu4, ht3, hu23⟩ := hC0
  obtain ⟨hT, hd, hJ, hi0, h9, hZ, hru, hs, hsd, hLk, hrg⟩ := PS_all hp
  have hkc := hKr.1
  obtain ⟨oc, hoc⟩ := isT_in hTm
  have MX := MX0.tab tL_566_ok
  have M := MX.S.M
  refine M.run 5 (pc' := 571) (lv' := [some (vr sb), some (vr kb), some (vr o), some (vi ((i : Nat) : Int))]) (st' := [vi ((i + 1 : Nat) : Int), vr sb, vr kb]) rfl ?_
  refine MX.sld (i + 1) rfl (by omega) hL ?_
  refine M.callVm (Ctr.frL wc wm (kX10_open l G kb tl fx fx2 X (b0 2) D L tl2 D2 L2 (b0 3) ((t : Nat) : Int) (u 5) (u 6) hT n hs (by omega) hZ hru ((xs (i + 1)).toInt) (i32b _))) cv_L_59 cd_X10_open rfl (st := []) rfl (in_l hkc) (by decide) (by decide) rfl (by omega) (by omega) ⟨rfl, hE, hKr⟩ (fun r1 w1 q1 => ?_)
  obtain ⟨wc1, ⟨q1r, qK⟩, q1w⟩ := q1
  rw [q1r, q1w]
  refine M.run 5 (pc' := 580) (lv' := [some (vr sb), some (vr kb), some (vr o), some (vi ((i : Nat) : Int))]) (st' := [vi ((i + 1 : Nat) : Int), vr sb, vr o, vi _]) rfl ?_
  refine MX.sld (i + 1) rfl (by omega) hL ?_
  refine M.callVm (Ctr.frR wm wc1 (vX11_open l G o (aI o) u tl b0 D L n hT hd hi0 h9 hLk (by omega) (Or.inl hu23) X ⟨hTx, hru.2⟩ ((xs (i + 1)).toInt) (i32b _))) cv_L_62 cd_X11_open rfl (st := [vi _]) rfl (in_r hoc) (by decide) (by decide) rfl (by omega) (by omega) ⟨rfl, hTm⟩ (fun r2 w2 q2 => ?_)
  obtain ⟨wm1, ⟨q2r, qM⟩, q2w⟩ := q2
  rw [q2r, q2w]
  exact M.icmp_same rfl rfl (M.wid (by omega) (by omega) (kk _ _ (LI_C _ hC (PS_mono (by omega) (PS_open hp)) (congrFun sOpen_1 1) qK qM)))
def tL_589 : List (Nat × Instr × Nat) := [(589, .aload_n 1, 1), (590, .aload_n 0, 1), (591, .iload_n 3, 1), (592, .iconst 1, 1), (593, .iadd, 1), (594, .iaload, 1), (595, .aload_n 0, 1), (596, .iload_n 3, 1), (597, .iconst 2, 1), (598, .iadd, 1), (599, .iaload, 1), (600, .invokevirtual 63, 3), (603, .aload_n 2, 1), (604, .aload_n 0, 1), (605, .iload_n 3, 1), (606, .iconst 1, 1), (607, .iadd, 1), (608, .iaload, 1), (609, .aload_n 0, 1), (610, .iload_n 3, 1), (611, .iconst 2, 1), (612, .iadd, 1), (613, .iaload, 1), (614, .invokevirtual 67, 3), (617, .if_icmp .eq 1317, 3)]
set_option maxRecDepth 100000 in
theorem tL_589_ok : tL_589.all (fun q => decide (decode cL_law q.1 = .ok q.2)) = true := by decide +kernel
set_option maxHeartbeats 4000000 in
set_option maxRecDepth 100000 in
theorem law_11 (l : Launch) (G : GT) : LSt l G 589 := by
  intro nm ds t0 Qp sz sb Ln xs g kb o n wc wm k ns i MX0 hL hi hn h hk hns hkb kk
  obtain ⟨tl, fx, fx2, X, D, L, tl2, D2, L2, t, u, b0, hC⟩ := h
  have hC0 := hC
  obtain ⟨hp, hp2, h12, hE, hKr, hTm, hIm, hTx, hby, hu4, ht3, hu23⟩ := hC0
  obtain ⟨hT, hd, hJ, hi0, h9, hZ, hru, hs, hsd, hLk, hrg⟩ := PS_all hp
  have hkc := hKr.1
  obtain ⟨oc, hoc⟩ := isT_in hTm
  have MX := MX0.tab tL_589_ok
  have M := MX.S.M
  refine M.run 5 (pc' := 594) (lv' := [some (vr sb), some (vr kb), some (vr o), some (vi ((i : Nat) : Int))]) (st' := [vi ((i + 1 : Nat) : Int), vr sb, vr kb]) rfl ?_
  refine MX.sld (i + 1) rfl (by omega) hL ?_
  refine M.run 4 (pc' := 599) (lv' := [some (vr sb), some (vr kb), some (vr o), some (vi ((i : Nat) : Int))]) (st' := [vi ((i + 2 : Nat) : Int), vr sb, vi (xs (i + 1)).toInt, vr kb]) rfl ?_
  refine MX.sld (i + 2) rfl (by omega) hL ?_
  refine M.callVm (Ctr.frL wc wm (kX10_cancel l G kb tl fx fx2 X (b0 2) D L tl2 D2 L2 (b0 3) ((t : Nat) : Int) (u 5) (u 6) hT n hs (by omega) hZ hru ((xs (i + 1)).toInt) ((xs (i + 2)).toInt) (i32b _) (i32b _))) cv_L_63 cd_X10_cancel rfl (st := []) rfl (in_l hkc) (by decide) (by decide) rfl (by omega) (by omega) ⟨rfl, hE, hKr⟩ (fun r1 w1 q1 => ?_)
  obtain ⟨wc1, ⟨q1r, qK⟩, q1w⟩ := q1
  rw [q1r, q1w]
  refine M.run 5 (pc' := 608) (lv' := [some (vr sb), some (vr kb), some (vr o), some (vi ((i : Nat) : Int))]) (st' := [vi ((i + 1 : Nat) : Int), vr sb, vr o, vi _]) rfl ?_
  refine MX.sld (i + 1) rfl (by omega) hL ?_
  refine M.run 4 (pc' := 613) (lv' := [some (vr sb), some (vr kb), some (vr o), some (vi ((i : Nat) : Int))]) (st' := [vi ((i + 2 : Nat) : Int), vr sb, vi (xs (i + 1)).toInt, vr o, vi _]) rfl ?_
  refine MX.sld (i + 2) rfl (by omega) hL ?_
  refine M.callVm (Ctr.frR wm wc1 (vX11_cancel l G o (aI o) u tl b0 D L n hT hd hi0 h9 hLk (by omega) (Or.inl hu23) X ⟨hTx, hru.2⟩ ((xs (i + 1)).toInt) ((xs (i + 2)).toInt) (i32b _) (i32b _))) cv_L_67 cd_X11_cancel rfl (st := [vi _]) rfl (in_r hoc) (by decide) (by decide) rfl (by omega) (by omega) ⟨rfl, hTm⟩ (fun r2 w2 q2 => ?_)
  obtain ⟨wm1, ⟨q2r, qM⟩, q2w⟩ := q2
  rw [q2r, q2w]
  exact M.icmp_same rfl rfl (M.wid (by omega) (by omega) (kk _ _ (LI_C _ hC (PS_mono (by omega) (PS_cancel hp)) (congrFun sCancel_1 1) qK qM)))
def tL_622 : List (Nat × Instr × Nat) := [(622, .aload_n 1, 1), (623, .aload_n 0, 1), (624, .iload_n 3, 1), (625, .iconst 1, 1), (626, .iadd, 1), (627, .iaload, 1), (628, .invokevirtual 68, 3), (631, .aload_n 2, 1), (632, .aload_n 0, 1), (633, .iload_n 3, 1), (634, .iconst 1, 1), (635, .iadd, 1), (636, .iaload, 1), (637, .invokevirtual 71, 3), (640, .if_icmp .eq 1294, 3)]
set_option maxRecDepth 100000 in
theorem tL_622_ok : tL_622.all (fun q => decide (decode cL_law q.1 = .ok q.2)) = true := by decide +kernel
set_option maxHeartbeats 4000000 in
set_option maxRecDepth 100000 in
theorem law_12 (l : Launch) (G : GT) : LSt l G 622 := by
  intro nm ds t0 Qp sz sb Ln xs g kb o n wc wm k ns i MX0 hL hi hn h hk hns hkb kk
  obtain ⟨tl, fx, fx2, X, D, L, tl2, D2, L2, t, u, b0, hC⟩ := h
  have hC0 := hC
  obtain ⟨hp, hp2, h12, hE, hKr, hTm, hIm, hTx, hby, hu4, ht3, hu23⟩ := hC0
  obtain ⟨hT, hd, hJ, hi0, h9, hZ, hru, hs, hsd, hLk, hrg⟩ := PS_all hp
  have hkc := hKr.1
  obtain ⟨oc, hoc⟩ := isT_in hTm
  have MX := MX0.tab tL_622_ok
  have M := MX.S.M
  refine M.run 5 (pc' := 627) (lv' := [some (vr sb), some (vr kb), some (vr o), some (vi ((i : Nat) : Int))]) (st' := [vi ((i + 1 : Nat) : Int), vr sb, vr kb]) rfl ?_
  refine MX.sld (i + 1) rfl (by omega) hL ?_
  refine M.callVm (Ctr.frL wc wm (kX10_day l G kb tl fx fx2 X (b0 2) D L tl2 D2 L2 (b0 3) ((t : Nat) : Int) (u 5) (u 6) hT n hs (by omega) hZ hru ((xs (i + 1)).toInt) (i32b _))) cv_L_68 cd_X10_day rfl (st := []) rfl (in_l hkc) (by decide) (by decide) rfl (by omega) (by omega) ⟨rfl, hE, hKr⟩ (fun r1 w1 q1 => ?_)
  obtain ⟨wc1, ⟨q1r, qK⟩, q1w⟩ := q1
  rw [q1r, q1w]
  refine M.run 5 (pc' := 636) (lv' := [some (vr sb), some (vr kb), some (vr o), some (vi ((i : Nat) : Int))]) (st' := [vi ((i + 1 : Nat) : Int), vr sb, vr o, vi _]) rfl ?_
  refine MX.sld (i + 1) rfl (by omega) hL ?_
  refine M.callVm (Ctr.frR wm wc1 (vX11_day l G o (aI o) u tl b0 D L n hT hd hi0 h9 hLk (by omega) (Or.inl hu23) X ⟨hTx, hru.2⟩ ((xs (i + 1)).toInt) (i32b _))) cv_L_71 cd_X11_day rfl (st := [vi _]) rfl (in_r hoc) (by decide) (by decide) rfl (by omega) (by omega) ⟨rfl, hTm⟩ (fun r2 w2 q2 => ?_)
  obtain ⟨wm1, ⟨q2r, qM⟩, q2w⟩ := q2
  rw [hu23] at q2r qM
  rw [q2r, q2w]
  refine M.icmp_same rfl rfl (M.wid (by omega) (by omega) (kk _ _ (LI_C _ hC ?_ ?_ qK qM)))
  · split
    · rename_i hq
      exact PS_mono (by omega) (PS_days (X := X) (sure := 0) (xs (i + 1)).toInt.toNat hp)
    · exact PS_mono (by omega) hp
  · split
    · exact congrFun (sDays_1 _) 1
    · rfl
def tL_645 : List (Nat × Instr × Nat) := [(645, .aload_n 1, 1), (646, .aload_n 0, 1), (647, .iload_n 3, 1), (648, .iconst 1, 1), (649, .iadd, 1), (650, .iaload, 1), (651, .invokevirtual 72, 3), (654, .aload_n 2, 1), (655, .aload_n 0, 1), (656, .iload_n 3, 1), (657, .iconst 1, 1), (658, .iadd, 1), (659, .iaload, 1), (660, .invokevirtual 75, 3), (663, .if_icmp .eq 1271, 3)]
set_option maxRecDepth 100000 in
theorem tL_645_ok : tL_645.all (fun q => decide (decode cL_law q.1 = .ok q.2)) = true := by decide +kernel
set_option maxHeartbeats 4000000 in
set_option maxRecDepth 100000 in
theorem law_13 (l : Launch) (G : GT) : LSt l G 645 := by
  intro nm ds t0 Qp sz sb Ln xs g kb o n wc wm k ns i MX0 hL hi hn h hk hns hkb kk
  obtain ⟨tl, fx, fx2, X, D, L, tl2, D2, L2, t, u, b0, hC⟩ := h
  have hC0 := hC
  obtain ⟨hp, hp2, h12, hE, hKr, hTm, hIm, hTx, hby, hu4, ht3, hu23⟩ := hC0
  obtain ⟨hT, hd, hJ, hi0, h9, hZ, hru, hs, hsd, hLk, hrg⟩ := PS_all hp
  have hkc := hKr.1
  obtain ⟨oc, hoc⟩ := isT_in hTm
  have MX := MX0.tab tL_645_ok
  have M := MX.S.M
  refine M.run 5 (pc' := 650) (lv' := [some (vr sb), some (vr kb), some (vr o), some (vi ((i : Nat) : Int))]) (st' := [vi ((i + 1 : Nat) : Int), vr sb, vr kb]) rfl ?_
  refine MX.sld (i + 1) rfl (by omega) hL ?_
  refine M.callVm (Ctr.frL wc wm (kX10_played l G kb tl fx fx2 X (b0 2) D L tl2 D2 L2 (b0 3) ((t : Nat) : Int) (u 5) (u 6) hT n hs (by omega) hZ hru (fun t ht => (hTx t ht).1) ((xs (i + 1)).toInt) (i32b _))) cv_L_72 cd_X10_played rfl (st := []) rfl (in_l hkc) (by decide) (by decide) rfl (by omega) (by omega) ⟨rfl, hE, hKr⟩ (fun r1 w1 q1 => ?_)
  obtain ⟨wc1, ⟨q1r, qK⟩, q1w⟩ := q1
  rw [q1r, q1w]
  refine M.run 5 (pc' := 659) (lv' := [some (vr sb), some (vr kb), some (vr o), some (vi ((i : Nat) : Int))]) (st' := [vi ((i + 1 : Nat) : Int), vr sb, vr o, vi _]) rfl ?_
  refine MX.sld (i + 1) rfl (by omega) hL ?_
  refine M.callVm (Ctr.frR wm wc1 (vX11_played l G o (aI o) u tl b0 D L n hT hd hi0 h9 hLk (by omega) (Or.inl hu23) X ⟨hTx, hru.2⟩ ((xs (i + 1)).toInt) (i32b _))) cv_L_75 cd_X11_played rfl (st := [vi _]) rfl (in_r hoc) (by decide) (by decide) rfl (by omega) (by omega) ⟨rfl, hTm⟩ (fun r2 w2 q2 => ?_)
  obtain ⟨wm1, ⟨q2r, qM⟩, q2w⟩ := q2
  rw [hu23] at q2r qM
  rw [q2r, q2w]
  refine M.icmp_same rfl rfl (M.wid (by omega) (by omega) (kk _ _ (LI_C _ hC ?_ ?_ qK qM)))
  · split
    · rename_i hq
      have hc := (hTx (xs (i + 1)).toInt.toNat (by omega)).1
      exact PS_mono (by have := hc.1; omega) (PS_play (X := X) (sure := 0) (fun k k1 k2 => ((hc.2 k k1).2 k2).1) (b0 2 (681 * (xs (i + 1)).toInt.toNat)).toNat 0 (by have := hc.1; omega) hp)
    · exact PS_mono (by omega) hp
  · split
    · exact sPlay_1 _ _ (S := (tl, D, L)) (show 0 ≤ tl 0 from (hT.1 0 (by decide)).1)
    · rfl
def tL_668 : List (Nat × Instr × Nat) := [(668, .aload_n 1, 1), (669, .aload_n 0, 1), (670, .iload_n 3, 1), (671, .iconst 1, 1), (672, .iadd, 1), (673, .iaload, 1), (674, .aload_n 0, 1), (675, .iload_n 3, 1), (676, .iconst 2, 1), (677, .iadd, 1), (678, .iaload, 1), (679, .invokevirtual 76, 3), (682, .aload_n 2, 1), (683, .aload_n 0, 1), (684, .iload_n 3, 1), (685, .iconst 1, 1), (686, .iadd, 1), (687, .iaload, 1), (688, .aload_n 0, 1), (689, .iload_n 3, 1), (690, .iconst 2, 1), (691, .iadd, 1), (692, .iaload, 1), (693, .invokevirtual 79, 3), (696, .if_icmp .eq 1238, 3)]
set_option maxRecDepth 100000 in
theorem tL_668_ok : tL_668.all (fun q => decide (decode cL_law q.1 = .ok q.2)) = true := by decide +kernel
set_option maxHeartbeats 4000000 in
set_option maxRecDepth 100000 in
theorem law_14 (l : Launch) (G : GT) : LSt l G 668 := by
  intro nm ds t0 Qp sz sb Ln xs g kb o n wc wm k ns i MX0 hL hi hn h hk hns hkb kk
  obtain ⟨tl, fx, fx2, X, D, L, tl2, D2, L2, t, u, b0, hC⟩ := h
  have hC0 := hC
  obtain ⟨hp, hp2, h12, hE, hKr, hTm, hIm, hTx, hby, hu4, ht3, hu23⟩ := hC0
  obtain ⟨hT, hd, hJ, hi0, h9, hZ, hru, hs, hsd, hLk, hrg⟩ := PS_all hp
  have hkc := hKr.1
  obtain ⟨oc, hoc⟩ := isT_in hTm
  have MX := MX0.tab tL_668_ok
  have M := MX.S.M
  refine M.run 5 (pc' := 673) (lv' := [some (vr sb), some (vr kb), some (vr o), some (vi ((i : Nat) : Int))]) (st' := [vi ((i + 1 : Nat) : Int), vr sb, vr kb]) rfl ?_
  refine MX.sld (i + 1) rfl (by omega) hL ?_
  refine M.run 4 (pc' := 678) (lv' := [some (vr sb), some (vr kb), some (vr o), some (vi ((i : Nat) : Int))]) (st' := [vi ((i + 2 : Nat) : Int), vr sb, vi (xs (i + 1)).toInt, vr kb]) rfl ?_
  refine MX.sld (i + 2) rfl (by omega) hL ?_
  refine M.callVm (Ctr.frL wc wm (kX10_years l G kb tl fx fx2 X (b0 2) D L tl2 D2 L2 (b0 3) ((t : Nat) : Int) (u 5) (u 6) hT n hs (by omega) hZ hru ((xs (i + 1)).toInt) ((xs (i + 2)).toInt) (i32b _) (i32b _))) cv_L_76 cd_X10_years rfl (st := []) rfl (in_l hkc) (by decide) (by decide) rfl (by omega) (by omega) ⟨rfl, hE, hKr⟩ (fun r1 w1 q1 => ?_)
  obtain ⟨wc1, ⟨q1r, qK⟩, q1w⟩ := q1
  rw [q1r, q1w]
  refine M.run 5 (pc' := 687) (lv' := [some (vr sb), some (vr kb), some (vr o), some (vi ((i : Nat) : Int))]) (st' := [vi ((i + 1 : Nat) : Int), vr sb, vr o, vi _]) rfl ?_
  refine MX.sld (i + 1) rfl (by omega) hL ?_
  refine M.run 4 (pc' := 692) (lv' := [some (vr sb), some (vr kb), some (vr o), some (vi ((i : Nat) : Int))]) (st' := [vi ((i + 2 : Nat) : Int), vr sb, vi (xs (i + 1)).toInt, vr o, vi _]) rfl ?_
  refine MX.sld (i + 2) rfl (by omega) hL ?_
  refine M.callVm (Ctr.frR wm wc1 (vX11_years l G o (aI o) u tl b0 D L n hT hd hi0 h9 hLk (by omega) (Or.inl hu23) X ⟨hTx, hru.2⟩ ((xs (i + 1)).toInt) ((xs (i + 2)).toInt) (i32b _) (i32b _))) cv_L_79 cd_X11_years rfl (st := [vi _]) rfl (in_r hoc) (by decide) (by decide) rfl (by omega) (by omega) ⟨rfl, hTm⟩ (fun r2 w2 q2 => ?_)
  obtain ⟨wm1, ⟨q2r, qM⟩, q2w⟩ := q2
  rw [hu23] at q2r qM
  rw [q2r, q2w]
  exact M.icmp_same rfl rfl (M.wid (by omega) (by omega) (kk _ _ (LI_C _ hC (PS_mono (by omega) (PS_years hp)) (by unfold sYears; split; rfl; rfl) qK qM)))
def tL_701 : List (Nat × Instr × Nat) := [(701, .aload_n 1, 1), (702, .invokevirtual 80, 3), (705, .aload_n 2, 1), (706, .invokevirtual 83, 3), (709, .if_icmp .eq 1225, 3)]
set_option maxRecDepth 100000 in
theorem tL_701_ok : tL_701.all (fun q => decide (decode cL_law q.1 = .ok q.2)) = true := by decide +kernel
set_option maxHeartbeats 4000000 in
set_option maxRecDepth 100000 in
theorem law_15 (l : Launch) (G : GT) : LSt l G 701 := by
  intro nm ds t0 Qp sz sb Ln xs g kb o n wc wm k ns i MX0 hL hi hn h hk hns hkb kk
  obtain ⟨tl, fx, fx2, X, D, L, tl2, D2, L2, t, u, b0, hC⟩ := h
  have hC0 := hC
  obtain ⟨hp, hp2, h12, hE, hKr, hTm, hIm, hTx, hby, hu4, ht3, hu23⟩ := hC0
  obtain ⟨hT, hd, hJ, hi0, h9, hZ, hru, hs, hsd, hLk, hrg⟩ := PS_all hp
  have hkc := hKr.1
  obtain ⟨oc, hoc⟩ := isT_in hTm
  have MX := MX0.tab tL_701_ok
  have M := MX.S.M
  refine M.run 1 (pc' := 702) (lv' := [some (vr sb), some (vr kb), some (vr o), some (vi ((i : Nat) : Int))]) (st' := [vr kb]) rfl ?_
  refine M.callVm (Ctr.frL wc wm (kX10_undo l G kb tl fx fx2 X (b0 2) D L tl2 D2 L2 (b0 3) ((t : Nat) : Int) (u 5) (u 6) hT n hs (by omega) hZ hru)) cv_L_80 cd_X10_undo rfl (st := []) rfl (in_l hkc) (by decide) (by decide) rfl (by omega) (by omega) ⟨rfl, hE, hKr⟩ (fun r1 w1 q1 => ?_)
  obtain ⟨wc1, ⟨q1r, qK⟩, q1w⟩ := q1
  rw [q1r, q1w]
  refine M.run 1 (pc' := 706) (lv' := [some (vr sb), some (vr kb), some (vr o), some (vi ((i : Nat) : Int))]) (st' := [vr o, vi _]) rfl ?_
  refine M.callVm (Ctr.frR wm wc1 (vX11_undo l G o (aI o) u tl b0 D L n hT hd hLk (by omega))) cv_L_83 cd_X11_undo rfl (st := [vi _]) rfl (in_r hoc) (by decide) (by decide) rfl (by omega) (by omega) ⟨rfl, hTm⟩ (fun r2 w2 q2 => ?_)
  obtain ⟨wm1, ⟨q2r, qM⟩, q2w⟩ := q2
  rw [q2r, q2w]
  exact M.icmp_same rfl rfl (M.wid (by omega) (by omega) (kk _ _ (LI_C _ hC (PS_mono (by omega) (PS_undo hp)) (by unfold sUndo; split; rfl; rfl) qK qM)))
def tL_714 : List (Nat × Instr × Nat) := [(714, .aload_n 1, 1), (715, .aload_n 0, 1), (716, .iload_n 3, 1), (717, .iconst 1, 1), (718, .iadd, 1), (719, .iaload, 1), (720, .aload_n 0, 1), (721, .iload_n 3, 1), (722, .iconst 2, 1), (723, .iadd, 1), (724, .iaload, 1), (725, .invokevirtual 84, 3), (728, .aload_n 2, 1), (729, .aload_n 0, 1), (730, .iload_n 3, 1), (731, .iconst 1, 1), (732, .iadd, 1), (733, .iaload, 1), (734, .aload_n 0, 1), (735, .iload_n 3, 1), (736, .iconst 2, 1), (737, .iadd, 1), (738, .iaload, 1), (739, .invokevirtual 87, 3), (742, .if_icmp .eq 1192, 3)]
set_option maxRecDepth 100000 in
theorem tL_714_ok : tL_714.all (fun q => decide (decode cL_law q.1 = .ok q.2)) = true := by decide +kernel
set_option maxHeartbeats 4000000 in
set_option maxRecDepth 100000 in
theorem law_16 (l : Launch) (G : GT) : LSt l G 714 := by
  intro nm ds t0 Qp sz sb Ln xs g kb o n wc wm k ns i MX0 hL hi hn h hk hns hkb kk
  obtain ⟨tl, fx, fx2, X, D, L, tl2, D2, L2, t, u, b0, hC⟩ := h
  have hC0 := hC
  obtain ⟨hp, hp2, h12, hE, hKr, hTm, hIm, hTx, hby, hu4, ht3, hu23⟩ := hC0
  obtain ⟨hT, hd, hJ, hi0, h9, hZ, hru, hs, hsd, hLk, hrg⟩ := PS_all hp
  have hkc := hKr.1
  obtain ⟨oc, hoc⟩ := isT_in hTm
  have MX := MX0.tab tL_714_ok
  have M := MX.S.M
  refine M.run 5 (pc' := 719) (lv' := [some (vr sb), some (vr kb), some (vr o), some (vi ((i : Nat) : Int))]) (st' := [vi ((i + 1 : Nat) : Int), vr sb, vr kb]) rfl ?_
  refine MX.sld (i + 1) rfl (by omega) hL ?_
  refine M.run 4 (pc' := 724) (lv' := [some (vr sb), some (vr kb), some (vr o), some (vi ((i : Nat) : Int))]) (st' := [vi ((i + 2 : Nat) : Int), vr sb, vi (xs (i + 1)).toInt, vr kb]) rfl ?_
  refine MX.sld (i + 2) rfl (by omega) hL ?_
  refine M.callVm (Ctr.frL wc wm (kX10_of l G kb tl fx fx2 X (b0 2) D L tl2 D2 L2 (b0 3) ((t : Nat) : Int) (u 5) (u 6) hT n hd (by omega) hJ hi0 h9 hZ hru ((xs (i + 1)).toInt) ((xs (i + 2)).toInt) (i32b _) (i32b _))) cv_L_84 cd_X10_of rfl (st := []) rfl (in_l hkc) (by decide) (by decide) rfl (by omega) (by omega) ⟨rfl, hE, hKr⟩ (fun r1 w1 q1 => ?_)
  obtain ⟨wc1, ⟨q1r, q1c⟩, q1w⟩ := q1
  rw [q1r, q1w, q1c]
  refine M.run 5 (pc' := 733) (lv' := [some (vr sb), some (vr kb), some (vr o), some (vi ((i : Nat) : Int))]) (st' := [vi ((i + 1 : Nat) : Int), vr sb, vr o, vi _]) rfl ?_
  refine MX.sld (i + 1) rfl (by omega) hL ?_
  refine M.run 4 (pc' := 738) (lv' := [some (vr sb), some (vr kb), some (vr o), some (vi ((i : Nat) : Int))]) (st' := [vi ((i + 2 : Nat) : Int), vr sb, vi (xs (i + 1)).toInt, vr o, vi _]) rfl ?_
  refine MX.sld (i + 2) rfl (by omega) hL ?_
  refine M.callVm (Ctr.frR wm wc (vX11_of l G o (aI o) u tl b0 D L n hT hd hi0 h9 hLk (by omega) (Or.inl hu23) X ⟨hTx, hru.2⟩ ((xs (i + 1)).toInt) ((xs (i + 2)).toInt) (i32b _) (i32b _))) cv_L_87 cd_X11_of rfl (st := [vi _]) rfl (in_r hoc) (by decide) (by decide) rfl (by omega) (by omega) ⟨rfl, hTm⟩ (fun r2 w2 q2 => ?_)
  obtain ⟨wm1, ⟨q2r, q2c⟩, q2w⟩ := q2
  rw [q2r, q2w, q2c]
  exact M.icmp_same rfl rfl (M.wid (by omega) (by omega) (kk _ _ (LI_A hC)))
def tL_747 : List (Nat × Instr × Nat) := [(747, .aload_n 1, 1), (748, .aload_n 0, 1), (749, .iload_n 3, 1), (750, .iconst 1, 1), (751, .iadd, 1), (752, .iaload, 1), (753, .aload_n 0, 1), (754, .iload_n 3, 1), (755, .iconst 2, 1), (756, .iadd, 1), (757, .iaload, 1), (758, .aload_n 0, 1), (759, .iload_n 3, 1), (760, .iconst 3, 1), (761, .iadd, 1), (762, .iaload, 1), (763, .ifCond .eq 7, 3), (766, .iconst 1, 1), (767, .goto 4, 3), (770, .iconst 0, 1), (771, .invokevirtual 88, 3), (774, .aload_n 2, 1), (775, .aload_n 0, 1), (776, .iload_n 3, 1), (777, .iconst 1, 1), (778, .iadd, 1), (779, .iaload, 1), (780, .aload_n 0, 1), (781, .iload_n 3, 1), (782, .iconst 2, 1), (783, .iadd, 1), (784, .iaload, 1), (785, .aload_n 0, 1), (786, .iload_n 3, 1), (787, .iconst 3, 1), (788, .iadd, 1), (789, .iaload, 1), (790, .ifCond .eq 7, 3), (793, .iconst 1, 1), (794, .goto 4, 3), (797, .iconst 0, 1), (798, .invokevirtual 92, 3), (801, .if_icmp .eq 1133, 3)]
set_option maxRecDepth 100000 in
theorem tL_747_ok : tL_747.all (fun q => decide (decode cL_law q.1 = .ok q.2)) = true := by decide +kernel
set_option maxHeartbeats 4000000 in
set_option maxRecDepth 100000 in
theorem law_17 (l : Launch) (G : GT) : LSt l G 747 := by
  intro nm ds t0 Qp sz sb Ln xs g kb o n wc wm k ns i MX0 hL hi hn h hk hns hkb kk
  obtain ⟨tl, fx, fx2, X, D, L, tl2, D2, L2, t, u, b0, hC⟩ := h
  have hC0 := hC
  obtain ⟨hp, hp2, h12, hE, hKr, hTm, hIm, hTx, hby, hu4, ht3, hu23⟩ := hC0
  obtain ⟨hT, hd, hJ, hi0, h9, hZ, hru, hs, hsd, hLk, hrg⟩ := PS_all hp
  have hkc := hKr.1
  obtain ⟨oc, hoc⟩ := isT_in hTm
  have MX := MX0.tab tL_747_ok
  have M := MX.S.M
  refine M.run 5 (pc' := 752) (lv' := [some (vr sb), some (vr kb), some (vr o), some (vi ((i : Nat) : Int))]) (st' := [vi ((i + 1 : Nat) : Int), vr sb, vr kb]) rfl ?_
  refine MX.sld (i + 1) rfl (by omega) hL ?_
  refine M.run 4 (pc' := 757) (lv' := [some (vr sb), some (vr kb), some (vr o), some (vi ((i : Nat) : Int))]) (st' := [vi ((i + 2 : Nat) : Int), vr sb, vi (xs (i + 1)).toInt, vr kb]) rfl ?_
  refine MX.sld (i + 2) rfl (by omega) hL ?_
  refine M.run 4 (pc' := 762) (lv' := [some (vr sb), some (vr kb), some (vr o), some (vi ((i : Nat) : Int))]) (st' := [vi ((i + 3 : Nat) : Int), vr sb, vi (xs (i + 2)).toInt, vi (xs (i + 1)).toInt, vr kb]) rfl ?_
  refine MX.sld (i + 3) rfl (by omega) hL ?_
  refine M.ibool (tgt := 770) (pcE := 771) rfl (qI (i32b _)) rfl rfl rfl ?_
  refine M.callVm (Ctr.frL wc wm (kX10_claims l G kb tl fx fx2 X (b0 2) D L tl2 D2 L2 (b0 3) ((t : Nat) : Int) (u 5) (u 6) hT n hd (by omega) hJ hi0 h9 hZ hru ((xs (i + 1)).toInt) ((xs (i + 2)).toInt) ((if (xs (i + 3)).toInt = 0 then 0 else 1)) (i32b _) (i32b _) (bz _))) cv_L_88 cd_X10_claims rfl (st := []) rfl (in_l hkc) (by decide) (by decide) rfl (by omega) (by omega) ⟨rfl, hE, hKr⟩ (fun r1 w1 q1 => ?_)
  obtain ⟨wc1, ⟨q1r, q1c⟩, q1w⟩ := q1
  rw [q1r, q1w, q1c]
  refine M.run 5 (pc' := 779) (lv' := [some (vr sb), some (vr kb), some (vr o), some (vi ((i : Nat) : Int))]) (st' := [vi ((i + 1 : Nat) : Int), vr sb, vr o, vi _]) rfl ?_
  refine MX.sld (i + 1) rfl (by omega) hL ?_
  refine M.run 4 (pc' := 784) (lv' := [some (vr sb), some (vr kb), some (vr o), some (vi ((i : Nat) : Int))]) (st' := [vi ((i + 2 : Nat) : Int), vr sb, vi (xs (i + 1)).toInt, vr o, vi _]) rfl ?_
  refine MX.sld (i + 2) rfl (by omega) hL ?_
  refine M.run 4 (pc' := 789) (lv' := [some (vr sb), some (vr kb), some (vr o), some (vi ((i : Nat) : Int))]) (st' := [vi ((i + 3 : Nat) : Int), vr sb, vi (xs (i + 2)).toInt, vi (xs (i + 1)).toInt, vr o, vi _]) rfl ?_
  refine MX.sld (i + 3) rfl (by omega) hL ?_
  refine M.ibool (tgt := 797) (pcE := 798) rfl (qI (i32b _)) rfl rfl rfl ?_
  refine M.callVm (Ctr.frR wm wc (vX11_claims l G o (aI o) u tl b0 D L n hT hd hi0 h9 hLk (by omega) (Or.inl hu23) X ⟨hTx, hru.2⟩ ((xs (i + 1)).toInt) ((xs (i + 2)).toInt) ((if (xs (i + 3)).toInt = 0 then 0 else 1)) (i32b _) (i32b _) (bz _))) cv_L_92 cd_X11_claims rfl (st := [vi _]) rfl (in_r hoc) (by decide) (by decide) rfl (by omega) (by omega) ⟨rfl, hTm⟩ (fun r2 w2 q2 => ?_)
  obtain ⟨wm1, ⟨q2r, q2c⟩, q2w⟩ := q2
  rw [q2r, q2w, q2c]
  exact M.icmp_same rfl rfl (M.wid (by omega) (by omega) (kk _ _ (LI_A hC)))
def tL_806 : List (Nat × Instr × Nat) := [(806, .aload_n 1, 1), (807, .aload_n 0, 1), (808, .iload_n 3, 1), (809, .iconst 1, 1), (810, .iadd, 1), (811, .iaload, 1), (812, .aload_n 0, 1), (813, .iload_n 3, 1), (814, .iconst 2, 1), (815, .iadd, 1), (816, .iaload, 1), (817, .aload_n 0, 1), (818, .iload_n 3, 1), (819, .iconst 3, 1), (820, .iadd, 1), (821, .iaload, 1), (822, .ifCond .eq 7, 3), (825, .iconst 1, 1), (826, .goto 4, 3), (829, .iconst 0, 1), (830, .invokevirtual 93, 3), (833, .aload_n 2, 1), (834, .aload_n 0, 1), (835, .iload_n 3, 1), (836, .iconst 1, 1), (837, .iadd, 1), (838, .iaload, 1), (839, .aload_n 0, 1), (840, .iload_n 3, 1), (841, .iconst 2, 1), (842, .iadd, 1), (843, .iaload, 1), (844, .aload_n 0, 1), (845, .iload_n 3, 1), (846, .iconst 3, 1), (847, .iadd, 1), (848, .iaload, 1), (849, .ifCond .eq 7, 3), (852, .iconst 1, 1), (853, .goto 4, 3), (856, .iconst 0, 1), (857, .invokevirtual 96, 3), (860, .if_icmp .eq 1074, 3)]
set_option maxRecDepth 100000 in
theorem tL_806_ok : tL_806.all (fun q => decide (decode cL_law q.1 = .ok q.2)) = true := by decide +kernel
set_option maxHeartbeats 4000000 in
set_option maxRecDepth 100000 in
theorem law_18 (l : Launch) (G : GT) : LSt l G 806 := by
  intro nm ds t0 Qp sz sb Ln xs g kb o n wc wm k ns i MX0 hL hi hn h hk hns hkb kk
  obtain ⟨tl, fx, fx2, X, D, L, tl2, D2, L2, t, u, b0, hC⟩ := h
  have hC0 := hC
  obtain ⟨hp, hp2, h12, hE, hKr, hTm, hIm, hTx, hby, hu4, ht3, hu23⟩ := hC0
  obtain ⟨hT, hd, hJ, hi0, h9, hZ, hru, hs, hsd, hLk, hrg⟩ := PS_all hp
  have hkc := hKr.1
  obtain ⟨oc, hoc⟩ := isT_in hTm
  have MX := MX0.tab tL_806_ok
  have M := MX.S.M
  refine M.run 5 (pc' := 811) (lv' := [some (vr sb), some (vr kb), some (vr o), some (vi ((i : Nat) : Int))]) (st' := [vi ((i + 1 : Nat) : Int), vr sb, vr kb]) rfl ?_
  refine MX.sld (i + 1) rfl (by omega) hL ?_
  refine M.run 4 (pc' := 816) (lv' := [some (vr sb), some (vr kb), some (vr o), some (vi ((i : Nat) : Int))]) (st' := [vi ((i + 2 : Nat) : Int), vr sb, vi (xs (i + 1)).toInt, vr kb]) rfl ?_
  refine MX.sld (i + 2) rfl (by omega) hL ?_
  refine M.run 4 (pc' := 821) (lv' := [some (vr sb), some (vr kb), some (vr o), some (vi ((i : Nat) : Int))]) (st' := [vi ((i + 3 : Nat) : Int), vr sb, vi (xs (i + 2)).toInt, vi (xs (i + 1)).toInt, vr kb]) rfl ?_
  refine MX.sld (i + 3) rfl (by omega) hL ?_
  refine M.ibool (tgt := 829) (pcE := 830) rfl (qI (i32b _)) rfl rfl rfl ?_
  refine M.callVm (Ctr.frL wc wm (kX10_gaps l G kb tl fx fx2 X (b0 2) D L tl2 D2 L2 (b0 3) ((t : Nat) : Int) (u 5) (u 6) hT n hd (by omega) hJ hi0 h9 hZ hru ((xs (i + 1)).toInt) ((xs (i + 2)).toInt) ((if (xs (i + 3)).toInt = 0 then 0 else 1)) (i32b _) (i32b _) (bz _))) cv_L_93 cd_X10_gaps rfl (st := []) rfl (in_l hkc) (by decide) (by decide) rfl (by omega) (by omega) ⟨rfl, hE, hKr⟩ (fun r1 w1 q1 => ?_)
  obtain ⟨wc1, ⟨q1r, q1c⟩, q1w⟩ := q1
  rw [q1r, q1w, q1c]
  refine M.run 5 (pc' := 838) (lv' := [some (vr sb), some (vr kb), some (vr o), some (vi ((i : Nat) : Int))]) (st' := [vi ((i + 1 : Nat) : Int), vr sb, vr o, vi _]) rfl ?_
  refine MX.sld (i + 1) rfl (by omega) hL ?_
  refine M.run 4 (pc' := 843) (lv' := [some (vr sb), some (vr kb), some (vr o), some (vi ((i : Nat) : Int))]) (st' := [vi ((i + 2 : Nat) : Int), vr sb, vi (xs (i + 1)).toInt, vr o, vi _]) rfl ?_
  refine MX.sld (i + 2) rfl (by omega) hL ?_
  refine M.run 4 (pc' := 848) (lv' := [some (vr sb), some (vr kb), some (vr o), some (vi ((i : Nat) : Int))]) (st' := [vi ((i + 3 : Nat) : Int), vr sb, vi (xs (i + 2)).toInt, vi (xs (i + 1)).toInt, vr o, vi _]) rfl ?_
  refine MX.sld (i + 3) rfl (by omega) hL ?_
  refine M.ibool (tgt := 856) (pcE := 857) rfl (qI (i32b _)) rfl rfl rfl ?_
  refine M.callVm (Ctr.frR wm wc (vX11_gaps l G o (aI o) u tl b0 D L n hT hd hi0 h9 hLk (by omega) (Or.inl hu23) X ⟨hTx, hru.2⟩ ((xs (i + 1)).toInt) ((xs (i + 2)).toInt) ((if (xs (i + 3)).toInt = 0 then 0 else 1)) (i32b _) (i32b _) (bz _))) cv_L_96 cd_X11_gaps rfl (st := [vi _]) rfl (in_r hoc) (by decide) (by decide) rfl (by omega) (by omega) ⟨rfl, hTm⟩ (fun r2 w2 q2 => ?_)
  obtain ⟨wm1, ⟨q2r, q2c⟩, q2w⟩ := q2
  rw [q2r, q2w, q2c]
  exact M.icmp_same rfl rfl (M.wid (by omega) (by omega) (kk _ _ (LI_A hC)))
def tL_865 : List (Nat × Instr × Nat) := [(865, .aload_n 1, 1), (866, .aload_n 0, 1), (867, .iload_n 3, 1), (868, .iconst 1, 1), (869, .iadd, 1), (870, .iaload, 1), (871, .aload_n 0, 1), (872, .iload_n 3, 1), (873, .iconst 2, 1), (874, .iadd, 1), (875, .iaload, 1), (876, .aload_n 0, 1), (877, .iload_n 3, 1), (878, .iconst 3, 1), (879, .iadd, 1), (880, .iaload, 1), (881, .ifCond .eq 7, 3), (884, .iconst 1, 1), (885, .goto 4, 3), (888, .iconst 0, 1), (889, .invokevirtual 97, 3), (892, .aload_n 2, 1), (893, .aload_n 0, 1), (894, .iload_n 3, 1), (895, .iconst 1, 1), (896, .iadd, 1), (897, .iaload, 1), (898, .aload_n 0, 1), (899, .iload_n 3, 1), (900, .iconst 2, 1), (901, .iadd, 1), (902, .iaload, 1), (903, .aload_n 0, 1), (904, .iload_n 3, 1), (905, .iconst 3, 1), (906, .iadd, 1), (907, .iaload, 1), (908, .ifCond .eq 7, 3), (911, .iconst 1, 1), (912, .goto 4, 3), (915, .iconst 0, 1), (916, .invokevirtual 100, 3), (919, .if_icmp .eq 1015, 3)]
set_option maxRecDepth 100000 in
theorem tL_865_ok : tL_865.all (fun q => decide (decode cL_law q.1 = .ok q.2)) = true := by decide +kernel
set_option maxHeartbeats 4000000 in
set_option maxRecDepth 100000 in
theorem law_19 (l : Launch) (G : GT) : LSt l G 865 := by
  intro nm ds t0 Qp sz sb Ln xs g kb o n wc wm k ns i MX0 hL hi hn h hk hns hkb kk
  obtain ⟨tl, fx, fx2, X, D, L, tl2, D2, L2, t, u, b0, hC⟩ := h
  have hC0 := hC
  obtain ⟨hp, hp2, h12, hE, hKr, hTm, hIm, hTx, hby, hu4, ht3, hu23⟩ := hC0
  obtain ⟨hT, hd, hJ, hi0, h9, hZ, hru, hs, hsd, hLk, hrg⟩ := PS_all hp
  have hkc := hKr.1
  obtain ⟨oc, hoc⟩ := isT_in hTm
  have MX := MX0.tab tL_865_ok
  have M := MX.S.M
  refine M.run 5 (pc' := 870) (lv' := [some (vr sb), some (vr kb), some (vr o), some (vi ((i : Nat) : Int))]) (st' := [vi ((i + 1 : Nat) : Int), vr sb, vr kb]) rfl ?_
  refine MX.sld (i + 1) rfl (by omega) hL ?_
  refine M.run 4 (pc' := 875) (lv' := [some (vr sb), some (vr kb), some (vr o), some (vi ((i : Nat) : Int))]) (st' := [vi ((i + 2 : Nat) : Int), vr sb, vi (xs (i + 1)).toInt, vr kb]) rfl ?_
  refine MX.sld (i + 2) rfl (by omega) hL ?_
  refine M.run 4 (pc' := 880) (lv' := [some (vr sb), some (vr kb), some (vr o), some (vi ((i : Nat) : Int))]) (st' := [vi ((i + 3 : Nat) : Int), vr sb, vi (xs (i + 2)).toInt, vi (xs (i + 1)).toInt, vr kb]) rfl ?_
  refine MX.sld (i + 3) rfl (by omega) hL ?_
  refine M.ibool (tgt := 888) (pcE := 889) rfl (qI (i32b _)) rfl rfl rfl ?_
  refine M.callVm (Ctr.frL wc wm (kX10_come l G kb tl fx fx2 X (b0 2) D L tl2 D2 L2 (b0 3) ((t : Nat) : Int) (u 5) (u 6) hT n hd (by omega) hJ hi0 h9 hZ hru ((xs (i + 1)).toInt) ((xs (i + 2)).toInt) ((if (xs (i + 3)).toInt = 0 then 0 else 1)) (i32b _) (i32b _) (bz _))) cv_L_97 cd_X10_come rfl (st := []) rfl (in_l hkc) (by decide) (by decide) rfl (by omega) (by omega) ⟨rfl, hE, hKr⟩ (fun r1 w1 q1 => ?_)
  obtain ⟨wc1, ⟨q1r, q1c⟩, q1w⟩ := q1
  rw [q1r, q1w, q1c]
  refine M.run 5 (pc' := 897) (lv' := [some (vr sb), some (vr kb), some (vr o), some (vi ((i : Nat) : Int))]) (st' := [vi ((i + 1 : Nat) : Int), vr sb, vr o, vi _]) rfl ?_
  refine MX.sld (i + 1) rfl (by omega) hL ?_
  refine M.run 4 (pc' := 902) (lv' := [some (vr sb), some (vr kb), some (vr o), some (vi ((i : Nat) : Int))]) (st' := [vi ((i + 2 : Nat) : Int), vr sb, vi (xs (i + 1)).toInt, vr o, vi _]) rfl ?_
  refine MX.sld (i + 2) rfl (by omega) hL ?_
  refine M.run 4 (pc' := 907) (lv' := [some (vr sb), some (vr kb), some (vr o), some (vi ((i : Nat) : Int))]) (st' := [vi ((i + 3 : Nat) : Int), vr sb, vi (xs (i + 2)).toInt, vi (xs (i + 1)).toInt, vr o, vi _]) rfl ?_
  refine MX.sld (i + 3) rfl (by omega) hL ?_
  refine M.ibool (tgt := 915) (pcE := 916) rfl (qI (i32b _)) rfl rfl rfl ?_
  refine M.callVm (Ctr.frR wm wc (vX11_come l G o (aI o) u tl b0 D L n hT hd hi0 h9 hLk (by omega) (Or.inl hu23) X ⟨hTx, hru.2⟩ ((xs (i + 1)).toInt) ((xs (i + 2)).toInt) ((if (xs (i + 3)).toInt = 0 then 0 else 1)) (i32b _) (i32b _) (bz _))) cv_L_100 cd_X11_come rfl (st := [vi _]) rfl (in_r hoc) (by decide) (by decide) rfl (by omega) (by omega) ⟨rfl, hTm⟩ (fun r2 w2 q2 => ?_)
  obtain ⟨wm1, ⟨q2r, q2c⟩, q2w⟩ := q2
  rw [q2r, q2w, q2c]
  exact M.icmp_same rfl rfl (M.wid (by omega) (by omega) (kk _ _ (LI_A hC)))
