/-! the law: cases 0, 1, 2, 3, 4, 5, 6, 7, 8, 9 -/
theorem win_1 {tl : Nat → Int} {x f z : Int} : uN (uN (uN tl 9 x) 10 f) 11 z 1 = tl 1 := by rw [uN_o (by decide), uN_o (by decide), uN_o (by decide)]
theorem sBy_1 {x : Int} {S : TS} : (sBy x S).1 1 = S.1 1 := by
  unfold sBy
  split
  · exact uN_o (f := S.1) (k := 2) (v := x) (show (1 : Nat) ≠ 2 by decide)
  · rfl
theorem u_1 {tl : Nat → Int} {k : Nat} {v : Int} (hk : 1 ≠ k) : uN tl k v 1 = tl 1 := uN_o hk
theorem sBlk_eq {x y : Int} {tl : Nat → Int} {D : Dy} {L : List Dy} : ((if bkC tl x y then uN (uN (uN tl (12 + (tl 0).toNat) x) (15 + (tl 0).toNat) y) 0 (tl 0 + 1) else tl, D, L) : TS) = sBlock x y (tl, D, L) := by
  unfold sBlock
  split <;> rfl
theorem sBy_eq {x : Int} {tl : Nat → Int} {D : Dy} {L : List Dy} : ((if -1 ≤ x ∧ x ≤ tl 1 - 1 then uN tl 2 x else tl, D, L) : TS) = sBy x (tl, D, L) := by
  unfold sBy
  split <;> rfl
def tL_276 : List (Nat × Instr × Nat) := [(276, .aload_n 1, 1), (277, .aload_n 0, 1), (278, .iload_n 3, 1), (279, .iconst 1, 1), (280, .iadd, 1), (281, .iaload, 1), (282, .aload_n 0, 1), (283, .iload_n 3, 1), (284, .iconst 2, 1), (285, .iadd, 1), (286, .iaload, 1), (287, .invokevirtual 13, 3), (290, .aload_n 2, 1), (291, .aload_n 0, 1), (292, .iload_n 3, 1), (293, .iconst 1, 1), (294, .iadd, 1), (295, .iaload, 1), (296, .aload_n 0, 1), (297, .iload_n 3, 1), (298, .iconst 2, 1), (299, .iadd, 1), (300, .iaload, 1), (301, .invokevirtual 17, 3), (304, .if_icmp .eq 1630, 3)]
set_option maxRecDepth 100000 in
theorem tL_276_ok : tL_276.all (fun q => decide (decode cL_law q.1 = .ok q.2)) = true := by decide +kernel
set_option maxHeartbeats 4000000 in
set_option maxRecDepth 100000 in
theorem law_0 (l : Launch) (G : GT) : LSt l G 276 := by
  intro nm ds t0 Qp sz sb Ln xs g kb o n wc wm k ns i MX0 hL hi hn h hk hns hkb kk
  obtain ⟨tl, fx, fx2, X, D, L, tl2, D2, L2, t, u, b0, hC⟩ := h
  have hC0 := hC
  obtain ⟨hp, hp2, h12, hE, hKr, hTm, hIm, hTx, hby, hu4, ht3, hu23⟩ := hC0
  obtain ⟨hT, hd, hJ, hi0, h9, hZ, hru, hs, hsd, hLk, hrg⟩ := PS_all hp
  have hkc := hKr.1
  obtain ⟨oc, hoc⟩ := isT_in hTm
  have MX := MX0.tab tL_276_ok
  have M := MX.S.M
  refine M.run 5 (pc' := 281) (lv' := [some (vr sb), some (vr kb), some (vr o), some (vi ((i : Nat) : Int))]) (st' := [vi ((i + 1 : Nat) : Int), vr sb, vr kb]) rfl ?_
  refine MX.sld (i + 1) rfl (by omega) hL ?_
  refine M.run 4 (pc' := 286) (lv' := [some (vr sb), some (vr kb), some (vr o), some (vi ((i : Nat) : Int))]) (st' := [vi ((i + 2 : Nat) : Int), vr sb, vi (xs (i + 1)).toInt, vr kb]) rfl ?_
  refine MX.sld (i + 2) rfl (by omega) hL ?_
  refine M.callVm (Ctr.frL wc wm (kX10_block l G kb tl fx fx2 X (b0 2) D L tl2 D2 L2 (b0 3) ((t : Nat) : Int) (u 5) (u 6) hT n hd (by omega) hJ hi0 h9 hZ hru ((xs (i + 1)).toInt) ((xs (i + 2)).toInt) (i32b _) (i32b _))) cv_L_13 cd_X10_block rfl (st := []) rfl (in_l hkc) (by decide) (by decide) rfl (by omega) (by omega) ⟨rfl, hE, hKr⟩ (fun r1 w1 q1 => ?_)
  obtain ⟨wc1, ⟨q1r, qK⟩, q1w⟩ := q1
  rw [q1r, q1w]
  refine M.run 5 (pc' := 295) (lv' := [some (vr sb), some (vr kb), some (vr o), some (vi ((i : Nat) : Int))]) (st' := [vi ((i + 1 : Nat) : Int), vr sb, vr o, vi _]) rfl ?_
  refine MX.sld (i + 1) rfl (by omega) hL ?_
  refine M.run 4 (pc' := 300) (lv' := [some (vr sb), some (vr kb), some (vr o), some (vi ((i : Nat) : Int))]) (st' := [vi ((i + 2 : Nat) : Int), vr sb, vi (xs (i + 1)).toInt, vr o, vi _]) rfl ?_
  refine MX.sld (i + 2) rfl (by omega) hL ?_
  refine M.callVm (Ctr.frR wm wc1 (vX11_block l G o (aI o) u tl b0 D L n hT hd hi0 h9 hLk (by omega) (Or.inl hu23) X ⟨hTx, hru.2⟩ ((xs (i + 1)).toInt) ((xs (i + 2)).toInt) (i32b _) (i32b _))) cv_L_17 cd_X11_block rfl (st := [vi _]) rfl (in_r hoc) (by decide) (by decide) rfl (by omega) (by omega) ⟨rfl, hTm⟩ (fun r2 w2 q2 => ?_)
  obtain ⟨wm1, ⟨q2r, qM⟩, q2w⟩ := q2
  rw [q2r, q2w]
  rw [sBlk_eq] at qK
  exact M.icmp_same rfl rfl (M.wid (by omega) (by omega) (kk _ _ (LI_C _ hC (PS_mono (by omega) (PS_block hp)) (sBlock_12 (S := (tl, D, L)) (show 0 ≤ tl 0 from (hT.1 0 (by decide)).1) (Or.inl rfl)) qK qM)))
def tL_309 : List (Nat × Instr × Nat) := [(309, .aload_n 1, 1), (310, .aload_n 0, 1), (311, .iload_n 3, 1), (312, .iconst 1, 1), (313, .iadd, 1), (314, .iaload, 1), (315, .aload_n 0, 1), (316, .iload_n 3, 1), (317, .iconst 2, 1), (318, .iadd, 1), (319, .iaload, 1), (320, .aload_n 0, 1), (321, .iload_n 3, 1), (322, .iconst 3, 1), (323, .iadd, 1), (324, .iaload, 1), (325, .invokevirtual 18, 3), (328, .aload_n 2, 1), (329, .aload_n 0, 1), (330, .iload_n 3, 1), (331, .iconst 1, 1), (332, .iadd, 1), (333, .iaload, 1), (334, .aload_n 0, 1), (335, .iload_n 3, 1), (336, .iconst 2, 1), (337, .iadd, 1), (338, .iaload, 1), (339, .aload_n 0, 1), (340, .iload_n 3, 1), (341, .iconst 3, 1), (342, .iadd, 1), (343, .iaload, 1), (344, .invokevirtual 22, 3), (347, .if_icmp .eq 1587, 3)]
set_option maxRecDepth 100000 in
theorem tL_309_ok : tL_309.all (fun q => decide (decode cL_law q.1 = .ok q.2)) = true := by decide +kernel
set_option maxHeartbeats 4000000 in
set_option maxRecDepth 100000 in
theorem law_1 (l : Launch) (G : GT) : LSt l G 309 := by
  intro nm ds t0 Qp sz sb Ln xs g kb o n wc wm k ns i MX0 hL hi hn h hk hns hkb kk
  obtain ⟨tl, fx, fx2, X, D, L, tl2, D2, L2, t, u, b0, hC⟩ := h
  have hC0 := hC
  obtain ⟨hp, hp2, h12, hE, hKr, hTm, hIm, hTx, hby, hu4, ht3, hu23⟩ := hC0
  obtain ⟨hT, hd, hJ, hi0, h9, hZ, hru, hs, hsd, hLk, hrg⟩ := PS_all hp
  have hkc := hKr.1
  obtain ⟨oc, hoc⟩ := isT_in hTm
  have MX := MX0.tab tL_309_ok
  have M := MX.S.M
  refine M.run 5 (pc' := 314) (lv' := [some (vr sb), some (vr kb), some (vr o), some (vi ((i : Nat) : Int))]) (st' := [vi ((i + 1 : Nat) : Int), vr sb, vr kb]) rfl ?_
  refine MX.sld (i + 1) rfl (by omega) hL ?_
  refine M.run 4 (pc' := 319) (lv' := [some (vr sb), some (vr kb), some (vr o), some (vi ((i : Nat) : Int))]) (st' := [vi ((i + 2 : Nat) : Int), vr sb, vi (xs (i + 1)).toInt, vr kb]) rfl ?_
  refine MX.sld (i + 2) rfl (by omega) hL ?_
  refine M.run 4 (pc' := 324) (lv' := [some (vr sb), some (vr kb), some (vr o), some (vi ((i : Nat) : Int))]) (st' := [vi ((i + 3 : Nat) : Int), vr sb, vi (xs (i + 2)).toInt, vi (xs (i + 1)).toInt, vr kb]) rfl ?_
  refine MX.sld (i + 3) rfl (by omega) hL ?_
  refine M.callVm (Ctr.frL wc wm (kX10_window l G kb tl fx fx2 X (b0 2) D L tl2 D2 L2 (b0 3) ((t : Nat) : Int) (u 5) (u 6) hT n hd (by omega) hJ hi0 h9 hZ hru ((xs (i + 1)).toInt) ((xs (i + 2)).toInt) ((xs (i + 3)).toInt) (i32b _) (i32b _) (i32b _))) cv_L_18 cd_X10_window rfl (st := []) rfl (in_l hkc) (by decide) (by decide) rfl (by omega) (by omega) ⟨rfl, hE, hKr⟩ (fun r1 w1 q1 => ?_)
  obtain ⟨wc1, ⟨q1r, qK⟩, q1w⟩ := q1
  rw [q1r, q1w]
  refine M.run 5 (pc' := 333) (lv' := [some (vr sb), some (vr kb), some (vr o), some (vi ((i : Nat) : Int))]) (st' := [vi ((i + 1 : Nat) : Int), vr sb, vr o, vi _]) rfl ?_
  refine MX.sld (i + 1) rfl (by omega) hL ?_
  refine M.run 4 (pc' := 338) (lv' := [some (vr sb), some (vr kb), some (vr o), some (vi ((i : Nat) : Int))]) (st' := [vi ((i + 2 : Nat) : Int), vr sb, vi (xs (i + 1)).toInt, vr o, vi _]) rfl ?_
  refine MX.sld (i + 2) rfl (by omega) hL ?_
  refine M.run 4 (pc' := 343) (lv' := [some (vr sb), some (vr kb), some (vr o), some (vi ((i : Nat) : Int))]) (st' := [vi ((i + 3 : Nat) : Int), vr sb, vi (xs (i + 2)).toInt, vi (xs (i + 1)).toInt, vr o, vi _]) rfl ?_
  refine MX.sld (i + 3) rfl (by omega) hL ?_
  refine M.callVm (Ctr.frR wm wc1 (vX11_window l G o (aI o) u tl b0 D L n hd ((xs (i + 1)).toInt) ((xs (i + 2)).toInt) ((xs (i + 3)).toInt) (i32b _) (i32b _) (i32b _))) cv_L_22 cd_X11_window rfl (st := [vi _]) rfl (in_r hoc) (by decide) (by decide) rfl (by omega) (by omega) ⟨rfl, hTm⟩ (fun r2 w2 q2 => ?_)
  obtain ⟨wm1, ⟨q2r, qM⟩, q2w⟩ := q2
  rw [q2r, q2w]
  refine M.icmp_same rfl rfl (M.wid (by omega) (by omega) (kk _ _ (LI_C _ hC ?_ ?_ qK qM)))
  · split
    · rename_i hq
      exact PS_mono (by omega) (PS_window hp hq)
    · exact PS_mono (by omega) hp
  · split
    · exact win_1 (tl := tl) (x := (xs (i + 1)).toInt) (f := (xs (i + 2)).toInt) (z := (xs (i + 3)).toInt)
    · rfl
def tL_352 : List (Nat × Instr × Nat) := [(352, .aload_n 1, 1), (353, .aload_n 0, 1), (354, .iload_n 3, 1), (355, .iconst 1, 1), (356, .iadd, 1), (357, .iaload, 1), (358, .invokevirtual 23, 3), (361, .aload_n 2, 1), (362, .aload_n 0, 1), (363, .iload_n 3, 1), (364, .iconst 1, 1), (365, .iadd, 1), (366, .iaload, 1), (367, .invokevirtual 27, 3), (370, .if_icmp .eq 1564, 3)]
set_option maxRecDepth 100000 in
theorem tL_352_ok : tL_352.all (fun q => decide (decode cL_law q.1 = .ok q.2)) = true := by decide +kernel
set_option maxHeartbeats 4000000 in
set_option maxRecDepth 100000 in
theorem law_2 (l : Launch) (G : GT) : LSt l G 352 := by
  intro nm ds t0 Qp sz sb Ln xs g kb o n wc wm k ns i MX0 hL hi hn h hk hns hkb kk
  obtain ⟨tl, fx, fx2, X, D, L, tl2, D2, L2, t, u, b0, hC⟩ := h
  have hC0 := hC
  obtain ⟨hp, hp2, h12, hE, hKr, hTm, hIm, hTx, hby, hu4, ht3, hu23⟩ := hC0
  obtain ⟨hT, hd, hJ, hi0, h9, hZ, hru, hs, hsd, hLk, hrg⟩ := PS_all hp
  have hkc := hKr.1
  obtain ⟨oc, hoc⟩ := isT_in hTm
  have MX := MX0.tab tL_352_ok
  have M := MX.S.M
  refine M.run 5 (pc' := 357) (lv' := [some (vr sb), some (vr kb), some (vr o), some (vi ((i : Nat) : Int))]) (st' := [vi ((i + 1 : Nat) : Int), vr sb, vr kb]) rfl ?_
  refine MX.sld (i + 1) rfl (by omega) hL ?_
  refine M.callVm (Ctr.frL wc wm (kX10_delay l G kb tl fx fx2 X (b0 2) D L tl2 D2 L2 (b0 3) ((t : Nat) : Int) (u 5) (u 6) hT n hd (by omega) hJ hi0 h9 hZ hru ((xs (i + 1)).toInt) (i32b _))) cv_L_23 cd_X10_delay rfl (st := []) rfl (in_l hkc) (by decide) (by decide) rfl (by omega) (by omega) ⟨rfl, hE, hKr⟩ (fun r1 w1 q1 => ?_)
  obtain ⟨wc1, ⟨q1r, qK⟩, q1w⟩ := q1
  rw [q1r, q1w]
  refine M.run 5 (pc' := 366) (lv' := [some (vr sb), some (vr kb), some (vr o), some (vi ((i : Nat) : Int))]) (st' := [vi ((i + 1 : Nat) : Int), vr sb, vr o, vi _]) rfl ?_
  refine MX.sld (i + 1) rfl (by omega) hL ?_
  refine M.callVm (Ctr.frR wm wc1 (vX11_delay l G o (aI o) u tl b0 D L n hd ((xs (i + 1)).toInt) (i32b _))) cv_L_27 cd_X11_delay rfl (st := [vi _]) rfl (in_r hoc) (by decide) (by decide) rfl (by omega) (by omega) ⟨rfl, hTm⟩ (fun r2 w2 q2 => ?_)
  obtain ⟨wm1, ⟨q2r, qM⟩, q2w⟩ := q2
  rw [q2r, q2w]
  refine M.icmp_same rfl rfl (M.wid (by omega) (by omega) (kk _ _ (LI_C _ hC ?_ ?_ qK qM)))
  · split
    · rename_i hq
      exact PS_mono (by omega) (PS_u (k := 6) hp (by decide) hq)
    · exact PS_mono (by omega) hp
  · split
    · exact u_1 (tl := tl) (k := 6) (v := (xs (i + 1)).toInt) (by decide)
    · rfl
def tL_375 : List (Nat × Instr × Nat) := [(375, .aload_n 1, 1), (376, .aload_n 0, 1), (377, .iload_n 3, 1), (378, .iconst 1, 1), (379, .iadd, 1), (380, .iaload, 1), (381, .invokevirtual 28, 3), (384, .aload_n 2, 1), (385, .aload_n 0, 1), (386, .iload_n 3, 1), (387, .iconst 1, 1), (388, .iadd, 1), (389, .iaload, 1), (390, .invokevirtual 31, 3), (393, .if_icmp .eq 1541, 3)]
set_option maxRecDepth 100000 in
theorem tL_375_ok : tL_375.all (fun q => decide (decode cL_law q.1 = .ok q.2)) = true := by decide +kernel
set_option maxHeartbeats 4000000 in
set_option maxRecDepth 100000 in
theorem law_3 (l : Launch) (G : GT) : LSt l G 375 := by
  intro nm ds t0 Qp sz sb Ln xs g kb o n wc wm k ns i MX0 hL hi hn h hk hns hkb kk
  obtain ⟨tl, fx, fx2, X, D, L, tl2, D2, L2, t, u, b0, hC⟩ := h
  have hC0 := hC
  obtain ⟨hp, hp2, h12, hE, hKr, hTm, hIm, hTx, hby, hu4, ht3, hu23⟩ := hC0
  obtain ⟨hT, hd, hJ, hi0, h9, hZ, hru, hs, hsd, hLk, hrg⟩ := PS_all hp
  have hkc := hKr.1
  obtain ⟨oc, hoc⟩ := isT_in hTm
  have MX := MX0.tab tL_375_ok
  have M := MX.S.M
  refine M.run 5 (pc' := 380) (lv' := [some (vr sb), some (vr kb), some (vr o), some (vi ((i : Nat) : Int))]) (st' := [vi ((i + 1 : Nat) : Int), vr sb, vr kb]) rfl ?_
  refine MX.sld (i + 1) rfl (by omega) hL ?_
  refine M.callVm (Ctr.frL wc wm (kX10_size l G kb tl fx fx2 X (b0 2) D L tl2 D2 L2 (b0 3) ((t : Nat) : Int) (u 5) (u 6) hT n hd (by omega) hJ hi0 h9 hZ hru ((xs (i + 1)).toInt) (i32b _))) cv_L_28 cd_X10_size rfl (st := []) rfl (in_l hkc) (by decide) (by decide) rfl (by omega) (by omega) ⟨rfl, hE, hKr⟩ (fun r1 w1 q1 => ?_)
  obtain ⟨wc1, ⟨q1r, qK⟩, q1w⟩ := q1
  rw [q1r, q1w]
  refine M.run 5 (pc' := 389) (lv' := [some (vr sb), some (vr kb), some (vr o), some (vi ((i : Nat) : Int))]) (st' := [vi ((i + 1 : Nat) : Int), vr sb, vr o, vi _]) rfl ?_
  refine MX.sld (i + 1) rfl (by omega) hL ?_
  refine M.callVm (Ctr.frR wm wc1 (vX11_size l G o (aI o) u tl b0 D L n hd ((xs (i + 1)).toInt) (i32b _))) cv_L_31 cd_X11_size rfl (st := [vi _]) rfl (in_r hoc) (by decide) (by decide) rfl (by omega) (by omega) ⟨rfl, hTm⟩ (fun r2 w2 q2 => ?_)
  obtain ⟨wm1, ⟨q2r, qM⟩, q2w⟩ := q2
  rw [q2r, q2w]
  refine M.icmp_same rfl rfl (M.wid (by omega) (by omega) (kk _ _ (LI_C _ hC ?_ ?_ qK qM)))
  · split
    · rename_i hq
      exact PS_mono (by omega) (PS_u (k := 7) hp (by decide) hq)
    · exact PS_mono (by omega) hp
  · split
    · exact u_1 (tl := tl) (k := 7) (v := (xs (i + 1)).toInt) (by decide)
    · rfl
def tL_398 : List (Nat × Instr × Nat) := [(398, .aload_n 1, 1), (399, .aload_n 0, 1), (400, .iload_n 3, 1), (401, .iconst 1, 1), (402, .iadd, 1), (403, .iaload, 1), (404, .invokevirtual 32, 3), (407, .aload_n 2, 1), (408, .aload_n 0, 1), (409, .iload_n 3, 1), (410, .iconst 1, 1), (411, .iadd, 1), (412, .iaload, 1), (413, .invokevirtual 35, 3), (416, .if_icmp .eq 1518, 3)]
set_option maxRecDepth 100000 in
theorem tL_398_ok : tL_398.all (fun q => decide (decode cL_law q.1 = .ok q.2)) = true := by decide +kernel
set_option maxHeartbeats 4000000 in
set_option maxRecDepth 100000 in
theorem law_4 (l : Launch) (G : GT) : LSt l G 398 := by
  intro nm ds t0 Qp sz sb Ln xs g kb o n wc wm k ns i MX0 hL hi hn h hk hns hkb kk
  obtain ⟨tl, fx, fx2, X, D, L, tl2, D2, L2, t, u, b0, hC⟩ := h
  have hC0 := hC
  obtain ⟨hp, hp2, h12, hE, hKr, hTm, hIm, hTx, hby, hu4, ht3, hu23⟩ := hC0
  obtain ⟨hT, hd, hJ, hi0, h9, hZ, hru, hs, hsd, hLk, hrg⟩ := PS_all hp
  have hkc := hKr.1
  obtain ⟨oc, hoc⟩ := isT_in hTm
  have MX := MX0.tab tL_398_ok
  have M := MX.S.M
  refine M.run 5 (pc' := 403) (lv' := [some (vr sb), some (vr kb), some (vr o), some (vi ((i : Nat) : Int))]) (st' := [vi ((i + 1 : Nat) : Int), vr sb, vr kb]) rfl ?_
  refine MX.sld (i + 1) rfl (by omega) hL ?_
  refine M.callVm (Ctr.frL wc wm (kX10_tries l G kb tl fx fx2 X (b0 2) D L tl2 D2 L2 (b0 3) ((t : Nat) : Int) (u 5) (u 6) hT n hd (by omega) hJ hi0 h9 hZ hru ((xs (i + 1)).toInt) (i32b _))) cv_L_32 cd_X10_tries rfl (st := []) rfl (in_l hkc) (by decide) (by decide) rfl (by omega) (by omega) ⟨rfl, hE, hKr⟩ (fun r1 w1 q1 => ?_)
  obtain ⟨wc1, ⟨q1r, qK⟩, q1w⟩ := q1
  rw [q1r, q1w]
  refine M.run 5 (pc' := 412) (lv' := [some (vr sb), some (vr kb), some (vr o), some (vi ((i : Nat) : Int))]) (st' := [vi ((i + 1 : Nat) : Int), vr sb, vr o, vi _]) rfl ?_
  refine MX.sld (i + 1) rfl (by omega) hL ?_
  refine M.callVm (Ctr.frR wm wc1 (vX11_tries l G o (aI o) u tl b0 D L n hd ((xs (i + 1)).toInt) (i32b _))) cv_L_35 cd_X11_tries rfl (st := [vi _]) rfl (in_r hoc) (by decide) (by decide) rfl (by omega) (by omega) ⟨rfl, hTm⟩ (fun r2 w2 q2 => ?_)
  obtain ⟨wm1, ⟨q2r, qM⟩, q2w⟩ := q2
  rw [q2r, q2w]
  refine M.icmp_same rfl rfl (M.wid (by omega) (by omega) (kk _ _ (LI_C _ hC ?_ ?_ qK qM)))
  · split
    · rename_i hq
      exact PS_mono (by omega) (PS_u (k := 8) hp (by decide) hq)
    · exact PS_mono (by omega) hp
  · split
    · exact u_1 (tl := tl) (k := 8) (v := (xs (i + 1)).toInt) (by decide)
    · rfl
def tL_421 : List (Nat × Instr × Nat) := [(421, .aload_n 1, 1), (422, .aload_n 0, 1), (423, .iload_n 3, 1), (424, .iconst 1, 1), (425, .iadd, 1), (426, .iaload, 1), (427, .aload_n 0, 1), (428, .iload_n 3, 1), (429, .iconst 2, 1), (430, .iadd, 1), (431, .iaload, 1), (432, .aload_n 0, 1), (433, .iload_n 3, 1), (434, .iconst 3, 1), (435, .iadd, 1), (436, .iaload, 1), (437, .aload_n 0, 1), (438, .iload_n 3, 1), (439, .iconst 4, 1), (440, .iadd, 1), (441, .iaload, 1), (442, .aload_n 0, 1), (443, .iload_n 3, 1), (444, .iconst 5, 1), (445, .iadd, 1), (446, .iaload, 1), (447, .invokevirtual 36, 3), (450, .aload_n 2, 1), (451, .aload_n 0, 1), (452, .iload_n 3, 1), (453, .iconst 1, 1), (454, .iadd, 1), (455, .iaload, 1), (456, .aload_n 0, 1), (457, .iload_n 3, 1), (458, .iconst 2, 1), (459, .iadd, 1), (460, .iaload, 1), (461, .aload_n 0, 1), (462, .iload_n 3, 1), (463, .iconst 3, 1), (464, .iadd, 1), (465, .iaload, 1), (466, .aload_n 0, 1), (467, .iload_n 3, 1), (468, .iconst 4, 1), (469, .iadd, 1), (470, .iaload, 1), (471, .aload_n 0, 1), (472, .iload_n 3, 1), (473, .iconst 5, 1), (474, .iadd, 1), (475, .iaload, 1), (476, .invokevirtual 40, 3), (479, .if_icmp .eq 1455, 3)]
set_option maxRecDepth 100000 in
theorem tL_421_ok : tL_421.all (fun q => decide (decode cL_law q.1 = .ok q.2)) = true := by decide +kernel
set_option maxHeartbeats 4000000 in
set_option maxRecDepth 100000 in
theorem law_5 (l : Launch) (G : GT) : LSt l G 421 := by
  intro nm ds t0 Qp sz sb Ln xs g kb o n wc wm k ns i MX0 hL hi hn h hk hns hkb kk
  obtain ⟨tl, fx, fx2, X, D, L, tl2, D2, L2, t, u, b0, hC⟩ := h
  have hC0 := hC
  obtain ⟨hp, hp2, h12, hE, hKr, hTm, hIm, hTx, hby, hu4, ht3, hu23⟩ := hC0
  obtain ⟨hT, hd, hJ, hi0, h9, hZ, hru, hs, hsd, hLk, hrg⟩ := PS_all hp
  have hkc := hKr.1
  obtain ⟨oc, hoc⟩ := isT_in hTm
  have MX := MX0.tab tL_421_ok
  have M := MX.S.M
  refine M.run 5 (pc' := 426) (lv' := [some (vr sb), some (vr kb), some (vr o), some (vi ((i : Nat) : Int))]) (st' := [vi ((i + 1 : Nat) : Int), vr sb, vr kb]) rfl ?_
  refine MX.sld (i + 1) rfl (by omega) hL ?_
  refine M.run 4 (pc' := 431) (lv' := [some (vr sb), some (vr kb), some (vr o), some (vi ((i : Nat) : Int))]) (st' := [vi ((i + 2 : Nat) : Int), vr sb, vi (xs (i + 1)).toInt, vr kb]) rfl ?_
  refine MX.sld (i + 2) rfl (by omega) hL ?_
  refine M.run 4 (pc' := 436) (lv' := [some (vr sb), some (vr kb), some (vr o), some (vi ((i : Nat) : Int))]) (st' := [vi ((i + 3 : Nat) : Int), vr sb, vi (xs (i + 2)).toInt, vi (xs (i + 1)).toInt, vr kb]) rfl ?_
  refine MX.sld (i + 3) rfl (by omega) hL ?_
  refine M.run 4 (pc' := 441) (lv' := [some (vr sb), some (vr kb), some (vr o), some (vi ((i : Nat) : Int))]) (st' := [vi ((i + 4 : Nat) : Int), vr sb, vi (xs (i + 3)).toInt, vi (xs (i + 2)).toInt, vi (xs (i + 1)).toInt, vr kb]) rfl ?_
  refine MX.sld (i + 4) rfl (by omega) hL ?_
  refine M.run 4 (pc' := 446) (lv' := [some (vr sb), some (vr kb), some (vr o), some (vi ((i : Nat) : Int))]) (st' := [vi ((i + 5 : Nat) : Int), vr sb, vi (xs (i + 4)).toInt, vi (xs (i + 3)).toInt, vi (xs (i + 2)).toInt, vi (xs (i + 1)).toInt, vr kb]) rfl ?_
  refine MX.sld (i + 5) rfl (by omega) hL ?_
  refine M.callVm (Ctr.frL wc wm (kX10_feed l G kb tl fx fx2 X (b0 2) D L tl2 D2 L2 (b0 3) (u 5) (u 6) hT n hd (by omega) hJ hi0 h9 hZ hru t ht3 ((xs (i + 1)).toInt) ((xs (i + 2)).toInt) ((xs (i + 3)).toInt) ((xs (i + 4)).toInt) ((xs (i + 5)).toInt))) cv_L_36 cd_X10_feed rfl (st := []) rfl (in_l hkc) (by decide) (by decide) rfl (by omega) (by omega) ⟨rfl, hE, hKr⟩ (fun r1 w1 q1 => ?_)
  obtain ⟨wc1, ⟨q1r, qE, qK⟩, q1w⟩ := q1
  rw [q1r, q1w]
  refine M.run 5 (pc' := 455) (lv' := [some (vr sb), some (vr kb), some (vr o), some (vi ((i : Nat) : Int))]) (st' := [vi ((i + 1 : Nat) : Int), vr sb, vr o, vi _]) rfl ?_
  refine MX.sld (i + 1) rfl (by omega) hL ?_
  refine M.run 4 (pc' := 460) (lv' := [some (vr sb), some (vr kb), some (vr o), some (vi ((i : Nat) : Int))]) (st' := [vi ((i + 2 : Nat) : Int), vr sb, vi (xs (i + 1)).toInt, vr o, vi _]) rfl ?_
  refine MX.sld (i + 2) rfl (by omega) hL ?_
  refine M.run 4 (pc' := 465) (lv' := [some (vr sb), some (vr kb), some (vr o), some (vi ((i : Nat) : Int))]) (st' := [vi ((i + 3 : Nat) : Int), vr sb, vi (xs (i + 2)).toInt, vi (xs (i + 1)).toInt, vr o, vi _]) rfl ?_
  refine MX.sld (i + 3) rfl (by omega) hL ?_
  refine M.run 4 (pc' := 470) (lv' := [some (vr sb), some (vr kb), some (vr o), some (vi ((i : Nat) : Int))]) (st' := [vi ((i + 4 : Nat) : Int), vr sb, vi (xs (i + 3)).toInt, vi (xs (i + 2)).toInt, vi (xs (i + 1)).toInt, vr o, vi _]) rfl ?_
  refine MX.sld (i + 4) rfl (by omega) hL ?_
  refine M.run 4 (pc' := 475) (lv' := [some (vr sb), some (vr kb), some (vr o), some (vi ((i : Nat) : Int))]) (st' := [vi ((i + 5 : Nat) : Int), vr sb, vi (xs (i + 4)).toInt, vi (xs (i + 3)).toInt, vi (xs (i + 2)).toInt, vi (xs (i + 1)).toInt, vr o, vi _]) rfl ?_
  refine MX.sld (i + 5) rfl (by omega) hL ?_
  refine M.callVm (Ctr.frR wm wc1 (vX11_feed l G o (aI o) u tl b0 D L ((xs (i + 1)).toInt) ((xs (i + 2)).toInt) ((xs (i + 3)).toInt) ((xs (i + 4)).toInt) ((xs (i + 5)).toInt) (i32b _) (i32b _) (i32b _) (i32b _) (i32b _) t hu4 ht3)) cv_L_40 cd_X11_feed rfl (st := [vi _]) rfl (in_r hoc) (by decide) (by decide) rfl (by omega) (by omega) ⟨rfl, hTm⟩ (fun r2 w2 q2 => ?_)
  obtain ⟨wm1, ⟨q2r, qM⟩, q2w⟩ := q2
  rw [q2r, q2w]
  refine M.icmp_same rfl rfl (M.wid (by omega) (by omega) (kk _ _ ?_))
  by_cases hq : t + 20 ≤ 300
  · rw [if_pos hq, if_pos hq] at qK qM
    exact LI_F (t' := t + 20) (u' := uN u 4 ((t + 20 : Nat) : Int)) hC qE (by rw [uN_o (by decide), uN_o (by decide)]; exact qK) qM (if_neg (by decide)) (if_neg (by decide)) (fd5_b hby) (uN_s _ _ _) hq (by rw [uN_o (by decide)]; exact hu23)
  · rw [if_neg hq, if_neg hq] at qK qM
    exact LI_F hC qE qK qM rfl rfl hby hu4 ht3 hu23
def tL_484 : List (Nat × Instr × Nat) := [(484, .aload_n 1, 1), (485, .aload_n 0, 1), (486, .iload_n 3, 1), (487, .iconst 1, 1), (488, .iadd, 1), (489, .iaload, 1), (490, .invokevirtual 41, 3), (493, .aload_n 2, 1), (494, .aload_n 0, 1), (495, .iload_n 3, 1), (496, .iconst 1, 1), (497, .iadd, 1), (498, .iaload, 1), (499, .invokevirtual 45, 3), (502, .if_icmp .eq 1432, 3)]
set_option maxRecDepth 100000 in
theorem tL_484_ok : tL_484.all (fun q => decide (decode cL_law q.1 = .ok q.2)) = true := by decide +kernel
set_option maxHeartbeats 4000000 in
set_option maxRecDepth 100000 in
theorem law_6 (l : Launch) (G : GT) : LSt l G 484 := by
  intro nm ds t0 Qp sz sb Ln xs g kb o n wc wm k ns i MX0 hL hi hn h hk hns hkb kk
  obtain ⟨tl, fx, fx2, X, D, L, tl2, D2, L2, t, u, b0, hC⟩ := h
  have hC0 := hC
  obtain ⟨hp, hp2, h12, hE, hKr, hTm, hIm, hTx, hby, hu4, ht3, hu23⟩ := hC0
  obtain ⟨hT, hd, hJ, hi0, h9, hZ, hru, hs, hsd, hLk, hrg⟩ := PS_all hp
  have hkc := hKr.1
  obtain ⟨oc, hoc⟩ := isT_in hTm
  have MX := MX0.tab tL_484_ok
  have M := MX.S.M
  refine M.run 5 (pc' := 489) (lv' := [some (vr sb), some (vr kb), some (vr o), some (vi ((i : Nat) : Int))]) (st' := [vi ((i + 1 : Nat) : Int), vr sb, vr kb]) rfl ?_
  refine MX.sld (i + 1) rfl (by omega) hL ?_
  refine M.callVm (Ctr.frL wc wm (kX10_end l G kb tl fx fx2 X (b0 2) D L tl2 D2 L2 (b0 3) (u 5) (u 6) hT n hd (by omega) hJ hi0 h9 hZ hru t ht3 ((xs (i + 1)).toInt) (i32b _))) cv_L_41 cd_X10_end rfl (st := []) rfl (in_l hkc) (by decide) (by decide) rfl (by omega) (by omega) ⟨rfl, hE, hKr⟩ (fun r1 w1 q1 => ?_)
  obtain ⟨wc1, ⟨q1r, qE, qK⟩, q1w⟩ := q1
  rw [q1r, q1w]
  refine M.run 5 (pc' := 498) (lv' := [some (vr sb), some (vr kb), some (vr o), some (vi ((i : Nat) : Int))]) (st' := [vi ((i + 1 : Nat) : Int), vr sb, vr o, vi _]) rfl ?_
  refine MX.sld (i + 1) rfl (by omega) hL ?_
  refine M.callVm (Ctr.frR wm wc1 (vX11_end l G o (aI o) u tl b0 D L ((xs (i + 1)).toInt) (i32b _) t hu4 ht3)) cv_L_45 cd_X11_end rfl (st := [vi _]) rfl (in_r hoc) (by decide) (by decide) rfl (by omega) (by omega) ⟨rfl, hTm⟩ (fun r2 w2 q2 => ?_)
  obtain ⟨wm1, ⟨q2r, qM⟩, q2w⟩ := q2
  rw [q2r, q2w]
  refine M.icmp_same rfl rfl (M.wid (by omega) (by omega) (kk _ _ ?_))
  by_cases hq : 0 ≤ (xs (i + 1)).toInt ∧ (xs (i + 1)).toInt ≤ ((t : Nat) : Int)
  · rw [if_pos hq] at qK qM
    exact LI_F (t' := (xs (i + 1)).toInt.toNat) (u' := uN u 4 (xs (i + 1)).toInt) hC qE (by rw [uN_o (by decide), uN_o (by decide), Int.toNat_of_nonneg hq.1]; exact qK) qM rfl rfl hby (by rw [uN_s, Int.toNat_of_nonneg hq.1]) (by omega) (by rw [uN_o (by decide)]; exact hu23)
  · rw [if_neg hq] at qK qM
    exact LI_F hC qE qK qM rfl rfl hby hu4 ht3 hu23
def tL_520 : List (Nat × Instr × Nat) := [(520, .aload_n 1, 1), (521, .aload_n 0, 1), (522, .iload_n 3, 1), (523, .iconst 1, 1), (524, .iadd, 1), (525, .iaload, 1), (526, .invokevirtual 51, 3), (529, .aload_n 2, 1), (530, .aload_n 0, 1), (531, .iload_n 3, 1), (532, .iconst 1, 1), (533, .iadd, 1), (534, .iaload, 1), (535, .invokevirtual 54, 3), (538, .if_icmp .eq 1396, 3)]
set_option maxRecDepth 100000 in
theorem tL_520_ok : tL_520.all (fun q => decide (decode cL_law q.1 = .ok q.2)) = true := by decide +kernel
set_option maxHeartbeats 4000000 in
set_option maxRecDepth 100000 in
theorem law_8 (l : Launch) (G : GT) : LSt l G 520 := by
  intro nm ds t0 Qp sz sb Ln xs g kb o n wc wm k ns i MX0 hL hi hn h hk hns hkb kk
  obtain ⟨tl, fx, fx2, X, D, L, tl2, D2, L2, t, u, b0, hC⟩ := h
  have hC0 := hC
  obtain ⟨hp, hp2, h12, hE, hKr, hTm, hIm, hTx, hby, hu4, ht3, hu23⟩ := hC0
  obtain ⟨hT, hd, hJ, hi0, h9, hZ, hru, hs, hsd, hLk, hrg⟩ := PS_all hp
  have hkc := hKr.1
  obtain ⟨oc, hoc⟩ := isT_in hTm
  have MX := MX0.tab tL_520_ok
  have M := MX.S.M
  refine M.run 5 (pc' := 525) (lv' := [some (vr sb), some (vr kb), some (vr o), some (vi ((i : Nat) : Int))]) (st' := [vi ((i + 1 : Nat) : Int), vr sb, vr kb]) rfl ?_
  refine MX.sld (i + 1) rfl (by omega) hL ?_
  refine M.callVm (Ctr.frL wc wm (kX10_fault l G kb tl fx fx2 X (b0 2) D L tl2 D2 L2 (b0 3) ((t : Nat) : Int) (u 5) (u 6) hT n hd (by omega) hJ hi0 h9 hZ hru ((xs (i + 1)).toInt) (i32b _))) cv_L_51 cd_X10_fault rfl (st := []) rfl (in_l hkc) (by decide) (by decide) rfl (by omega) (by omega) ⟨rfl, hE, hKr⟩ (fun r1 w1 q1 => ?_)
  obtain ⟨wc1, ⟨q1r, q1c⟩, q1w⟩ := q1
  rw [q1r, q1w, q1c]
  refine M.run 5 (pc' := 534) (lv' := [some (vr sb), some (vr kb), some (vr o), some (vi ((i : Nat) : Int))]) (st' := [vi ((i + 1 : Nat) : Int), vr sb, vr o, vi _]) rfl ?_
  refine MX.sld (i + 1) rfl (by omega) hL ?_
  refine M.callVm (Ctr.frR wm wc (vX11_fault l G o (aI o) u tl b0 D L n hT hd hi0 h9 hLk (by omega) (Or.inl hu23) X ⟨hTx, hru.2⟩ ((xs (i + 1)).toInt) (i32b _))) cv_L_54 cd_X11_fault rfl (st := [vi _]) rfl (in_r hoc) (by decide) (by decide) rfl (by omega) (by omega) ⟨rfl, hTm⟩ (fun r2 w2 q2 => ?_)
  obtain ⟨wm1, ⟨q2r, q2c⟩, q2w⟩ := q2
  rw [q2r, q2w, q2c]
  exact M.icmp_same rfl rfl (M.wid (by omega) (by omega) (kk _ _ (LI_A hC)))
def tL_543 : List (Nat × Instr × Nat) := [(543, .aload_n 1, 1), (544, .aload_n 0, 1), (545, .iload_n 3, 1), (546, .iconst 1, 1), (547, .iadd, 1), (548, .iaload, 1), (549, .invokevirtual 55, 3), (552, .aload_n 2, 1), (553, .aload_n 0, 1), (554, .iload_n 3, 1), (555, .iconst 1, 1), (556, .iadd, 1), (557, .iaload, 1), (558, .invokevirtual 58, 3), (561, .if_icmp .eq 1373, 3)]
set_option maxRecDepth 100000 in
theorem tL_543_ok : tL_543.all (fun q => decide (decode cL_law q.1 = .ok q.2)) = true := by decide +kernel
set_option maxHeartbeats 4000000 in
set_option maxRecDepth 100000 in
theorem law_9 (l : Launch) (G : GT) : LSt l G 543 := by
  intro nm ds t0 Qp sz sb Ln xs g kb o n wc wm k ns i MX0 hL hi hn h hk hns hkb kk
  obtain ⟨tl, fx, fx2, X, D, L, tl2, D2, L2, t, u, b0, hC⟩ := h
  have hC0 := hC
  obtain ⟨hp, hp2, h12, hE, hKr, hTm, hIm, hTx, hby, hu4, ht3, hu23⟩ := hC0
  obtain ⟨hT, hd, hJ, hi0, h9, hZ, hru, hs, hsd, hLk, hrg⟩ := PS_all hp
  have hkc := hKr.1
  obtain ⟨oc, hoc⟩ := isT_in hTm
  have MX := MX0.tab tL_543_ok
  have M := MX.S.M
  refine M.run 5 (pc' := 548) (lv' := [some (vr sb), some (vr kb), some (vr o), some (vi ((i : Nat) : Int))]) (st' := [vi ((i + 1 : Nat) : Int), vr sb, vr kb]) rfl ?_
  refine MX.sld (i + 1) rfl (by omega) hL ?_
  refine M.callVm (Ctr.frL wc wm (kX10_by l G kb tl fx fx2 X (b0 2) D L tl2 D2 L2 (b0 3) ((t : Nat) : Int) (u 5) (u 6) hT n hd (by omega) hJ hi0 h9 hZ hru ((xs (i + 1)).toInt) (i32b _))) cv_L_55 cd_X10_by rfl (st := []) rfl (in_l hkc) (by decide) (by decide) rfl (by omega) (by omega) ⟨rfl, hE, hKr⟩ (fun r1 w1 q1 => ?_)
  obtain ⟨wc1, ⟨q1r, qK⟩, q1w⟩ := q1
  rw [q1r, q1w]
  refine M.run 5 (pc' := 557) (lv' := [some (vr sb), some (vr kb), some (vr o), some (vi ((i : Nat) : Int))]) (st' := [vi ((i + 1 : Nat) : Int), vr sb, vr o, vi _]) rfl ?_
  refine MX.sld (i + 1) rfl (by omega) hL ?_
  refine M.callVm (Ctr.frR wm wc1 (vX11_by l G o (aI o) u tl b0 D L n hT hd hi0 h9 hLk (by omega) (Or.inl hu23) X ⟨hTx, hru.2⟩ ((xs (i + 1)).toInt) (i32b _))) cv_L_58 cd_X11_by rfl (st := [vi _]) rfl (in_r hoc) (by decide) (by decide) rfl (by omega) (by omega) ⟨rfl, hTm⟩ (fun r2 w2 q2 => ?_)
  obtain ⟨wm1, ⟨q2r, qM⟩, q2w⟩ := q2
  rw [q2r, q2w]
  rw [sBy_eq] at qK
  exact M.icmp_same rfl rfl (M.wid (by omega) (by omega) (kk _ _ (LI_C _ hC (PS_mono (by omega) (PS_by hp)) (sBy_1) qK qM)))
