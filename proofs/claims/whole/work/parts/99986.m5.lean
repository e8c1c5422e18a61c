/-! the law: cases 50, 51, 52, 53, 54, 55, 56 -/
def tL_1823 : List (Nat × Instr × Nat) := [(1823, .aload_n 1, 1), (1824, .invokevirtual 224, 3), (1827, .aload_n 2, 1), (1828, .invokevirtual 227, 3), (1831, .if_icmp .eq 103, 3)]
set_option maxRecDepth 100000 in
theorem tL_1823_ok : tL_1823.all (fun q => decide (decode cL_law q.1 = .ok q.2)) = true := by decide +kernel
set_option maxHeartbeats 4000000 in
set_option maxRecDepth 100000 in
theorem law_50 (l : Launch) (G : GT) : LSt l G 1823 := by
  intro nm ds t0 Qp sz sb Ln xs g kb o n wc wm k ns i MX0 hL hi hn h hk hns hkb kk
  obtain ⟨tl, fx, fx2, X, D, L, tl2, D2, L2, t, u, b0, hC⟩ := h
  have hC0 := hC
  obtain ⟨hp, hp2, h12, hE, hKr, hTm, hIm, hTx, hby, hu4, ht3, hu23⟩ := hC0
  obtain ⟨hT, hd, hJ, hi0, h9, hZ, hru, hs, hsd, hLk, hrg⟩ := PS_all hp
  have hkc := hKr.1
  obtain ⟨oc, hoc⟩ := isT_in hTm
  have MX := MX0.tab tL_1823_ok
  have M := MX.S.M
  refine M.run 1 (pc' := 1824) (lv' := [some (vr sb), some (vr kb), some (vr o), some (vi ((i : Nat) : Int))]) (st' := [vr kb]) rfl ?_
  refine M.callVm (Ctr.frL wc wm (kX10_soonest l G kb tl fx fx2 X (b0 2) D L tl2 D2 L2 (b0 3) ((t : Nat) : Int) (u 5) (u 6) hT n hd (by omega) hJ hi0 h9 hZ hru)) cv_L_224 cd_X10_soonest rfl (st := []) rfl (in_l hkc) (by decide) (by decide) rfl (by omega) (by omega) ⟨rfl, hE, hKr⟩ (fun r1 w1 q1 => ?_)
  obtain ⟨wc1, ⟨q1r, q1c⟩, q1w⟩ := q1
  rw [q1r, q1w, q1c]
  refine M.run 1 (pc' := 1828) (lv' := [some (vr sb), some (vr kb), some (vr o), some (vi ((i : Nat) : Int))]) (st' := [vr o, vi _]) rfl ?_
  refine M.callVm (Ctr.frR wm wc (vX11_soonest l G o (aI o) u tl b0 D L n hT hd hi0 h9 hLk (by omega) (Or.inl hu23) X ⟨hTx, hru.2⟩)) cv_L_227 cd_X11_soonest rfl (st := [vi _]) rfl (in_r hoc) (by decide) (by decide) rfl (by omega) (by omega) ⟨rfl, hTm⟩ (fun r2 w2 q2 => ?_)
  obtain ⟨wm1, ⟨q2r, q2c⟩, q2w⟩ := q2
  rw [q2r, q2w, q2c]
  exact M.icmp_same rfl rfl (M.wid (by omega) (by omega) (kk _ _ (LI_A hC)))
def tL_1836 : List (Nat × Instr × Nat) := [(1836, .aload_n 1, 1), (1837, .invokevirtual 228, 3), (1840, .aload_n 2, 1), (1841, .invokevirtual 231, 3), (1844, .if_icmp .eq 90, 3)]
set_option maxRecDepth 100000 in
theorem tL_1836_ok : tL_1836.all (fun q => decide (decode cL_law q.1 = .ok q.2)) = true := by decide +kernel
set_option maxHeartbeats 4000000 in
set_option maxRecDepth 100000 in
theorem law_51 (l : Launch) (G : GT) : LSt l G 1836 := by
  intro nm ds t0 Qp sz sb Ln xs g kb o n wc wm k ns i MX0 hL hi hn h hk hns hkb kk
  obtain ⟨tl, fx, fx2, X, D, L, tl2, D2, L2, t, u, b0, hC⟩ := h
  have hC0 := hC
  obtain ⟨hp, hp2, h12, hE, hKr, hTm, hIm, hTx, hby, hu4, ht3, hu23⟩ := hC0
  obtain ⟨hT, hd, hJ, hi0, h9, hZ, hru, hs, hsd, hLk, hrg⟩ := PS_all hp
  have hkc := hKr.1
  obtain ⟨oc, hoc⟩ := isT_in hTm
  have MX := MX0.tab tL_1836_ok
  have M := MX.S.M
  refine M.run 1 (pc' := 1837) (lv' := [some (vr sb), some (vr kb), some (vr o), some (vi ((i : Nat) : Int))]) (st' := [vr kb]) rfl ?_
  refine M.callVm (Ctr.frL wc wm (kX10_busiest l G kb tl fx fx2 X (b0 2) D L tl2 D2 L2 (b0 3) ((t : Nat) : Int) (u 5) (u 6) hT n hd (by omega) hJ hi0 h9 hZ hru)) cv_L_228 cd_X10_busiest rfl (st := []) rfl (in_l hkc) (by decide) (by decide) rfl (by omega) (by omega) ⟨rfl, hE, hKr⟩ (fun r1 w1 q1 => ?_)
  obtain ⟨wc1, ⟨q1r, q1c⟩, q1w⟩ := q1
  rw [q1r, q1w, q1c]
  refine M.run 1 (pc' := 1841) (lv' := [some (vr sb), some (vr kb), some (vr o), some (vi ((i : Nat) : Int))]) (st' := [vr o, vi _]) rfl ?_
  refine M.callVm (Ctr.frR wm wc (vX11_busiest l G o (aI o) u tl b0 D L n hT hd hi0 h9 hLk (by omega) (Or.inl hu23) X ⟨hTx, hru.2⟩)) cv_L_231 cd_X11_busiest rfl (st := [vi _]) rfl (in_r hoc) (by decide) (by decide) rfl (by omega) (by omega) ⟨rfl, hTm⟩ (fun r2 w2 q2 => ?_)
  obtain ⟨wm1, ⟨q2r, q2c⟩, q2w⟩ := q2
  rw [q2r, q2w, q2c]
  exact M.icmp_same rfl rfl (M.wid (by omega) (by omega) (kk _ _ (LI_A hC)))
def tL_1849 : List (Nat × Instr × Nat) := [(1849, .aload_n 1, 1), (1850, .invokevirtual 232, 3), (1853, .aload_n 2, 1), (1854, .invokevirtual 235, 3), (1857, .if_icmp .eq 77, 3)]
set_option maxRecDepth 100000 in
theorem tL_1849_ok : tL_1849.all (fun q => decide (decode cL_law q.1 = .ok q.2)) = true := by decide +kernel
set_option maxHeartbeats 4000000 in
set_option maxRecDepth 100000 in
theorem law_52 (l : Launch) (G : GT) : LSt l G 1849 := by
  intro nm ds t0 Qp sz sb Ln xs g kb o n wc wm k ns i MX0 hL hi hn h hk hns hkb kk
  obtain ⟨tl, fx, fx2, X, D, L, tl2, D2, L2, t, u, b0, hC⟩ := h
  have hC0 := hC
  obtain ⟨hp, hp2, h12, hE, hKr, hTm, hIm, hTx, hby, hu4, ht3, hu23⟩ := hC0
  obtain ⟨hT, hd, hJ, hi0, h9, hZ, hru, hs, hsd, hLk, hrg⟩ := PS_all hp
  have hkc := hKr.1
  obtain ⟨oc, hoc⟩ := isT_in hTm
  have MX := MX0.tab tL_1849_ok
  have M := MX.S.M
  refine M.run 1 (pc' := 1850) (lv' := [some (vr sb), some (vr kb), some (vr o), some (vi ((i : Nat) : Int))]) (st' := [vr kb]) rfl ?_
  refine M.callVm (Ctr.frL wc wm (kX10_honest l G kb tl fx fx2 X (b0 2) D L tl2 D2 L2 (b0 3) ((t : Nat) : Int) (u 5) (u 6) hT n hd (by omega) hJ hi0 h9 hZ hru)) cv_L_232 cd_X10_honest rfl (st := []) rfl (in_l hkc) (by decide) (by decide) rfl (by omega) (by omega) ⟨rfl, hE, hKr⟩ (fun r1 w1 q1 => ?_)
  obtain ⟨wc1, ⟨q1r, q1c⟩, q1w⟩ := q1
  rw [q1r, q1w, q1c]
  refine M.run 1 (pc' := 1854) (lv' := [some (vr sb), some (vr kb), some (vr o), some (vi ((i : Nat) : Int))]) (st' := [vr o, vi _]) rfl ?_
  refine M.callVm (Ctr.frR wm wc (vX11_honest l G o (aI o) u tl b0 D L n hT hd hi0 h9 hLk (by omega) (Or.inl hu23) X ⟨hTx, hru.2⟩)) cv_L_235 cd_X11_honest rfl (st := [vi _]) rfl (in_r hoc) (by decide) (by decide) rfl (by omega) (by omega) ⟨rfl, hTm⟩ (fun r2 w2 q2 => ?_)
  obtain ⟨wm1, ⟨q2r, q2c⟩, q2w⟩ := q2
  rw [q2r, q2w, q2c]
  exact M.icmp_same rfl rfl (M.wid (by omega) (by omega) (kk _ _ (LI_A hC)))
def tL_1862 : List (Nat × Instr × Nat) := [(1862, .aload_n 1, 1), (1863, .aload_n 0, 1), (1864, .iload_n 3, 1), (1865, .iconst 1, 1), (1866, .iadd, 1), (1867, .iaload, 1), (1868, .invokevirtual 236, 3), (1871, .aload_n 2, 1), (1872, .aload_n 0, 1), (1873, .iload_n 3, 1), (1874, .iconst 1, 1), (1875, .iadd, 1), (1876, .iaload, 1), (1877, .invokevirtual 239, 3), (1880, .if_icmp .eq 54, 3)]
set_option maxRecDepth 100000 in
theorem tL_1862_ok : tL_1862.all (fun q => decide (decode cL_law q.1 = .ok q.2)) = true := by decide +kernel
set_option maxHeartbeats 4000000 in
set_option maxRecDepth 100000 in
theorem law_53 (l : Launch) (G : GT) : LSt l G 1862 := by
  intro nm ds t0 Qp sz sb Ln xs g kb o n wc wm k ns i MX0 hL hi hn h hk hns hkb kk
  obtain ⟨tl, fx, fx2, X, D, L, tl2, D2, L2, t, u, b0, hC⟩ := h
  have hC0 := hC
  obtain ⟨hp, hp2, h12, hE, hKr, hTm, hIm, hTx, hby, hu4, ht3, hu23⟩ := hC0
  obtain ⟨hT, hd, hJ, hi0, h9, hZ, hru, hs, hsd, hLk, hrg⟩ := PS_all hp
  have hkc := hKr.1
  obtain ⟨oc, hoc⟩ := isT_in hTm
  have MX := MX0.tab tL_1862_ok
  have M := MX.S.M
  refine M.run 5 (pc' := 1867) (lv' := [some (vr sb), some (vr kb), some (vr o), some (vi ((i : Nat) : Int))]) (st' := [vi ((i + 1 : Nat) : Int), vr sb, vr kb]) rfl ?_
  refine MX.sld (i + 1) rfl (by omega) hL ?_
  refine M.callVm (Ctr.frL wc wm (kX10_ledger l G kb tl fx fx2 X (b0 2) D L tl2 D2 L2 (b0 3) ((t : Nat) : Int) (u 5) (u 6) hT n hd (by omega) hJ hi0 h9 hZ hru ((xs (i + 1)).toInt) (i32b _))) cv_L_236 cd_X10_ledger rfl (st := []) rfl (in_l hkc) (by decide) (by decide) rfl (by omega) (by omega) ⟨rfl, hE, hKr⟩ (fun r1 w1 q1 => ?_)
  obtain ⟨wc1, ⟨q1r, q1c⟩, q1w⟩ := q1
  rw [q1r, q1w, q1c]
  refine M.run 5 (pc' := 1876) (lv' := [some (vr sb), some (vr kb), some (vr o), some (vi ((i : Nat) : Int))]) (st' := [vi ((i + 1 : Nat) : Int), vr sb, vr o, vi _]) rfl ?_
  refine MX.sld (i + 1) rfl (by omega) hL ?_
  refine M.callVm (Ctr.frR wm wc (vX11_ledger l G o (aI o) u tl b0 D L n hT hd hi0 h9 hLk (by omega) (Or.inl hu23) X ⟨hTx, hru.2⟩ ((xs (i + 1)).toInt) (i32b _))) cv_L_239 cd_X11_ledger rfl (st := [vi _]) rfl (in_r hoc) (by decide) (by decide) rfl (by omega) (by omega) ⟨rfl, hTm⟩ (fun r2 w2 q2 => ?_)
  obtain ⟨wm1, ⟨q2r, q2c⟩, q2w⟩ := q2
  rw [q2r, q2w, q2c]
  exact M.icmp_same rfl rfl (M.wid (by omega) (by omega) (kk _ _ (LI_A hC)))
def tL_1885 : List (Nat × Instr × Nat) := [(1885, .aload_n 1, 1), (1886, .invokevirtual 240, 3), (1889, .aload_n 2, 1), (1890, .invokevirtual 243, 3), (1893, .if_icmp .eq 41, 3)]
set_option maxRecDepth 100000 in
theorem tL_1885_ok : tL_1885.all (fun q => decide (decode cL_law q.1 = .ok q.2)) = true := by decide +kernel
set_option maxHeartbeats 4000000 in
set_option maxRecDepth 100000 in
theorem law_54 (l : Launch) (G : GT) : LSt l G 1885 := by
  intro nm ds t0 Qp sz sb Ln xs g kb o n wc wm k ns i MX0 hL hi hn h hk hns hkb kk
  obtain ⟨tl, fx, fx2, X, D, L, tl2, D2, L2, t, u, b0, hC⟩ := h
  have hC0 := hC
  obtain ⟨hp, hp2, h12, hE, hKr, hTm, hIm, hTx, hby, hu4, ht3, hu23⟩ := hC0
  obtain ⟨hT, hd, hJ, hi0, h9, hZ, hru, hs, hsd, hLk, hrg⟩ := PS_all hp
  have hkc := hKr.1
  obtain ⟨oc, hoc⟩ := isT_in hTm
  have MX := MX0.tab tL_1885_ok
  have M := MX.S.M
  refine M.run 1 (pc' := 1886) (lv' := [some (vr sb), some (vr kb), some (vr o), some (vi ((i : Nat) : Int))]) (st' := [vr kb]) rfl ?_
  refine M.callVm (Ctr.frL wc wm (kX10_image l G kb tl fx fx2 X (b0 2) D L tl2 D2 L2 (b0 3) ((t : Nat) : Int) (u 5) (u 6) hT n hs (by omega) hZ hru)) cv_L_240 cd_X10_image rfl (st := []) rfl (in_l hkc) (by decide) (by decide) rfl (by omega) (by omega) ⟨rfl, hE, hKr⟩ (fun r1 w1 q1 => ?_)
  obtain ⟨wc1, ⟨q1r, hh, qE, qK⟩, q1w⟩ := q1
  rw [q1r, q1w]
  refine M.run 1 (pc' := 1890) (lv' := [some (vr sb), some (vr kb), some (vr o), some (vi ((i : Nat) : Int))]) (st' := [vr o, vi _]) rfl ?_
  refine M.callVm (Ctr.frR wm wc1 (vX11_image l G o (aI o) u tl b0 D L n hT hd hi0 h9 hLk (by omega) (Or.inl hu23) X ⟨hTx, hru.2⟩)) cv_L_243 cd_X11_image rfl (st := [vi _]) rfl (in_r hoc) (by decide) (by decide) rfl (by omega) (by omega) ⟨rfl, hTm⟩ (fun r2 w2 q2 => ?_)
  obtain ⟨wm1, ⟨q2r, b1, qM, qb, qI⟩, q2w⟩ := q2
  rw [q2r, q2w]
  have e2 := qb 2 (by decide)
  have e3 := qb 3 (by decide)
  refine M.icmp_same rfl rfl (M.wid (by omega) (by omega) (kk _ _ ⟨tl, fx, hh, X, D, L, tl, D, L, t, u, b1, PS_mono (by omega) hp, PS_mono (by omega) hp, Int.le_refl _, ?_, ?_, qM, qI, ?_, ?_, hu4, ht3, hu23⟩))
  · rw [e2]; exact qE
  · rw [e3]; exact qK
  · rw [e2]; exact hTx
  · rw [e3]; exact hby
def tL_1898 : List (Nat × Instr × Nat) := [(1898, .aload_n 1, 1), (1899, .invokevirtual 244, 3), (1902, .aload_n 2, 1), (1903, .invokevirtual 247, 3), (1906, .if_icmp .eq 28, 3)]
set_option maxRecDepth 100000 in
theorem tL_1898_ok : tL_1898.all (fun q => decide (decode cL_law q.1 = .ok q.2)) = true := by decide +kernel
set_option maxHeartbeats 4000000 in
set_option maxRecDepth 100000 in
theorem law_55 (l : Launch) (G : GT) : LSt l G 1898 := by
  intro nm ds t0 Qp sz sb Ln xs g kb o n wc wm k ns i MX0 hL hi hn h hk hns hkb kk
  obtain ⟨tl, fx, fx2, X, D, L, tl2, D2, L2, t, u, b0, hC⟩ := h
  have hC0 := hC
  obtain ⟨hp, hp2, h12, hE, hKr, hTm, hIm, hTx, hby, hu4, ht3, hu23⟩ := hC0
  obtain ⟨hT, hd, hJ, hi0, h9, hZ, hru, hs, hsd, hLk, hrg⟩ := PS_all hp
  have hd2 := (PS_all hp2).2.1
  have hLk2 := (PS_TS hp2).2.2.2.2
  have h24 : tl2 1 ≤ 4 := (hp2.1.1 1 (by decide)).2
  have hkc := hKr.1
  obtain ⟨oc, hoc⟩ := isT_in hTm
  have MX := MX0.tab tL_1898_ok
  have M := MX.S.M
  refine M.run 1 (pc' := 1899) (lv' := [some (vr sb), some (vr kb), some (vr o), some (vi ((i : Nat) : Int))]) (st' := [vr kb]) rfl ?_
  refine M.callVm (Ctr.frL wc wm (kX10_back l G kb tl fx fx2 X (b0 2) D L tl2 D2 L2 (b0 3) ((t : Nat) : Int) (u 5) (u 6) hT n hs (by omega) hZ hru h24 h12)) cv_L_244 cd_X10_back rfl (st := []) rfl (in_l hkc) (by decide) (by decide) rfl (by omega) (by omega) ⟨rfl, hE, hKr⟩ (fun r1 w1 q1 => ?_)
  obtain ⟨wc1, ⟨q1r, hh, qE, qK⟩, q1w⟩ := q1
  rw [q1r, q1w]
  refine M.run 1 (pc' := 1903) (lv' := [some (vr sb), some (vr kb), some (vr o), some (vi ((i : Nat) : Int))]) (st' := [vr o, vi _]) rfl ?_
  refine M.callVm (Ctr.frR wm wc1 (vX11_back l G o (aI o) u tl b0 D L n hT hd hi0 h9 hLk (by omega) (Or.inl hu23) X ⟨hTx, hru.2⟩ tl2 D2 L2 hd2 hLk2 hIm)) cv_L_247 cd_X11_back rfl (st := [vi _]) rfl (in_r hoc) (by decide) (by decide) rfl (by omega) (by omega) ⟨rfl, hTm⟩ (fun r2 w2 q2 => ?_)
  obtain ⟨wm1, ⟨q2r, qM⟩, q2w⟩ := q2
  rw [q2r, q2w]
  exact M.icmp_same rfl rfl (M.wid (by omega) (by omega) (kk _ _ ⟨tl2, hh, fx2, X, D2, L2, tl2, D2, L2, t, u, b0, PS_mono (by omega) hp2, PS_mono (by omega) hp2, Int.le_refl _, qE, qK, qM, hIm, fun t ht => hTx t (by omega), hby, hu4, ht3, hu23⟩))
def tL_1911 : List (Nat × Instr × Nat) := [(1911, .aload_n 1, 1), (1912, .aload_n 0, 1), (1913, .iload_n 3, 1), (1914, .iconst 1, 1), (1915, .iadd, 1), (1916, .iaload, 1), (1917, .invokevirtual 248, 3), (1920, .aload_n 2, 1), (1921, .aload_n 0, 1), (1922, .iload_n 3, 1), (1923, .iconst 1, 1), (1924, .iadd, 1), (1925, .iaload, 1), (1926, .invokevirtual 251, 3), (1929, .if_icmp .eq 5, 3)]
set_option maxRecDepth 100000 in
theorem tL_1911_ok : tL_1911.all (fun q => decide (decode cL_law q.1 = .ok q.2)) = true := by decide +kernel
set_option maxHeartbeats 4000000 in
set_option maxRecDepth 100000 in
theorem law_56 (l : Launch) (G : GT) : LSt l G 1911 := by
  intro nm ds t0 Qp sz sb Ln xs g kb o n wc wm k ns i MX0 hL hi hn h hk hns hkb kk
  obtain ⟨tl, fx, fx2, X, D, L, tl2, D2, L2, t, u, b0, hC⟩ := h
  have hC0 := hC
  obtain ⟨hp, hp2, h12, hE, hKr, hTm, hIm, hTx, hby, hu4, ht3, hu23⟩ := hC0
  obtain ⟨hT, hd, hJ, hi0, h9, hZ, hru, hs, hsd, hLk, hrg⟩ := PS_all hp
  have hkc := hKr.1
  obtain ⟨oc, hoc⟩ := isT_in hTm
  have MX := MX0.tab tL_1911_ok
  have M := MX.S.M
  refine M.run 5 (pc' := 1916) (lv' := [some (vr sb), some (vr kb), some (vr o), some (vi ((i : Nat) : Int))]) (st' := [vi ((i + 1 : Nat) : Int), vr sb, vr kb]) rfl ?_
  refine MX.sld (i + 1) rfl (by omega) hL ?_
  refine M.callVm (Ctr.frL wc wm (kX10_about l G kb tl fx fx2 X (b0 2) D L tl2 D2 L2 (b0 3) ((t : Nat) : Int) (u 5) (u 6) hT n hd (by omega) hJ hi0 h9 hZ hru ((xs (i + 1)).toInt) (i32b _))) cv_L_248 cd_X10_about rfl (st := []) rfl (in_l hkc) (by decide) (by decide) rfl (by omega) (by omega) ⟨rfl, hE, hKr⟩ (fun r1 w1 q1 => ?_)
  obtain ⟨wc1, ⟨q1r, q1c⟩, q1w⟩ := q1
  rw [q1r, q1w, q1c]
  refine M.run 5 (pc' := 1925) (lv' := [some (vr sb), some (vr kb), some (vr o), some (vi ((i : Nat) : Int))]) (st' := [vi ((i + 1 : Nat) : Int), vr sb, vr o, vi _]) rfl ?_
  refine MX.sld (i + 1) rfl (by omega) hL ?_
  refine M.callVm (Ctr.frR wm wc (vX11_about l G o (aI o) u tl b0 D L n hT hd hi0 h9 hLk (by omega) (Or.inl hu23) X ⟨hTx, hru.2⟩ ((xs (i + 1)).toInt) (i32b _))) cv_L_251 cd_X11_about rfl (st := [vi _]) rfl (in_r hoc) (by decide) (by decide) rfl (by omega) (by omega) ⟨rfl, hTm⟩ (fun r2 w2 q2 => ?_)
  obtain ⟨wm1, ⟨q2r, q2c⟩, q2w⟩ := q2
  rw [q2r, q2w, q2c]
  rw [hu4]
  exact M.icmp_same rfl rfl (M.wid (by omega) (by omega) (kk _ _ (LI_A hC)))
