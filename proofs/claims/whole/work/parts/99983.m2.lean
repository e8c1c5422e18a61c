/-! the law: cases 20, 21, 22, 23, 24, 25, 26, 27, 28, 29 -/
def tL_924 : List (Nat × Instr × Nat) := [(924, .aload_n 1, 1), (925, .aload_n 0, 1), (926, .iload_n 3, 1), (927, .iconst 1, 1), (928, .iadd, 1), (929, .iaload, 1), (930, .aload_n 0, 1), (931, .iload_n 3, 1), (932, .iconst 2, 1), (933, .iadd, 1), (934, .iaload, 1), (935, .aload_n 0, 1), (936, .iload_n 3, 1), (937, .iconst 3, 1), (938, .iadd, 1), (939, .iaload, 1), (940, .invokevirtual 101, 3), (943, .aload_n 2, 1), (944, .aload_n 0, 1), (945, .iload_n 3, 1), (946, .iconst 1, 1), (947, .iadd, 1), (948, .iaload, 1), (949, .aload_n 0, 1), (950, .iload_n 3, 1), (951, .iconst 2, 1), (952, .iadd, 1), (953, .iaload, 1), (954, .aload_n 0, 1), (955, .iload_n 3, 1), (956, .iconst 3, 1), (957, .iadd, 1), (958, .iaload, 1), (959, .invokevirtual 105, 3), (962, .if_icmp .eq 972, 3)]
set_option maxRecDepth 100000 in
theorem tL_924_ok : tL_924.all (fun q => decide (decode cL_law q.1 = .ok q.2)) = true := by decide +kernel
set_option maxHeartbeats 4000000 in
set_option maxRecDepth 100000 in
theorem law_20 (l : Launch) (G : GT) : LSt l G 924 := by
  intro nm ds t0 Qp sz sb Ln xs g kb o n wc wm k ns i MX0 hL hi hn h hk hns hkb kk
  obtain ⟨tl, fx, fx2, X, D, L, tl2, D2, L2, t, u, b0, hC⟩ := h
  have hC0 := hC
  obtain ⟨hp, hp2, h12, hE, hKr, hTm, hIm, hTx, hby, hu4, ht3, hu23⟩ := hC0
  obtain ⟨hT, hd, hJ, hi0, h9, hZ, hru, hs, hsd, hLk, hrg⟩ := PS_all hp
  have hkc := hKr.1
  obtain ⟨oc, hoc⟩ := isT_in hTm
  have MX := MX0.tab tL_924_ok
  have M := MX.S.M
  refine M.run 5 (pc' := 929) (lv' := [some (vr sb), some (vr kb), some (vr o), some (vi ((i : Nat) : Int))]) (st' := [vi ((i + 1 : Nat) : Int), vr sb, vr kb]) rfl ?_
  refine MX.sld (i + 1) rfl (by omega) hL ?_
  refine M.run 4 (pc' := 934) (lv' := [some (vr sb), some (vr kb), some (vr o), some (vi ((i : Nat) : Int))]) (st' := [vi ((i + 2 : Nat) : Int), vr sb, vi (xs (i + 1)).toInt, vr kb]) rfl ?_
  refine MX.sld (i + 2) rfl (by omega) hL ?_
  refine M.run 4 (pc' := 939) (lv' := [some (vr sb), some (vr kb), some (vr o), some (vi ((i : Nat) : Int))]) (st' := [vi ((i + 3 : Nat) : Int), vr sb, vi (xs (i + 2)).toInt, vi (xs (i + 1)).toInt, vr kb]) rfl ?_
  refine MX.sld (i + 3) rfl (by omega) hL ?_
  refine M.callVm (Ctr.frL wc wm (kX10_out l G kb tl fx fx2 X (b0 2) D L tl2 D2 L2 (b0 3) ((t : Nat) : Int) (u 5) (u 6) hT n hd (by omega) hJ hi0 h9 hZ hru ((xs (i + 1)).toInt) ((xs (i + 2)).toInt) ((xs (i + 3)).toInt) (i32b _) (i32b _) (i32b _))) cv_L_101 cd_X10_out rfl (st := []) rfl (in_l hkc) (by decide) (by decide) rfl (by omega) (by omega) ⟨rfl, hE, hKr⟩ (fun r1 w1 q1 => ?_)
  obtain ⟨wc1, ⟨q1r, q1c⟩, q1w⟩ := q1
  rw [q1r, q1w, q1c]
  refine M.run 5 (pc' := 948) (lv' := [some (vr sb), some (vr kb), some (vr o), some (vi ((i : Nat) : Int))]) (st' := [vi ((i + 1 : Nat) : Int), vr sb, vr o, vi _]) rfl ?_
  refine MX.sld (i + 1) rfl (by omega) hL ?_
  refine M.run 4 (pc' := 953) (lv' := [some (vr sb), some (vr kb), some (vr o), some (vi ((i : Nat) : Int))]) (st' := [vi ((i + 2 : Nat) : Int), vr sb, vi (xs (i + 1)).toInt, vr o, vi _]) rfl ?_
  refine MX.sld (i + 2) rfl (by omega) hL ?_
  refine M.run 4 (pc' := 958) (lv' := [some (vr sb), some (vr kb), some (vr o), some (vi ((i : Nat) : Int))]) (st' := [vi ((i + 3 : Nat) : Int), vr sb, vi (xs (i + 2)).toInt, vi (xs (i + 1)).toInt, vr o, vi _]) rfl ?_
  refine MX.sld (i + 3) rfl (by omega) hL ?_
  refine M.callVm (Ctr.frR wm wc (vX11_out l G o (aI o) u tl b0 D L n hT hd hi0 h9 hLk (by omega) (Or.inl hu23) X ⟨hTx, hru.2⟩ ((xs (i + 1)).toInt) ((xs (i + 2)).toInt) ((xs (i + 3)).toInt) (i32b _) (i32b _) (i32b _))) cv_L_105 cd_X11_out rfl (st := [vi _]) rfl (in_r hoc) (by decide) (by decide) rfl (by omega) (by omega) ⟨rfl, hTm⟩ (fun r2 w2 q2 => ?_)
  obtain ⟨wm1, ⟨q2r, q2c⟩, q2w⟩ := q2
  rw [q2r, q2w, q2c]
  exact M.icmp_same rfl rfl (M.wid (by omega) (by omega) (kk _ _ (LI_A hC)))
def tL_967 : List (Nat × Instr × Nat) := [(967, .aload_n 1, 1), (968, .aload_n 0, 1), (969, .iload_n 3, 1), (970, .iconst 1, 1), (971, .iadd, 1), (972, .iaload, 1), (973, .aload_n 0, 1), (974, .iload_n 3, 1), (975, .iconst 2, 1), (976, .iadd, 1), (977, .iaload, 1), (978, .invokevirtual 106, 3), (981, .aload_n 2, 1), (982, .aload_n 0, 1), (983, .iload_n 3, 1), (984, .iconst 1, 1), (985, .iadd, 1), (986, .iaload, 1), (987, .aload_n 0, 1), (988, .iload_n 3, 1), (989, .iconst 2, 1), (990, .iadd, 1), (991, .iaload, 1), (992, .invokevirtual 109, 3), (995, .if_icmp .eq 939, 3)]
set_option maxRecDepth 100000 in
theorem tL_967_ok : tL_967.all (fun q => decide (decode cL_law q.1 = .ok q.2)) = true := by decide +kernel
set_option maxHeartbeats 4000000 in
set_option maxRecDepth 100000 in
theorem law_21 (l : Launch) (G : GT) : LSt l G 967 := by
  intro nm ds t0 Qp sz sb Ln xs g kb o n wc wm k ns i MX0 hL hi hn h hk hns hkb kk
  obtain ⟨tl, fx, fx2, X, D, L, tl2, D2, L2, t, u, b0, hC⟩ := h
  have hC0 := hC
  obtain ⟨hp, hp2, h12, hE, hKr, hTm, hIm, hTx, hby, hu4, ht3, hu23⟩ := hC0
  obtain ⟨hT, hd, hJ, hi0, h9, hZ, hru, hs, hsd, hLk, hrg⟩ := PS_all hp
  have hkc := hKr.1
  obtain ⟨oc, hoc⟩ := isT_in hTm
  have MX := MX0.tab tL_967_ok
  have M := MX.S.M
  refine M.run 5 (pc' := 972) (lv' := [some (vr sb), some (vr kb), some (vr o), some (vi ((i : Nat) : Int))]) (st' := [vi ((i + 1 : Nat) : Int), vr sb, vr kb]) rfl ?_
  refine MX.sld (i + 1) rfl (by omega) hL ?_
  refine M.run 4 (pc' := 977) (lv' := [some (vr sb), some (vr kb), some (vr o), some (vi ((i : Nat) : Int))]) (st' := [vi ((i + 2 : Nat) : Int), vr sb, vi (xs (i + 1)).toInt, vr kb]) rfl ?_
  refine MX.sld (i + 2) rfl (by omega) hL ?_
  refine M.callVm (Ctr.frL wc wm (kX10_flight l G kb tl fx fx2 X (b0 2) D L tl2 D2 L2 (b0 3) ((t : Nat) : Int) (u 5) (u 6) hT n hd (by omega) hJ hi0 h9 hZ hru ((xs (i + 1)).toInt) ((xs (i + 2)).toInt) (i32b _) (i32b _))) cv_L_106 cd_X10_flight rfl (st := []) rfl (in_l hkc) (by decide) (by decide) rfl (by omega) (by omega) ⟨rfl, hE, hKr⟩ (fun r1 w1 q1 => ?_)
  obtain ⟨wc1, ⟨q1r, q1c⟩, q1w⟩ := q1
  rw [q1r, q1w, q1c]
  refine M.run 5 (pc' := 986) (lv' := [some (vr sb), some (vr kb), some (vr o), some (vi ((i : Nat) : Int))]) (st' := [vi ((i + 1 : Nat) : Int), vr sb, vr o, vi _]) rfl ?_
  refine MX.sld (i + 1) rfl (by omega) hL ?_
  refine M.run 4 (pc' := 991) (lv' := [some (vr sb), some (vr kb), some (vr o), some (vi ((i : Nat) : Int))]) (st' := [vi ((i + 2 : Nat) : Int), vr sb, vi (xs (i + 1)).toInt, vr o, vi _]) rfl ?_
  refine MX.sld (i + 2) rfl (by omega) hL ?_
  refine M.callVm (Ctr.frR wm wc (vX11_flight l G o (aI o) u tl b0 D L n hT hd hi0 h9 hLk (by omega) (Or.inl hu23) X ⟨hTx, hru.2⟩ ((xs (i + 1)).toInt) ((xs (i + 2)).toInt) (i32b _) (i32b _))) cv_L_109 cd_X11_flight rfl (st := [vi _]) rfl (in_r hoc) (by decide) (by decide) rfl (by omega) (by omega) ⟨rfl, hTm⟩ (fun r2 w2 q2 => ?_)
  obtain ⟨wm1, ⟨q2r, q2c⟩, q2w⟩ := q2
  rw [q2r, q2w, q2c]
  exact M.icmp_same rfl rfl (M.wid (by omega) (by omega) (kk _ _ (LI_A hC)))
def tL_1000 : List (Nat × Instr × Nat) := [(1000, .aload_n 1, 1), (1001, .aload_n 0, 1), (1002, .iload_n 3, 1), (1003, .iconst 1, 1), (1004, .iadd, 1), (1005, .iaload, 1), (1006, .aload_n 0, 1), (1007, .iload_n 3, 1), (1008, .iconst 2, 1), (1009, .iadd, 1), (1010, .iaload, 1), (1011, .invokevirtual 110, 3), (1014, .aload_n 2, 1), (1015, .aload_n 0, 1), (1016, .iload_n 3, 1), (1017, .iconst 1, 1), (1018, .iadd, 1), (1019, .iaload, 1), (1020, .aload_n 0, 1), (1021, .iload_n 3, 1), (1022, .iconst 2, 1), (1023, .iadd, 1), (1024, .iaload, 1), (1025, .invokevirtual 113, 3), (1028, .if_icmp .eq 906, 3)]
set_option maxRecDepth 100000 in
theorem tL_1000_ok : tL_1000.all (fun q => decide (decode cL_law q.1 = .ok q.2)) = true := by decide +kernel
set_option maxHeartbeats 4000000 in
set_option maxRecDepth 100000 in
theorem law_22 (l : Launch) (G : GT) : LSt l G 1000 := by
  intro nm ds t0 Qp sz sb Ln xs g kb o n wc wm k ns i MX0 hL hi hn h hk hns hkb kk
  obtain ⟨tl, fx, fx2, X, D, L, tl2, D2, L2, t, u, b0, hC⟩ := h
  have hC0 := hC
  obtain ⟨hp, hp2, h12, hE, hKr, hTm, hIm, hTx, hby, hu4, ht3, hu23⟩ := hC0
  obtain ⟨hT, hd, hJ, hi0, h9, hZ, hru, hs, hsd, hLk, hrg⟩ := PS_all hp
  have hkc := hKr.1
  obtain ⟨oc, hoc⟩ := isT_in hTm
  have MX := MX0.tab tL_1000_ok
  have M := MX.S.M
  refine M.run 5 (pc' := 1005) (lv' := [some (vr sb), some (vr kb), some (vr o), some (vi ((i : Nat) : Int))]) (st' := [vi ((i + 1 : Nat) : Int), vr sb, vr kb]) rfl ?_
  refine MX.sld (i + 1) rfl (by omega) hL ?_
  refine M.run 4 (pc' := 1010) (lv' := [some (vr sb), some (vr kb), some (vr o), some (vi ((i : Nat) : Int))]) (st' := [vi ((i + 2 : Nat) : Int), vr sb, vi (xs (i + 1)).toInt, vr kb]) rfl ?_
  refine MX.sld (i + 2) rfl (by omega) hL ?_
  refine M.callVm (Ctr.frL wc wm (kX10_timer l G kb tl fx fx2 X (b0 2) D L tl2 D2 L2 (b0 3) ((t : Nat) : Int) (u 5) (u 6) hT n hd (by omega) hJ hi0 h9 hZ hru ((xs (i + 1)).toInt) ((xs (i + 2)).toInt) (i32b _) (i32b _))) cv_L_110 cd_X10_timer rfl (st := []) rfl (in_l hkc) (by decide) (by decide) rfl (by omega) (by omega) ⟨rfl, hE, hKr⟩ (fun r1 w1 q1 => ?_)
  obtain ⟨wc1, ⟨q1r, q1c⟩, q1w⟩ := q1
  rw [q1r, q1w, q1c]
  refine M.run 5 (pc' := 1019) (lv' := [some (vr sb), some (vr kb), some (vr o), some (vi ((i : Nat) : Int))]) (st' := [vi ((i + 1 : Nat) : Int), vr sb, vr o, vi _]) rfl ?_
  refine MX.sld (i + 1) rfl (by omega) hL ?_
  refine M.run 4 (pc' := 1024) (lv' := [some (vr sb), some (vr kb), some (vr o), some (vi ((i : Nat) : Int))]) (st' := [vi ((i + 2 : Nat) : Int), vr sb, vi (xs (i + 1)).toInt, vr o, vi _]) rfl ?_
  refine MX.sld (i + 2) rfl (by omega) hL ?_
  refine M.callVm (Ctr.frR wm wc (vX11_timer l G o (aI o) u tl b0 D L n hT hd hi0 h9 hLk (by omega) (Or.inl hu23) X ⟨hTx, hru.2⟩ ((xs (i + 1)).toInt) ((xs (i + 2)).toInt) (i32b _) (i32b _))) cv_L_113 cd_X11_timer rfl (st := [vi _]) rfl (in_r hoc) (by decide) (by decide) rfl (by omega) (by omega) ⟨rfl, hTm⟩ (fun r2 w2 q2 => ?_)
  obtain ⟨wm1, ⟨q2r, q2c⟩, q2w⟩ := q2
  rw [q2r, q2w, q2c]
  exact M.icmp_same rfl rfl (M.wid (by omega) (by omega) (kk _ _ (LI_A hC)))
def tL_1033 : List (Nat × Instr × Nat) := [(1033, .aload_n 1, 1), (1034, .aload_n 0, 1), (1035, .iload_n 3, 1), (1036, .iconst 1, 1), (1037, .iadd, 1), (1038, .iaload, 1), (1039, .invokevirtual 114, 3), (1042, .aload_n 2, 1), (1043, .aload_n 0, 1), (1044, .iload_n 3, 1), (1045, .iconst 1, 1), (1046, .iadd, 1), (1047, .iaload, 1), (1048, .invokevirtual 117, 3), (1051, .if_icmp .eq 883, 3)]
set_option maxRecDepth 100000 in
theorem tL_1033_ok : tL_1033.all (fun q => decide (decode cL_law q.1 = .ok q.2)) = true := by decide +kernel
set_option maxHeartbeats 4000000 in
set_option maxRecDepth 100000 in
theorem law_23 (l : Launch) (G : GT) : LSt l G 1033 := by
  intro nm ds t0 Qp sz sb Ln xs g kb o n wc wm k ns i MX0 hL hi hn h hk hns hkb kk
  obtain ⟨tl, fx, fx2, X, D, L, tl2, D2, L2, t, u, b0, hC⟩ := h
  have hC0 := hC
  obtain ⟨hp, hp2, h12, hE, hKr, hTm, hIm, hTx, hby, hu4, ht3, hu23⟩ := hC0
  obtain ⟨hT, hd, hJ, hi0, h9, hZ, hru, hs, hsd, hLk, hrg⟩ := PS_all hp
  have hkc := hKr.1
  obtain ⟨oc, hoc⟩ := isT_in hTm
  have MX := MX0.tab tL_1033_ok
  have M := MX.S.M
  refine M.run 5 (pc' := 1038) (lv' := [some (vr sb), some (vr kb), some (vr o), some (vi ((i : Nat) : Int))]) (st' := [vi ((i + 1 : Nat) : Int), vr sb, vr kb]) rfl ?_
  refine MX.sld (i + 1) rfl (by omega) hL ?_
  refine M.callVm (Ctr.frL wc wm (kX10_is l G kb tl fx fx2 X (b0 2) D L tl2 D2 L2 (b0 3) ((t : Nat) : Int) (u 5) (u 6) hT n hd (by omega) hJ hi0 h9 hZ hru ((xs (i + 1)).toInt) (i32b _))) cv_L_114 cd_X10_is rfl (st := []) rfl (in_l hkc) (by decide) (by decide) rfl (by omega) (by omega) ⟨rfl, hE, hKr⟩ (fun r1 w1 q1 => ?_)
  obtain ⟨wc1, ⟨q1r, q1c⟩, q1w⟩ := q1
  rw [q1r, q1w, q1c]
  refine M.run 5 (pc' := 1047) (lv' := [some (vr sb), some (vr kb), some (vr o), some (vi ((i : Nat) : Int))]) (st' := [vi ((i + 1 : Nat) : Int), vr sb, vr o, vi _]) rfl ?_
  refine MX.sld (i + 1) rfl (by omega) hL ?_
  refine M.callVm (Ctr.frR wm wc (vX11_is l G o (aI o) u tl b0 D L n hT hd hi0 h9 hLk (by omega) (Or.inl hu23) X ⟨hTx, hru.2⟩ ((xs (i + 1)).toInt) (i32b _))) cv_L_117 cd_X11_is rfl (st := [vi _]) rfl (in_r hoc) (by decide) (by decide) rfl (by omega) (by omega) ⟨rfl, hTm⟩ (fun r2 w2 q2 => ?_)
  obtain ⟨wm1, ⟨q2r, q2c⟩, q2w⟩ := q2
  rw [q2r, q2w, q2c]
  exact M.icmp_same rfl rfl (M.wid (by omega) (by omega) (kk _ _ (LI_A hC)))
def tL_1056 : List (Nat × Instr × Nat) := [(1056, .aload_n 1, 1), (1057, .aload_n 0, 1), (1058, .iload_n 3, 1), (1059, .iconst 1, 1), (1060, .iadd, 1), (1061, .iaload, 1), (1062, .invokevirtual 118, 3), (1065, .aload_n 2, 1), (1066, .aload_n 0, 1), (1067, .iload_n 3, 1), (1068, .iconst 1, 1), (1069, .iadd, 1), (1070, .iaload, 1), (1071, .invokevirtual 121, 3), (1074, .if_icmp .eq 860, 3)]
set_option maxRecDepth 100000 in
theorem tL_1056_ok : tL_1056.all (fun q => decide (decode cL_law q.1 = .ok q.2)) = true := by decide +kernel
set_option maxHeartbeats 4000000 in
set_option maxRecDepth 100000 in
theorem law_24 (l : Launch) (G : GT) : LSt l G 1056 := by
  intro nm ds t0 Qp sz sb Ln xs g kb o n wc wm k ns i MX0 hL hi hn h hk hns hkb kk
  obtain ⟨tl, fx, fx2, X, D, L, tl2, D2, L2, t, u, b0, hC⟩ := h
  have hC0 := hC
  obtain ⟨hp, hp2, h12, hE, hKr, hTm, hIm, hTx, hby, hu4, ht3, hu23⟩ := hC0
  obtain ⟨hT, hd, hJ, hi0, h9, hZ, hru, hs, hsd, hLk, hrg⟩ := PS_all hp
  have hkc := hKr.1
  obtain ⟨oc, hoc⟩ := isT_in hTm
  have MX := MX0.tab tL_1056_ok
  have M := MX.S.M
  refine M.run 5 (pc' := 1061) (lv' := [some (vr sb), some (vr kb), some (vr o), some (vi ((i : Nat) : Int))]) (st' := [vi ((i + 1 : Nat) : Int), vr sb, vr kb]) rfl ?_
  refine MX.sld (i + 1) rfl (by omega) hL ?_
  refine M.callVm (Ctr.frL wc wm (kX10_seen l G kb tl fx fx2 X (b0 2) D L tl2 D2 L2 (b0 3) ((t : Nat) : Int) (u 5) (u 6) hT n hd (by omega) hJ hi0 h9 hZ hru ((xs (i + 1)).toInt) (i32b _))) cv_L_118 cd_X10_seen rfl (st := []) rfl (in_l hkc) (by decide) (by decide) rfl (by omega) (by omega) ⟨rfl, hE, hKr⟩ (fun r1 w1 q1 => ?_)
  obtain ⟨wc1, ⟨q1r, q1c⟩, q1w⟩ := q1
  rw [q1r, q1w, q1c]
  refine M.run 5 (pc' := 1070) (lv' := [some (vr sb), some (vr kb), some (vr o), some (vi ((i : Nat) : Int))]) (st' := [vi ((i + 1 : Nat) : Int), vr sb, vr o, vi _]) rfl ?_
  refine MX.sld (i + 1) rfl (by omega) hL ?_
  refine M.callVm (Ctr.frR wm wc (vX11_seen l G o (aI o) u tl b0 D L n hT hd hi0 h9 hLk (by omega) (Or.inl hu23) X ⟨hTx, hru.2⟩ ((xs (i + 1)).toInt) (i32b _))) cv_L_121 cd_X11_seen rfl (st := [vi _]) rfl (in_r hoc) (by decide) (by decide) rfl (by omega) (by omega) ⟨rfl, hTm⟩ (fun r2 w2 q2 => ?_)
  obtain ⟨wm1, ⟨q2r, q2c⟩, q2w⟩ := q2
  rw [q2r, q2w, q2c]
  exact M.icmp_same rfl rfl (M.wid (by omega) (by omega) (kk _ _ (LI_A hC)))
def tL_1079 : List (Nat × Instr × Nat) := [(1079, .aload_n 1, 1), (1080, .aload_n 0, 1), (1081, .iload_n 3, 1), (1082, .iconst 1, 1), (1083, .iadd, 1), (1084, .iaload, 1), (1085, .invokevirtual 122, 3), (1088, .aload_n 2, 1), (1089, .aload_n 0, 1), (1090, .iload_n 3, 1), (1091, .iconst 1, 1), (1092, .iadd, 1), (1093, .iaload, 1), (1094, .invokevirtual 125, 3), (1097, .if_icmp .eq 837, 3)]
set_option maxRecDepth 100000 in
theorem tL_1079_ok : tL_1079.all (fun q => decide (decode cL_law q.1 = .ok q.2)) = true := by decide +kernel
set_option maxHeartbeats 4000000 in
set_option maxRecDepth 100000 in
theorem law_25 (l : Launch) (G : GT) : LSt l G 1079 := by
  intro nm ds t0 Qp sz sb Ln xs g kb o n wc wm k ns i MX0 hL hi hn h hk hns hkb kk
  obtain ⟨tl, fx, fx2, X, D, L, tl2, D2, L2, t, u, b0, hC⟩ := h
  have hC0 := hC
  obtain ⟨hp, hp2, h12, hE, hKr, hTm, hIm, hTx, hby, hu4, ht3, hu23⟩ := hC0
  obtain ⟨hT, hd, hJ, hi0, h9, hZ, hru, hs, hsd, hLk, hrg⟩ := PS_all hp
  have hkc := hKr.1
  obtain ⟨oc, hoc⟩ := isT_in hTm
  have MX := MX0.tab tL_1079_ok
  have M := MX.S.M
  refine M.run 5 (pc' := 1084) (lv' := [some (vr sb), some (vr kb), some (vr o), some (vi ((i : Nat) : Int))]) (st' := [vi ((i + 1 : Nat) : Int), vr sb, vr kb]) rfl ?_
  refine MX.sld (i + 1) rfl (by omega) hL ?_
  refine M.callVm (Ctr.frL wc wm (kX10_until l G kb tl fx fx2 X (b0 2) D L tl2 D2 L2 (b0 3) ((t : Nat) : Int) (u 5) (u 6) hT n hd (by omega) hJ hi0 h9 hZ hru ((xs (i + 1)).toInt) (i32b _))) cv_L_122 cd_X10_until rfl (st := []) rfl (in_l hkc) (by decide) (by decide) rfl (by omega) (by omega) ⟨rfl, hE, hKr⟩ (fun r1 w1 q1 => ?_)
  obtain ⟨wc1, ⟨q1r, q1c⟩, q1w⟩ := q1
  rw [q1r, q1w, q1c]
  refine M.run 5 (pc' := 1093) (lv' := [some (vr sb), some (vr kb), some (vr o), some (vi ((i : Nat) : Int))]) (st' := [vi ((i + 1 : Nat) : Int), vr sb, vr o, vi _]) rfl ?_
  refine MX.sld (i + 1) rfl (by omega) hL ?_
  refine M.callVm (Ctr.frR wm wc (vX11_until l G o (aI o) u tl b0 D L n hT hd hi0 h9 hLk (by omega) (Or.inl hu23) X ⟨hTx, hru.2⟩ ((xs (i + 1)).toInt) (i32b _))) cv_L_125 cd_X11_until rfl (st := [vi _]) rfl (in_r hoc) (by decide) (by decide) rfl (by omega) (by omega) ⟨rfl, hTm⟩ (fun r2 w2 q2 => ?_)
  obtain ⟨wm1, ⟨q2r, q2c⟩, q2w⟩ := q2
  rw [q2r, q2w, q2c]
  exact M.icmp_same rfl rfl (M.wid (by omega) (by omega) (kk _ _ (LI_A hC)))
def tL_1102 : List (Nat × Instr × Nat) := [(1102, .aload_n 1, 1), (1103, .aload_n 0, 1), (1104, .iload_n 3, 1), (1105, .iconst 1, 1), (1106, .iadd, 1), (1107, .iaload, 1), (1108, .aload_n 0, 1), (1109, .iload_n 3, 1), (1110, .iconst 2, 1), (1111, .iadd, 1), (1112, .iaload, 1), (1113, .invokevirtual 126, 3), (1116, .aload_n 2, 1), (1117, .aload_n 0, 1), (1118, .iload_n 3, 1), (1119, .iconst 1, 1), (1120, .iadd, 1), (1121, .iaload, 1), (1122, .aload_n 0, 1), (1123, .iload_n 3, 1), (1124, .iconst 2, 1), (1125, .iadd, 1), (1126, .iaload, 1), (1127, .invokevirtual 129, 3), (1130, .if_icmp .eq 804, 3)]
set_option maxRecDepth 100000 in
theorem tL_1102_ok : tL_1102.all (fun q => decide (decode cL_law q.1 = .ok q.2)) = true := by decide +kernel
set_option maxHeartbeats 4000000 in
set_option maxRecDepth 100000 in
theorem law_26 (l : Launch) (G : GT) : LSt l G 1102 := by
  intro nm ds t0 Qp sz sb Ln xs g kb o n wc wm k ns i MX0 hL hi hn h hk hns hkb kk
  obtain ⟨tl, fx, fx2, X, D, L, tl2, D2, L2, t, u, b0, hC⟩ := h
  have hC0 := hC
  obtain ⟨hp, hp2, h12, hE, hKr, hTm, hIm, hTx, hby, hu4, ht3, hu23⟩ := hC0
  obtain ⟨hT, hd, hJ, hi0, h9, hZ, hru, hs, hsd, hLk, hrg⟩ := PS_all hp
  have hkc := hKr.1
  obtain ⟨oc, hoc⟩ := isT_in hTm
  have MX := MX0.tab tL_1102_ok
  have M := MX.S.M
  refine M.run 5 (pc' := 1107) (lv' := [some (vr sb), some (vr kb), some (vr o), some (vi ((i : Nat) : Int))]) (st' := [vi ((i + 1 : Nat) : Int), vr sb, vr kb]) rfl ?_
  refine MX.sld (i + 1) rfl (by omega) hL ?_
  refine M.run 4 (pc' := 1112) (lv' := [some (vr sb), some (vr kb), some (vr o), some (vi ((i : Nat) : Int))]) (st' := [vi ((i + 2 : Nat) : Int), vr sb, vi (xs (i + 1)).toInt, vr kb]) rfl ?_
  refine MX.sld (i + 2) rfl (by omega) hL ?_
  refine M.callVm (Ctr.frL wc wm (kX10_book l G kb tl fx fx2 X (b0 2) D L tl2 D2 L2 (b0 3) ((t : Nat) : Int) (u 5) (u 6) hT n hd (by omega) hJ hi0 h9 hZ hru ((xs (i + 1)).toInt) ((xs (i + 2)).toInt) (i32b _) (i32b _))) cv_L_126 cd_X10_book rfl (st := []) rfl (in_l hkc) (by decide) (by decide) rfl (by omega) (by omega) ⟨rfl, hE, hKr⟩ (fun r1 w1 q1 => ?_)
  obtain ⟨wc1, ⟨q1r, q1c⟩, q1w⟩ := q1
  rw [q1r, q1w, q1c]
  refine M.run 5 (pc' := 1121) (lv' := [some (vr sb), some (vr kb), some (vr o), some (vi ((i : Nat) : Int))]) (st' := [vi ((i + 1 : Nat) : Int), vr sb, vr o, vi _]) rfl ?_
  refine MX.sld (i + 1) rfl (by omega) hL ?_
  refine M.run 4 (pc' := 1126) (lv' := [some (vr sb), some (vr kb), some (vr o), some (vi ((i : Nat) : Int))]) (st' := [vi ((i + 2 : Nat) : Int), vr sb, vi (xs (i + 1)).toInt, vr o, vi _]) rfl ?_
  refine MX.sld (i + 2) rfl (by omega) hL ?_
  refine M.callVm (Ctr.frR wm wc (vX11_book l G o (aI o) u tl b0 D L n hT hd hi0 h9 hLk (by omega) (Or.inl hu23) X ⟨hTx, hru.2⟩ ((xs (i + 1)).toInt) ((xs (i + 2)).toInt) (i32b _) (i32b _))) cv_L_129 cd_X11_book rfl (st := [vi _]) rfl (in_r hoc) (by decide) (by decide) rfl (by omega) (by omega) ⟨rfl, hTm⟩ (fun r2 w2 q2 => ?_)
  obtain ⟨wm1, ⟨q2r, q2c⟩, q2w⟩ := q2
  rw [q2r, q2w, q2c]
  exact M.icmp_same rfl rfl (M.wid (by omega) (by omega) (kk _ _ (LI_A hC)))
def tL_1135 : List (Nat × Instr × Nat) := [(1135, .aload_n 1, 1), (1136, .aload_n 0, 1), (1137, .iload_n 3, 1), (1138, .iconst 1, 1), (1139, .iadd, 1), (1140, .iaload, 1), (1141, .aload_n 0, 1), (1142, .iload_n 3, 1), (1143, .iconst 2, 1), (1144, .iadd, 1), (1145, .iaload, 1), (1146, .aload_n 0, 1), (1147, .iload_n 3, 1), (1148, .iconst 3, 1), (1149, .iadd, 1), (1150, .iaload, 1), (1151, .invokevirtual 130, 3), (1154, .aload_n 2, 1), (1155, .aload_n 0, 1), (1156, .iload_n 3, 1), (1157, .iconst 1, 1), (1158, .iadd, 1), (1159, .iaload, 1), (1160, .aload_n 0, 1), (1161, .iload_n 3, 1), (1162, .iconst 2, 1), (1163, .iadd, 1), (1164, .iaload, 1), (1165, .aload_n 0, 1), (1166, .iload_n 3, 1), (1167, .iconst 3, 1), (1168, .iadd, 1), (1169, .iaload, 1), (1170, .invokevirtual 133, 3), (1173, .if_icmp .eq 761, 3)]
set_option maxRecDepth 100000 in
theorem tL_1135_ok : tL_1135.all (fun q => decide (decode cL_law q.1 = .ok q.2)) = true := by decide +kernel
set_option maxHeartbeats 4000000 in
set_option maxRecDepth 100000 in
theorem law_27 (l : Launch) (G : GT) : LSt l G 1135 := by
  intro nm ds t0 Qp sz sb Ln xs g kb o n wc wm k ns i MX0 hL hi hn h hk hns hkb kk
  obtain ⟨tl, fx, fx2, X, D, L, tl2, D2, L2, t, u, b0, hC⟩ := h
  have hC0 := hC
  obtain ⟨hp, hp2, h12, hE, hKr, hTm, hIm, hTx, hby, hu4, ht3, hu23⟩ := hC0
  obtain ⟨hT, hd, hJ, hi0, h9, hZ, hru, hs, hsd, hLk, hrg⟩ := PS_all hp
  have hkc := hKr.1
  obtain ⟨oc, hoc⟩ := isT_in hTm
  have MX := MX0.tab tL_1135_ok
  have M := MX.S.M
  refine M.run 5 (pc' := 1140) (lv' := [some (vr sb), some (vr kb), some (vr o), some (vi ((i : Nat) : Int))]) (st' := [vi ((i + 1 : Nat) : Int), vr sb, vr kb]) rfl ?_
  refine MX.sld (i + 1) rfl (by omega) hL ?_
  refine M.run 4 (pc' := 1145) (lv' := [some (vr sb), some (vr kb), some (vr o), some (vi ((i : Nat) : Int))]) (st' := [vi ((i + 2 : Nat) : Int), vr sb, vi (xs (i + 1)).toInt, vr kb]) rfl ?_
  refine MX.sld (i + 2) rfl (by omega) hL ?_
  refine M.run 4 (pc' := 1150) (lv' := [some (vr sb), some (vr kb), some (vr o), some (vi ((i : Nat) : Int))]) (st' := [vi ((i + 3 : Nat) : Int), vr sb, vi (xs (i + 2)).toInt, vi (xs (i + 1)).toInt, vr kb]) rfl ?_
  refine MX.sld (i + 3) rfl (by omega) hL ?_
  refine M.callVm (Ctr.frL wc wm (kX10_foretold l G kb tl fx fx2 X (b0 2) D L tl2 D2 L2 (b0 3) ((t : Nat) : Int) (u 5) (u 6) hT n hs (by omega) hZ hru ((xs (i + 1)).toInt) ((xs (i + 2)).toInt) ((xs (i + 3)).toInt) (i32b _) (i32b _) (i32b _))) cv_L_130 cd_X10_foretold rfl (st := []) rfl (in_l hkc) (by decide) (by decide) rfl (by omega) (by omega) ⟨rfl, hE, hKr⟩ (fun r1 w1 q1 => ?_)
  obtain ⟨wc1, ⟨q1r, qE, qK⟩, q1w⟩ := q1
  rw [q1r, q1w]
  refine M.run 5 (pc' := 1159) (lv' := [some (vr sb), some (vr kb), some (vr o), some (vi ((i : Nat) : Int))]) (st' := [vi ((i + 1 : Nat) : Int), vr sb, vr o, vi _]) rfl ?_
  refine MX.sld (i + 1) rfl (by omega) hL ?_
  refine M.run 4 (pc' := 1164) (lv' := [some (vr sb), some (vr kb), some (vr o), some (vi ((i : Nat) : Int))]) (st' := [vi ((i + 2 : Nat) : Int), vr sb, vi (xs (i + 1)).toInt, vr o, vi _]) rfl ?_
  refine MX.sld (i + 2) rfl (by omega) hL ?_
  refine M.run 4 (pc' := 1169) (lv' := [some (vr sb), some (vr kb), some (vr o), some (vi ((i : Nat) : Int))]) (st' := [vi ((i + 3 : Nat) : Int), vr sb, vi (xs (i + 2)).toInt, vi (xs (i + 1)).toInt, vr o, vi _]) rfl ?_
  refine MX.sld (i + 3) rfl (by omega) hL ?_
  refine M.callVm (Ctr.frR wm wc1 (vX11_foretold l G o (aI o) u tl b0 D L n hT hd hi0 h9 hLk (by omega) (Or.inl hu23) X ⟨hTx, hru.2⟩ ((xs (i + 1)).toInt) ((xs (i + 2)).toInt) ((xs (i + 3)).toInt) (i32b _) (i32b _) (i32b _))) cv_L_133 cd_X11_foretold rfl (st := [vi _]) rfl (in_r hoc) (by decide) (by decide) rfl (by omega) (by omega) ⟨rfl, hTm⟩ (fun r2 w2 q2 => ?_)
  obtain ⟨wm1, ⟨q2r, b1, qM, qb⟩, q2w⟩ := q2
  rw [q2r, q2w]
  rw [hu23]
  rw [foC_eq]
  exact M.icmp_same rfl rfl (M.wid (by omega) (by omega) (kk _ _ (LI_B hC qE qK qM qb)))
def tL_1178 : List (Nat × Instr × Nat) := [(1178, .aload_n 1, 1), (1179, .aload_n 0, 1), (1180, .iload_n 3, 1), (1181, .iconst 1, 1), (1182, .iadd, 1), (1183, .iaload, 1), (1184, .invokevirtual 134, 3), (1187, .aload_n 2, 1), (1188, .aload_n 0, 1), (1189, .iload_n 3, 1), (1190, .iconst 1, 1), (1191, .iadd, 1), (1192, .iaload, 1), (1193, .invokevirtual 137, 3), (1196, .if_icmp .eq 738, 3)]
set_option maxRecDepth 100000 in
theorem tL_1178_ok : tL_1178.all (fun q => decide (decode cL_law q.1 = .ok q.2)) = true := by decide +kernel
set_option maxHeartbeats 4000000 in
set_option maxRecDepth 100000 in
theorem law_28 (l : Launch) (G : GT) : LSt l G 1178 := by
  intro nm ds t0 Qp sz sb Ln xs g kb o n wc wm k ns i MX0 hL hi hn h hk hns hkb kk
  obtain ⟨tl, fx, fx2, X, D, L, tl2, D2, L2, t, u, b0, hC⟩ := h
  have hC0 := hC
  obtain ⟨hp, hp2, h12, hE, hKr, hTm, hIm, hTx, hby, hu4, ht3, hu23⟩ := hC0
  obtain ⟨hT, hd, hJ, hi0, h9, hZ, hru, hs, hsd, hLk, hrg⟩ := PS_all hp
  have hkc := hKr.1
  obtain ⟨oc, hoc⟩ := isT_in hTm
  have MX := MX0.tab tL_1178_ok
  have M := MX.S.M
  refine M.run 5 (pc' := 1183) (lv' := [some (vr sb), some (vr kb), some (vr o), some (vi ((i : Nat) : Int))]) (st' := [vi ((i + 1 : Nat) : Int), vr sb, vr kb]) rfl ?_
  refine MX.sld (i + 1) rfl (by omega) hL ?_
  refine M.callVm (Ctr.frL wc wm (kX10_till l G kb tl fx fx2 X (b0 2) D L tl2 D2 L2 (b0 3) ((t : Nat) : Int) (u 5) (u 6) hT n hs (by omega) hZ hru ((xs (i + 1)).toInt) (i32b _))) cv_L_134 cd_X10_till rfl (st := []) rfl (in_l hkc) (by decide) (by decide) rfl (by omega) (by omega) ⟨rfl, hE, hKr⟩ (fun r1 w1 q1 => ?_)
  obtain ⟨wc1, ⟨q1r, qE, qK⟩, q1w⟩ := q1
  rw [q1r, q1w]
  refine M.run 5 (pc' := 1192) (lv' := [some (vr sb), some (vr kb), some (vr o), some (vi ((i : Nat) : Int))]) (st' := [vi ((i + 1 : Nat) : Int), vr sb, vr o, vi _]) rfl ?_
  refine MX.sld (i + 1) rfl (by omega) hL ?_
  refine M.callVm (Ctr.frR wm wc1 (vX11_till l G o (aI o) u tl b0 D L n hT hd hi0 h9 hLk (by omega) (Or.inl hu23) X ⟨hTx, hru.2⟩ ((xs (i + 1)).toInt) (i32b _))) cv_L_137 cd_X11_till rfl (st := [vi _]) rfl (in_r hoc) (by decide) (by decide) rfl (by omega) (by omega) ⟨rfl, hTm⟩ (fun r2 w2 q2 => ?_)
  obtain ⟨wm1, ⟨q2r, b1, qM, qb⟩, q2w⟩ := q2
  rw [q2r, q2w]
  rw [hu23]
  exact M.icmp_same rfl rfl (M.wid (by omega) (by omega) (kk _ _ (LI_B hC qE qK qM qb)))
def tL_1201 : List (Nat × Instr × Nat) := [(1201, .aload_n 1, 1), (1202, .aload_n 0, 1), (1203, .iload_n 3, 1), (1204, .iconst 1, 1), (1205, .iadd, 1), (1206, .iaload, 1), (1207, .invokevirtual 138, 3), (1210, .aload_n 2, 1), (1211, .aload_n 0, 1), (1212, .iload_n 3, 1), (1213, .iconst 1, 1), (1214, .iadd, 1), (1215, .iaload, 1), (1216, .invokevirtual 141, 3), (1219, .if_icmp .eq 715, 3)]
set_option maxRecDepth 100000 in
theorem tL_1201_ok : tL_1201.all (fun q => decide (decode cL_law q.1 = .ok q.2)) = true := by decide +kernel
set_option maxHeartbeats 4000000 in
set_option maxRecDepth 100000 in
theorem law_29 (l : Launch) (G : GT) : LSt l G 1201 := by
  intro nm ds t0 Qp sz sb Ln xs g kb o n wc wm k ns i MX0 hL hi hn h hk hns hkb kk
  obtain ⟨tl, fx, fx2, X, D, L, tl2, D2, L2, t, u, b0, hC⟩ := h
  have hC0 := hC
  obtain ⟨hp, hp2, h12, hE, hKr, hTm, hIm, hTx, hby, hu4, ht3, hu23⟩ := hC0
  obtain ⟨hT, hd, hJ, hi0, h9, hZ, hru, hs, hsd, hLk, hrg⟩ := PS_all hp
  have hkc := hKr.1
  obtain ⟨oc, hoc⟩ := isT_in hTm
  have MX := MX0.tab tL_1201_ok
  have M := MX.S.M
  refine M.run 5 (pc' := 1206) (lv' := [some (vr sb), some (vr kb), some (vr o), some (vi ((i : Nat) : Int))]) (st' := [vi ((i + 1 : Nat) : Int), vr sb, vr kb]) rfl ?_
  refine MX.sld (i + 1) rfl (by omega) hL ?_
  refine M.callVm (Ctr.frL wc wm (kX10_ideal l G kb tl fx fx2 X (b0 2) D L tl2 D2 L2 (b0 3) ((t : Nat) : Int) (u 5) (u 6) hT n hs (by omega) hZ hru ((xs (i + 1)).toInt) (i32b _))) cv_L_138 cd_X10_ideal rfl (st := []) rfl (in_l hkc) (by decide) (by decide) rfl (by omega) (by omega) ⟨rfl, hE, hKr⟩ (fun r1 w1 q1 => ?_)
  obtain ⟨wc1, ⟨q1r, qE, qK⟩, q1w⟩ := q1
  rw [q1r, q1w]
  refine M.run 5 (pc' := 1215) (lv' := [some (vr sb), some (vr kb), some (vr o), some (vi ((i : Nat) : Int))]) (st' := [vi ((i + 1 : Nat) : Int), vr sb, vr o, vi _]) rfl ?_
  refine MX.sld (i + 1) rfl (by omega) hL ?_
  refine M.callVm (Ctr.frR wm wc1 (vX11_ideal l G o (aI o) u tl b0 D L n hT hd hi0 h9 hLk (by omega) (Or.inl hu23) X ⟨hTx, hru.2⟩ ((xs (i + 1)).toInt) (i32b _) hu23)) cv_L_141 cd_X11_ideal rfl (st := [vi _]) rfl (in_r hoc) (by decide) (by decide) rfl (by omega) (by omega) ⟨rfl, hTm⟩ (fun r2 w2 q2 => ?_)
  obtain ⟨wm1, ⟨q2r, b1, qM, qb⟩, q2w⟩ := q2
  rw [q2r, q2w]
  exact M.icmp_same rfl rfl (M.wid (by omega) (by omega) (kk _ _ (LI_B hC qE qK qM qb)))
