/-! two parts of a world; the reference's constructor beside the class -/
theorem va_D_nd {A : Nat → Prop} {ws : va_W} : va_D A ws ↔ (ws.map (fun q => q.1)).Nodup ∧ ∀ q ∈ ws, A q.1 := by
  constructor
  · intro h
    refine ⟨?_, fun q hq => ?_⟩
    · unfold List.Nodup
      refine List.pairwise_iff_getElem.mpr (fun i j hi hj hij e => ?_)
      rw [List.length_map] at hi hj
      rw [List.getElem_map, List.getElem_map] at e
      have := h.1 i j _ _ (List.getElem?_eq_getElem hi) (List.getElem?_eq_getElem hj) e
      omega
    · obtain ⟨i, hi⟩ := List.getElem?_of_mem hq
      exact h.2 i q hi
  · intro ⟨h1, h2⟩
    unfold List.Nodup at h1
    have h3 := List.pairwise_iff_getElem.mp h1
    refine ⟨fun i j p q hi hj e => ?_, fun i q hi => h2 q (List.mem_of_getElem? hi)⟩
    obtain ⟨li, ei⟩ := List.getElem?_eq_some_iff.mp hi
    obtain ⟨lj, ej⟩ := List.getElem?_eq_some_iff.mp hj
    rcases Nat.lt_trichotomy i j with c | c | c
    · exact absurd (by rw [List.getElem_map, List.getElem_map, ei, ej]; exact e) (h3 i j (by rw [List.length_map]; exact li) (by rw [List.length_map]; exact lj) c)
    · exact c
    · exact absurd (by rw [List.getElem_map, List.getElem_map, ei, ej]; exact e.symm) (h3 j i (by rw [List.length_map]; exact lj) (by rw [List.length_map]; exact li) c)
abbrev fil (p : Nat → Bool) (w : Wo) : Wo := w.filter (fun q => p q.1)
theorem lk_fil {p : Nat → Bool} {a : Nat} (h : p a = true) : ∀ w : Wo, lk (fil p w) a = lk w a
  | [] => rfl
  | q :: w => by
    show lk (List.filter (fun q => p q.1) (q :: w)) a = _
    rw [List.filter_cons]
    by_cases c : p q.1 = true
    · rw [if_pos c, lk_cons, lk_cons, show lk (List.filter (fun q => p q.1) w) a = lk w a from lk_fil h w]
    · rw [if_neg c, lk_cons, if_neg (fun e => c (by rw [e]; exact h))]
      exact lk_fil h w
theorem Mach.split {l : Launch} {G : GT} {y : MethodName} {cc : ByteArray} {t : Tab} {nL : Nat} {ret : Option FieldType} {d mc ms : Nat} {Qp : Option AV → Wo → Prop} {g : gF} {k n : Nat} {w : Wo} {pc : Nat} {lv : Lo} {st : List AV} (p : Nat → Bool) (M : Mach l G y cc t nL ret d mc ms Qp g) (kk : g k n (fil p w ++ fil (fun a => !p a) w) pc lv st) : g k n w pc lv st := by
  obtain ⟨pp, e, s, m, args, below, meth, c, A, hx, hb, ht, hml, hr', hlk, hown, hts, hnm, hA, hAB, hB, hK, hSt, rfl⟩ := M
  intro H locs ls hP hD hS hl
  have hp : (fil p w ++ fil (fun a => !p a) w).Perm w := List.filter_append_perm (fun q => p q.1) w
  have hm := hp.map (qm G)
  refine kk H locs ls (fun j q hk => ?_) ?_ hS hl
  · obtain ⟨j2, hj⟩ := List.getElem?_of_mem (hm.mem_iff.mp (List.mem_of_getElem? hk))
    exact hP j2 q hj
  · have h1 := va_D_nd.mp hD
    exact va_D_nd.mpr ⟨(hm.map (fun q => q.1)).nodup_iff.mpr h1.1, fun q hq => h1.2 q (hm.mem_iff.mp hq)⟩
theorem isM_e {o : Nat} {u a : Nat → Int} {b : Nat → Nat → Int} {w w' : Wo} (h : isM o (aI o) u a b w) (e : ∀ q : Nat, o ≤ q → lk w' q = lk w q) : isM o (aI o) u a b w' := by
  obtain ⟨h1, h2, h3, h4⟩ := h
  exact ⟨(e o (Nat.le_refl _)).trans h1, (e _ (by unfold aI; omega)).trans h2, fun q hq => (e _ (by unfold aI; omega)).trans (h3 q hq), h4⟩
set_option maxHeartbeats 4000000 in
set_option maxRecDepth 100000 in
theorem kX11_initS (l : Launch) (G : GT) (o : Nat) : CtrS l G yX11_init cX11_init 1 (none : Option FieldType) 2 9 64903 [vr o] (o + 1) (fun w => lk w o = some (Ob 10 [vn, vn, vn, vn, vi 0, vi 0, vi 0, vi 0, vi 0, vi 0, vi 0, vl 0, vi 0, vi 0, vi 0, vn, vi 0, vi 0, vi 0, vi 0, vn, vn, vn, vi 0, vn]) ∧ Fu G w (o + 1)) (fun w r w' => r = none ∧ ∃ (wc wm : Wo) (b1 : Nat → Nat → Int), w' = wc ++ wm ∧ (∀ a : Nat, a < o → lk wc a = lk w a) ∧ isTS o (aI o) u0i b1 (t0i, D0, []) wm ∧ (∀ k : Nat, k ≠ 1 → b1 k = fun _ => 0) ∧ Im b1 t0i D0 []) := by
  refine CtrS.of (t := tX11_init) (lv0 := [some (vr o)]) (by decide +kernel) tX11_init_ok rfl rfl (fun w g hP MS => ?_)
  obtain ⟨hP, hF⟩ := hP
  have M := MS.M
  refine M.run 1 (pc' := 1) (lv' := [some (vr o)]) (st' := [vr o]) rfl ?_
  refine M.oinit wd_o_RX11 rfl (by decide) rfl ?_
  refine M.run 2 (pc' := 8) (lv' := [some (vr o)]) (st' := [vi 30042, vr o]) rfl ?_
  show g _ _ _ _ _ (vi ((30042 : Nat) : Int) :: _)
  refine MS.newIW (o + 1) (by omega) hF (by omega) rfl (by omega) (by omega) (fun w1_ hn1 fr1 hF1 => ?_)
  have hc1_0 := (fr1 _ (by omega)).trans hP
  refine M.putFW [vr (o + 1), vn, vn, vn, vi 0, vi 0, vi 0, vi 0, vi 0, vi 0, vi 0, vl 0, vi 0, vi 0, vi 0, vn, vi 0, vi 0, vi 0, vi 0, vn, vn, vn, vi 0, vn] fl_X11_7 rfl rfl rfl hc1_0 rfl rfl (Nat.le_of_ble_eq_true rfl) rfl (fun w2_ hn2 fr2 => ?_)
  have hc2_1 := (fr2 _ (by omega)).trans hn1
  have hF2 := Fu_fr hF1 hn2 fr2
  refine M.run 2 (pc' := 17) (lv' := [some (vr o)]) (st' := [vi 30042, vr o]) rfl ?_
  show g _ _ _ _ _ (vi ((30042 : Nat) : Int) :: _)
  refine MS.newIW (o + 2) (by omega) hF2 (by omega) rfl (by omega) (by omega) (fun w3_ hn3 fr3 hF3 => ?_)
  have hc3_0 := (fr3 _ (by omega)).trans hn2
  have hc3_1 := (fr3 _ (by omega)).trans hc2_1
  refine M.putFW [vr (o + 1), vr (o + 2), vn, vn, vi 0, vi 0, vi 0, vi 0, vi 0, vi 0, vi 0, vl 0, vi 0, vi 0, vi 0, vn, vi 0, vi 0, vi 0, vi 0, vn, vn, vn, vi 0, vn] fl_X11_13 rfl rfl rfl hc3_0 rfl rfl (Nat.le_of_ble_eq_true rfl) rfl (fun w4_ hn4 fr4 => ?_)
  have hc4_1 := (fr4 _ (by omega)).trans hc3_1
  have hc4_2 := (fr4 _ (by omega)).trans hn3
  have hF4 := Fu_fr hF3 hn4 fr4
  refine M.run 2 (pc' := 26) (lv' := [some (vr o)]) (st' := [vi 2724, vr o]) rfl ?_
  show g _ _ _ _ _ (vi ((2724 : Nat) : Int) :: _)
  refine MS.newIW (o + 3) (by omega) hF4 (by omega) rfl (by omega) (by omega) (fun w5_ hn5 fr5 hF5 => ?_)
  have hc5_0 := (fr5 _ (by omega)).trans hn4
  have hc5_1 := (fr5 _ (by omega)).trans hc4_1
  have hc5_2 := (fr5 _ (by omega)).trans hc4_2
  refine M.putFW [vr (o + 1), vr (o + 2), vr (o + 3), vn, vi 0, vi 0, vi 0, vi 0, vi 0, vi 0, vi 0, vl 0, vi 0, vi 0, vi 0, vn, vi 0, vi 0, vi 0, vi 0, vn, vn, vn, vi 0, vn] fl_X11_16 rfl rfl rfl hc5_0 rfl rfl (Nat.le_of_ble_eq_true rfl) rfl (fun w6_ hn6 fr6 => ?_)
  have hc6_1 := (fr6 _ (by omega)).trans hc5_1
  have hc6_2 := (fr6 _ (by omega)).trans hc5_2
  have hc6_3 := (fr6 _ (by omega)).trans hn5
  have hF6 := Fu_fr hF5 hn6 fr6
  refine M.run 2 (pc' := 35) (lv' := [some (vr o)]) (st' := [vi 300, vr o]) rfl ?_
  show g _ _ _ _ _ (vi ((300 : Nat) : Int) :: _)
  refine MS.newIW (o + 4) (by omega) hF6 (by omega) rfl (by omega) (by omega) (fun w7_ hn7 fr7 hF7 => ?_)
  have hc7_0 := (fr7 _ (by omega)).trans hn6
  have hc7_1 := (fr7 _ (by omega)).trans hc6_1
  have hc7_2 := (fr7 _ (by omega)).trans hc6_2
  have hc7_3 := (fr7 _ (by omega)).trans hc6_3
  refine M.putFW [vr (o + 1), vr (o + 2), vr (o + 3), vr (o + 4), vi 0, vi 0, vi 0, vi 0, vi 0, vi 0, vi 0, vl 0, vi 0, vi 0, vi 0, vn, vi 0, vi 0, vi 0, vi 0, vn, vn, vn, vi 0, vn] fl_X11_19 rfl rfl rfl hc7_0 rfl rfl (Nat.le_of_ble_eq_true rfl) rfl (fun w8_ hn8 fr8 => ?_)
  have hc8_1 := (fr8 _ (by omega)).trans hc7_1
  have hc8_2 := (fr8 _ (by omega)).trans hc7_2
  have hc8_3 := (fr8 _ (by omega)).trans hc7_3
  have hc8_4 := (fr8 _ (by omega)).trans hn7
  have hF8 := Fu_fr hF7 hn8 fr8
  refine M.run 2 (pc' := 42) (lv' := [some (vr o)]) (st' := [vi (-1), vr o]) rfl ?_
  refine M.putW [vr (o + 1), vr (o + 2), vr (o + 3), vr (o + 4), vi 0, vi (-1), vi 0, vi 0, vi 0, vi 0, vi 0, vl 0, vi 0, vi 0, vi 0, vn, vi 0, vi 0, vi 0, vi 0, vn, vn, vn, vi 0, vn] fl_X11_22 rfl hn8 rfl rfl (Nat.le_of_ble_eq_true rfl) rfl (fun w9_ hn9 fr9 => ?_)
  have hc9_1 := (fr9 _ (by omega)).trans hc8_1
  have hc9_2 := (fr9 _ (by omega)).trans hc8_2
  have hc9_3 := (fr9 _ (by omega)).trans hc8_3
  have hc9_4 := (fr9 _ (by omega)).trans hc8_4
  have hF9 := Fu_fr hF8 hn9 fr9
  refine M.run 2 (pc' := 47) (lv' := [some (vr o)]) (st' := [vi (-1), vr o]) rfl ?_
  refine M.putW [vr (o + 1), vr (o + 2), vr (o + 3), vr (o + 4), vi 0, vi (-1), vi (-1), vi 0, vi 0, vi 0, vi 0, vl 0, vi 0, vi 0, vi 0, vn, vi 0, vi 0, vi 0, vi 0, vn, vn, vn, vi 0, vn] fl_X11_26 rfl hn9 rfl rfl (Nat.le_of_ble_eq_true rfl) rfl (fun w10_ hn10 fr10 => ?_)
  have hc10_1 := (fr10 _ (by omega)).trans hc9_1
  have hc10_2 := (fr10 _ (by omega)).trans hc9_2
  have hc10_3 := (fr10 _ (by omega)).trans hc9_3
  have hc10_4 := (fr10 _ (by omega)).trans hc9_4
  have hF10 := Fu_fr hF9 hn10 fr10
  refine M.run 2 (pc' := 54) (lv' := [some (vr o)]) (st' := [vi 160, vr o]) rfl ?_
  show g _ _ _ _ _ (vi ((160 : Nat) : Int) :: _)
  refine MS.newIW (o + 5) (by omega) hF10 (by omega) rfl (by omega) (by omega) (fun w11_ hn11 fr11 hF11 => ?_)
  have hc11_0 := (fr11 _ (by omega)).trans hn10
  have hc11_1 := (fr11 _ (by omega)).trans hc10_1
  have hc11_2 := (fr11 _ (by omega)).trans hc10_2
  have hc11_3 := (fr11 _ (by omega)).trans hc10_3
  have hc11_4 := (fr11 _ (by omega)).trans hc10_4
  refine M.putFW [vr (o + 1), vr (o + 2), vr (o + 3), vr (o + 4), vi 0, vi (-1), vi (-1), vi 0, vi 0, vi 0, vi 0, vl 0, vi 0, vi 0, vi 0, vr (o + 5), vi 0, vi 0, vi 0, vi 0, vn, vn, vn, vi 0, vn] fl_X11_29 rfl rfl rfl hc11_0 rfl rfl (Nat.le_of_ble_eq_true rfl) rfl (fun w12_ hn12 fr12 => ?_)
  have hc12_1 := (fr12 _ (by omega)).trans hc11_1
  have hc12_2 := (fr12 _ (by omega)).trans hc11_2
  have hc12_3 := (fr12 _ (by omega)).trans hc11_3
  have hc12_4 := (fr12 _ (by omega)).trans hc11_4
  have hc12_5 := (fr12 _ (by omega)).trans hn11
  have hF12 := Fu_fr hF11 hn12 fr12
  refine M.run 2 (pc' := 62) (lv' := [some (vr o)]) (st' := [vi 7, vr o]) rfl ?_
  show g _ _ _ _ _ (vi ((7 : Nat) : Int) :: _)
  refine MS.newIW (o + 6) (by omega) hF12 (by omega) rfl (by omega) (by omega) (fun w13_ hn13 fr13 hF13 => ?_)
  have hc13_0 := (fr13 _ (by omega)).trans hn12
  have hc13_1 := (fr13 _ (by omega)).trans hc12_1
  have hc13_2 := (fr13 _ (by omega)).trans hc12_2
  have hc13_3 := (fr13 _ (by omega)).trans hc12_3
  have hc13_4 := (fr13 _ (by omega)).trans hc12_4
  have hc13_5 := (fr13 _ (by omega)).trans hc12_5
  refine M.putFW [vr (o + 1), vr (o + 2), vr (o + 3), vr (o + 4), vi 0, vi (-1), vi (-1), vi 0, vi 0, vi 0, vi 0, vl 0, vi 0, vi 0, vi 0, vr (o + 5), vi 0, vi 0, vi 0, vi 0, vr (o + 6), vn, vn, vi 0, vn] fl_X11_32 rfl rfl rfl hc13_0 rfl rfl (Nat.le_of_ble_eq_true rfl) rfl (fun w14_ hn14 fr14 => ?_)
  have hc14_1 := (fr14 _ (by omega)).trans hc13_1
  have hc14_2 := (fr14 _ (by omega)).trans hc13_2
  have hc14_3 := (fr14 _ (by omega)).trans hc13_3
  have hc14_4 := (fr14 _ (by omega)).trans hc13_4
  have hc14_5 := (fr14 _ (by omega)).trans hc13_5
  have hc14_6 := (fr14 _ (by omega)).trans hn13
  have hF14 := Fu_fr hF13 hn14 fr14
  refine M.run 2 (pc' := 71) (lv' := [some (vr o)]) (st' := [vi 330, vr o]) rfl ?_
  show g _ _ _ _ _ (vi ((330 : Nat) : Int) :: _)
  refine MS.newLW (o + 7) (by omega) hF14 (by omega) rfl (by omega) (by omega) (fun w15_ hn15 fr15 hF15 => ?_)
  have hc15_0 := (fr15 _ (by omega)).trans hn14
  have hc15_1 := (fr15 _ (by omega)).trans hc14_1
  have hc15_2 := (fr15 _ (by omega)).trans hc14_2
  have hc15_3 := (fr15 _ (by omega)).trans hc14_3
  have hc15_4 := (fr15 _ (by omega)).trans hc14_4
  have hc15_5 := (fr15 _ (by omega)).trans hc14_5
  have hc15_6 := (fr15 _ (by omega)).trans hc14_6
  refine M.putFW [vr (o + 1), vr (o + 2), vr (o + 3), vr (o + 4), vi 0, vi (-1), vi (-1), vi 0, vi 0, vi 0, vi 0, vl 0, vi 0, vi 0, vi 0, vr (o + 5), vi 0, vi 0, vi 0, vi 0, vr (o + 6), vr (o + 7), vn, vi 0, vn] fl_X11_35 rfl rfl rfl hc15_0 rfl rfl (Nat.le_of_ble_eq_true rfl) rfl (fun w16_ hn16 fr16 => ?_)
  have hc16_1 := (fr16 _ (by omega)).trans hc15_1
  have hc16_2 := (fr16 _ (by omega)).trans hc15_2
  have hc16_3 := (fr16 _ (by omega)).trans hc15_3
  have hc16_4 := (fr16 _ (by omega)).trans hc15_4
  have hc16_5 := (fr16 _ (by omega)).trans hc15_5
  have hc16_6 := (fr16 _ (by omega)).trans hc15_6
  have hc16_7 := (fr16 _ (by omega)).trans hn15
  have hF16 := Fu_fr hF15 hn16 fr16
  refine M.run 2 (pc' := 80) (lv' := [some (vr o)]) (st' := [vi 330, vr o]) rfl ?_
  show g _ _ _ _ _ (vi ((330 : Nat) : Int) :: _)
  refine MS.newZW (o + 8) (by omega) hF16 (by omega) rfl (by omega) (by omega) (fun w17_ hn17 fr17 hF17 => ?_)
  have hc17_0 := (fr17 _ (by omega)).trans hn16
  have hc17_1 := (fr17 _ (by omega)).trans hc16_1
  have hc17_2 := (fr17 _ (by omega)).trans hc16_2
  have hc17_3 := (fr17 _ (by omega)).trans hc16_3
  have hc17_4 := (fr17 _ (by omega)).trans hc16_4
  have hc17_5 := (fr17 _ (by omega)).trans hc16_5
  have hc17_6 := (fr17 _ (by omega)).trans hc16_6
  have hc17_7 := (fr17 _ (by omega)).trans hc16_7
  refine M.putFW [vr (o + 1), vr (o + 2), vr (o + 3), vr (o + 4), vi 0, vi (-1), vi (-1), vi 0, vi 0, vi 0, vi 0, vl 0, vi 0, vi 0, vi 0, vr (o + 5), vi 0, vi 0, vi 0, vi 0, vr (o + 6), vr (o + 7), vr (o + 8), vi 0, vn] fl_X11_39 rfl rfl rfl hc17_0 rfl rfl (Nat.le_of_ble_eq_true rfl) rfl (fun w18_ hn18 fr18 => ?_)
  have hc18_1 := (fr18 _ (by omega)).trans hc17_1
  have hc18_2 := (fr18 _ (by omega)).trans hc17_2
  have hc18_3 := (fr18 _ (by omega)).trans hc17_3
  have hc18_4 := (fr18 _ (by omega)).trans hc17_4
  have hc18_5 := (fr18 _ (by omega)).trans hc17_5
  have hc18_6 := (fr18 _ (by omega)).trans hc17_6
  have hc18_7 := (fr18 _ (by omega)).trans hc17_7
  have hc18_8 := (fr18 _ (by omega)).trans hn17
  have hF18 := Fu_fr hF17 hn18 fr18
  refine M.run 2 (pc' := 89) (lv' := [some (vr o)]) (st' := [vi 968, vr o]) rfl ?_
  show g _ _ _ _ _ (vi ((968 : Nat) : Int) :: _)
  refine MS.newIW (o + 9) (by omega) hF18 (by omega) rfl (by omega) (by omega) (fun w19_ hn19 fr19 hF19 => ?_)
  have hc19_0 := (fr19 _ (by omega)).trans hn18
  have hc19_1 := (fr19 _ (by omega)).trans hc18_1
  have hc19_2 := (fr19 _ (by omega)).trans hc18_2
  have hc19_3 := (fr19 _ (by omega)).trans hc18_3
  have hc19_4 := (fr19 _ (by omega)).trans hc18_4
  have hc19_5 := (fr19 _ (by omega)).trans hc18_5
  have hc19_6 := (fr19 _ (by omega)).trans hc18_6
  have hc19_7 := (fr19 _ (by omega)).trans hc18_7
  have hc19_8 := (fr19 _ (by omega)).trans hc18_8
  refine M.putFW [vr (o + 1), vr (o + 2), vr (o + 3), vr (o + 4), vi 0, vi (-1), vi (-1), vi 0, vi 0, vi 0, vi 0, vl 0, vi 0, vi 0, vi 0, vr (o + 5), vi 0, vi 0, vi 0, vi 0, vr (o + 6), vr (o + 7), vr (o + 8), vi 0, vr (o + 9)] fl_X11_43 rfl rfl rfl hc19_0 rfl rfl (Nat.le_of_ble_eq_true rfl) rfl (fun w20_ hn20 fr20 => ?_)
  have hc20_1 := (fr20 _ (by omega)).trans hc19_1
  have hc20_2 := (fr20 _ (by omega)).trans hc19_2
  have hc20_3 := (fr20 _ (by omega)).trans hc19_3
  have hc20_4 := (fr20 _ (by omega)).trans hc19_4
  have hc20_5 := (fr20 _ (by omega)).trans hc19_5
  have hc20_6 := (fr20 _ (by omega)).trans hc19_6
  have hc20_7 := (fr20 _ (by omega)).trans hc19_7
  have hc20_8 := (fr20 _ (by omega)).trans hc19_8
  have hc20_9 := (fr20 _ (by omega)).trans hn19
  have hF20 := Fu_fr hF19 hn20 fr20
  refine M.run 1 (pc' := 95) (lv' := [some (vr o)]) (st' := [vr o]) rfl ?_
  refine M.get fl_X11_7 rfl hn20 (kf := 0) (v := vr (o + 1)) rfl ?_
  refine M.run 2 (pc' := 103) (lv' := [some (vr o)]) (st' := [vi 491, vi 19, vr (o + 1)]) rfl ?_
  refine M.iastW 19 rfl hc20_1 (by decide) (by decide) (fun w21_ hn21 fr21 => ?_)
  have hc21_0 := (fr21 _ (by omega)).trans hn20
  have hc21_2 := (fr21 _ (by omega)).trans hc20_2
  have hc21_3 := (fr21 _ (by omega)).trans hc20_3
  have hc21_4 := (fr21 _ (by omega)).trans hc20_4
  have hc21_5 := (fr21 _ (by omega)).trans hc20_5
  have hc21_6 := (fr21 _ (by omega)).trans hc20_6
  have hc21_7 := (fr21 _ (by omega)).trans hc20_7
  have hc21_8 := (fr21 _ (by omega)).trans hc20_8
  have hc21_9 := (fr21 _ (by omega)).trans hc20_9
  have hF21 := Fu_fr hF20 hn21 fr21
  refine M.run 1 (pc' := 105) (lv' := [some (vr o)]) (st' := [vr o]) rfl ?_
  refine M.get fl_X11_7 rfl hc21_0 (kf := 0) (v := vr (o + 1)) rfl ?_
  refine M.run 2 (pc' := 110) (lv' := [some (vr o)]) (st' := [vi (-1), vi 2, vr (o + 1)]) rfl ?_
  refine M.iastW 2 rfl hn21 (by decide) (by decide) (fun w22_ hn22 fr22 => ?_)
  have hc22_0 := (fr22 _ (by omega)).trans hc21_0
  have hc22_2 := (fr22 _ (by omega)).trans hc21_2
  have hc22_3 := (fr22 _ (by omega)).trans hc21_3
  have hc22_4 := (fr22 _ (by omega)).trans hc21_4
  have hc22_5 := (fr22 _ (by omega)).trans hc21_5
  have hc22_6 := (fr22 _ (by omega)).trans hc21_6
  have hc22_7 := (fr22 _ (by omega)).trans hc21_7
  have hc22_8 := (fr22 _ (by omega)).trans hc21_8
  have hc22_9 := (fr22 _ (by omega)).trans hc21_9
  have hF22 := Fu_fr hF21 hn22 fr22
  refine M.run 1 (pc' := 112) (lv' := [some (vr o)]) (st' := [vr o]) rfl ?_
  refine M.get fl_X11_7 rfl hc22_0 (kf := 0) (v := vr (o + 1)) rfl ?_
  refine M.run 2 (pc' := 118) (lv' := [some (vr o)]) (st' := [vi 2, vi 6, vr (o + 1)]) rfl ?_
  refine M.iastW 6 rfl hn22 (by decide) (by decide) (fun w23_ hn23 fr23 => ?_)
  have hc23_0 := (fr23 _ (by omega)).trans hc22_0
  have hc23_2 := (fr23 _ (by omega)).trans hc22_2
  have hc23_3 := (fr23 _ (by omega)).trans hc22_3
  have hc23_4 := (fr23 _ (by omega)).trans hc22_4
  have hc23_5 := (fr23 _ (by omega)).trans hc22_5
  have hc23_6 := (fr23 _ (by omega)).trans hc22_6
  have hc23_7 := (fr23 _ (by omega)).trans hc22_7
  have hc23_8 := (fr23 _ (by omega)).trans hc22_8
  have hc23_9 := (fr23 _ (by omega)).trans hc22_9
  have hF23 := Fu_fr hF22 hn23 fr23
  refine M.run 1 (pc' := 120) (lv' := [some (vr o)]) (st' := [vr o]) rfl ?_
  refine M.get fl_X11_7 rfl hc23_0 (kf := 0) (v := vr (o + 1)) rfl ?_
  refine M.run 2 (pc' := 126) (lv' := [some (vr o)]) (st' := [vi 4, vi 7, vr (o + 1)]) rfl ?_
  refine M.iastW 7 rfl hn23 (by decide) (by decide) (fun w24_ hn24 fr24 => ?_)
  have hc24_0 := (fr24 _ (by omega)).trans hc23_0
  have hc24_2 := (fr24 _ (by omega)).trans hc23_2
  have hc24_3 := (fr24 _ (by omega)).trans hc23_3
  have hc24_4 := (fr24 _ (by omega)).trans hc23_4
  have hc24_5 := (fr24 _ (by omega)).trans hc23_5
  have hc24_6 := (fr24 _ (by omega)).trans hc23_6
  have hc24_7 := (fr24 _ (by omega)).trans hc23_7
  have hc24_8 := (fr24 _ (by omega)).trans hc23_8
  have hc24_9 := (fr24 _ (by omega)).trans hc23_9
  have hF24 := Fu_fr hF23 hn24 fr24
  refine M.run 1 (pc' := 128) (lv' := [some (vr o)]) (st' := [vr o]) rfl ?_
  refine M.get fl_X11_7 rfl hc24_0 (kf := 0) (v := vr (o + 1)) rfl ?_
  refine M.run 2 (pc' := 134) (lv' := [some (vr o)]) (st' := [vi 3, vi 8, vr (o + 1)]) rfl ?_
  refine M.iastW 8 rfl hn24 (by decide) (by decide) (fun w25_ hn25 fr25 => ?_)
  have hc25_0 := (fr25 _ (by omega)).trans hc24_0
  have hc25_2 := (fr25 _ (by omega)).trans hc24_2
  have hc25_3 := (fr25 _ (by omega)).trans hc24_3
  have hc25_4 := (fr25 _ (by omega)).trans hc24_4
  have hc25_5 := (fr25 _ (by omega)).trans hc24_5
  have hc25_6 := (fr25 _ (by omega)).trans hc24_6
  have hc25_7 := (fr25 _ (by omega)).trans hc24_7
  have hc25_8 := (fr25 _ (by omega)).trans hc24_8
  have hc25_9 := (fr25 _ (by omega)).trans hc24_9
  have hF25 := Fu_fr hF24 hn25 fr25
  refine M.run 1 (pc' := 136) (lv' := [some (vr o)]) (st' := [vr o]) rfl ?_
  refine M.get fl_X11_7 rfl hc25_0 (kf := 0) (v := vr (o + 1)) rfl ?_
  refine M.run 2 (pc' := 142) (lv' := [some (vr o)]) (st' := [vi 1, vi 9, vr (o + 1)]) rfl ?_
  refine M.iastW 9 rfl hn25 (by decide) (by decide) (fun w26_ hn26 fr26 => ?_)
  have hc26_0 := (fr26 _ (by omega)).trans hc25_0
  have hc26_2 := (fr26 _ (by omega)).trans hc25_2
  have hc26_3 := (fr26 _ (by omega)).trans hc25_3
  have hc26_4 := (fr26 _ (by omega)).trans hc25_4
  have hc26_5 := (fr26 _ (by omega)).trans hc25_5
  have hc26_6 := (fr26 _ (by omega)).trans hc25_6
  have hc26_7 := (fr26 _ (by omega)).trans hc25_7
  have hc26_8 := (fr26 _ (by omega)).trans hc25_8
  have hc26_9 := (fr26 _ (by omega)).trans hc25_9
  have hF26 := Fu_fr hF25 hn26 fr26
  refine M.run 1 (pc' := 144) (lv' := [some (vr o)]) (st' := [vr o]) rfl ?_
  refine M.get fl_X11_7 rfl hc26_0 (kf := 0) (v := vr (o + 1)) rfl ?_
  refine M.run 2 (pc' := 150) (lv' := [some (vr o)]) (st' := [vi 1, vi 11, vr (o + 1)]) rfl ?_
  refine M.iastW 11 rfl hn26 (by decide) (by decide) (fun w27_ hn27 fr27 => ?_)
  have hc27_0 := (fr27 _ (by omega)).trans hc26_0
  have hc27_2 := (fr27 _ (by omega)).trans hc26_2
  have hc27_3 := (fr27 _ (by omega)).trans hc26_3
  have hc27_4 := (fr27 _ (by omega)).trans hc26_4
  have hc27_5 := (fr27 _ (by omega)).trans hc26_5
  have hc27_6 := (fr27 _ (by omega)).trans hc26_6
  have hc27_7 := (fr27 _ (by omega)).trans hc26_7
  have hc27_8 := (fr27 _ (by omega)).trans hc26_8
  have hc27_9 := (fr27 _ (by omega)).trans hc26_9
  have hF27 := Fu_fr hF26 hn27 fr27
  have hA := hn27
  rw [t0_st] at hA
  have hM : isM o (aI o) u0i t0i (fun _ _ => 0) w27_ := by
    refine ⟨hc27_0, hA, fun q hq => ?_, fun q hq => ?_, ?_, fun p hp q hq h => ?_⟩
    · unfold Mrows at hq
      simp only [List.mem_cons, List.not_mem_nil, or_false] at hq
      rcases hq with rfl | rfl | rfl | rfl | rfl | rfl | rfl | rfl
      · exact hc27_2
      · exact hc27_3
      · exact hc27_4
      · exact hc27_5
      · exact hc27_6
      · exact hc27_7
      · exact hc27_8
      · exact hc27_9
    · have h2 : ∀ q ∈ Mrows, aI 0 q.1 ≠ aI 0 0 ∧ aI 0 q.1 ≠ 0 := by decide
      have h3 := h2 q hq
      unfold aI at h3 ⊢
      omega
    · show o + (if (0 : Nat) < 4 then 0 + 1 else _) ≠ o
      rw [if_pos (by decide)]
      omega
    · have h2 : ∀ p ∈ Mrows, ∀ q ∈ Mrows, aI 0 p.1 = aI 0 q.1 → p = q := by decide
      exact h2 p hp q hq (by unfold aI at h ⊢; omega)
  refine M.run 1 (pc' := 152) (lv' := [some (vr o)]) (st' := [vr o]) rfl ?_
  refine M.get fl_X11_7 rfl (isM_o hM) (kf := 0) (v := vr (aI o 0)) rfl ?_
  refine M.run 1 (pc' := 156) (lv' := [some (vr o)]) (st' := [vr o, vr (aI o 0)]) rfl ?_
  refine M.get fl_X11_13 rfl (isM_o hM) (kf := 1) (v := vr (aI o 1)) rfl ?_
  refine M.split (fun a => decide (a < o)) ?_
  generalize hwc : fil (fun a => decide (a < o)) w27_ = wc
  generalize hwm : fil (fun a => !decide (a < o)) w27_ = wm
  have hMm : isM o (aI o) u0i t0i (fun _ _ => 0) wm := isM_e hM (fun q hq => by rw [← hwm]; exact lk_fil (p := fun a => !decide (a < o)) (by simp; omega) _)
  have hfr : FrB o 10 w w27_ := fun q hq => (((((((((((((((((((((((((((fr27 q (by omega)).trans (fr26 q (by omega))).trans (fr25 q (by omega))).trans (fr24 q (by omega))).trans (fr23 q (by omega))).trans (fr22 q (by omega))).trans (fr21 q (by omega))).trans (fr20 q (by omega))).trans (fr19 q (by omega))).trans (fr18 q (by omega))).trans (fr17 q (by omega))).trans (fr16 q (by omega))).trans (fr15 q (by omega))).trans (fr14 q (by omega))).trans (fr13 q (by omega))).trans (fr12 q (by omega))).trans (fr11 q (by omega))).trans (fr10 q (by omega))).trans (fr9 q (by omega))).trans (fr8 q (by omega))).trans (fr7 q (by omega))).trans (fr6 q (by omega))).trans (fr5 q (by omega))).trans (fr4 q (by omega))).trans (fr3 q (by omega))).trans (fr2 q (by omega))).trans (fr1 q (by omega)))
  refine M.callS (Ctr.frR wm wc (kX11_copyI l G o (aI o) u0i t0i (fun _ _ => 0))) cs_X11_46 cd_X11_copy rfl (st := []) rfl (by decide) (by decide) rfl (by omega) (by omega) ⟨rfl, hMm⟩ (fun r1 w9 q3 => ?_)
  obtain ⟨wm9, ⟨q3r, f9, hMc, hcf⟩, q3w⟩ := q3
  rw [q3r, q3w]
  refine M.vret rfl (by omega) (by omega) ⟨rfl, wc, wm9, _, rfl, fun a ha => by rw [← hwc]; exact (lk_fil (p := fun a => decide (a < o)) (decide_eq_true ha) _).trans (hfr a (Or.inl ha)), ⟨t0i, ⟨t0i, _, hMc, Rp_0, fun _ _ => rfl, fun _ _ _ _ => rfl⟩, ⟨fun _ _ _ _ => rfl, fun _ _ _ => rfl⟩, Rg_0⟩, fun k hk => by unfold uB; rw [if_neg hk], Rp_ext (Dok_0 (Int.le_refl 0)) (fun k k1 k2 => hcf k (by omega)) Rp_0, ⟨fun k k1 _ _ => hcf k (by omega), fun k k1 k2 => hcf k (by omega)⟩, Rg_ext2 (n := 0) Lok_0 (fun k hk => hcf k hk) Rg_0⟩
