/-! constructors: the reference -/
set_option maxRecDepth 100000 in
theorem wd_o_RX11 : Cond.methodLink RX11 1 objectInit ∈ lw_g := lw_g_in (List.mem_of_getElem? (i := 1267) (by decide +kernel)) rfl
section QWM
variable {l : Launch} {G : GT} {y : MethodName} {cc : ByteArray} {t : Tab} {nL : Nat} {ret : Option FieldType} {d mc ms sz : Nat} {Qp : Option AV → Wo → Prop} {g : gF}
variable {k n : Nat} {w : Wo} {pc : Nat} {lv : Lo} {st : List AV} {a : Nat} {x : Int}
theorem MachS.newLW {N : Nat} (z : Nat) (M : MachS l G y cc t nL ret d mc ms Qp sz g) (hz : sz + k = z) (hF : Fu G w z) (hN : N ≤ 100000) (hq : qlk t pc = some (.newarray .long, 2)) (hk : k + 1 ≤ mc) (hn : n + N ≤ ms)
    (kk : ∀ w' : Wo, lk w' z = some (Ar 1 N (fun _ => 0)) → (∀ q : Nat, q ≠ z → lk w' q = lk w q) → Fu G w' (z + 1) → g (k + 1) (n + N) w' (pc + 2) lv (vr z :: st)) : g k n w pc lv (vi (N : Nat) :: st) :=
  M.M.newL hN hq hk hn (fun q f1 f2 => M.at z hz hF f1 f2 (fun f => kk _ (lk_nw_s f) (fun q h => lk_nw_n h) (Fu_nw hF rfl)))
theorem MachS.newZW {N : Nat} (z : Nat) (M : MachS l G y cc t nL ret d mc ms Qp sz g) (hz : sz + k = z) (hF : Fu G w z) (hN : N ≤ 100000) (hq : qlk t pc = some (.newarray .boolean, 2)) (hk : k + 1 ≤ mc) (hn : n + N ≤ ms)
    (kk : ∀ w' : Wo, lk w' z = some (Ar 2 N (fun _ => 0)) → (∀ q : Nat, q ≠ z → lk w' q = lk w q) → Fu G w' (z + 1) → g (k + 1) (n + N) w' (pc + 2) lv (vr z :: st)) : g k n w pc lv (vi (N : Nat) :: st) :=
  M.M.newZ hN hq hk hn (fun q f1 f2 => M.at z hz hF f1 f2 (fun f => kk _ (lk_nw_s f) (fun q h => lk_nw_n h) (Fu_nw hF rfl)))
theorem Mach.iastW {N : Nat} {f : Nat → Int} (i : Nat) (M : Mach l G y cc t nL ret d mc ms Qp g) (hq : qlk t pc = some (.iastore, 1)) (he : lk w a = some (Ar 0 N f)) (h1 : i < N) (hN : N < 2147483648) (kk : ∀ w' : Wo, lk w' a = some (Ar 0 N (uN f i x)) → (∀ q : Nat, q ≠ a → lk w' q = lk w q) → g k n w' (pc + 1) lv st) : g k n w pc lv (vi x :: vi (i : Int) :: vr a :: st) :=
  M.iastN i hq he h1 hN (kk _ (lk_up_s he) (fun q h => lk_up_n h))
end QWM
/-- the rows' places behind the reference's object -/
def aI (o : Nat) : Nat → Nat := fun k => o + (if k < 4 then k + 1 else if k = 15 then 5 else if k = 24 then 9 else if k = 20 then 6 else if k = 21 then 7 else if k = 22 then 8 else k + 20)
def u0i : Nat → Int := fun k => if k = 5 then -1 else if k = 6 then -1 else 0
theorem t0_st : uN (uN (uN (uN (uN (uN (uN (fun _ => (0 : Int)) 19 491) 2 (-1)) 6 2) 7 4) 8 3) 9 1) 11 1 = t0i := by
  funext k
  by_cases h : k < 20
  · have hall : ∀ k : Nat, k < 20 → uN (uN (uN (uN (uN (uN (uN (fun _ => (0 : Int)) 19 491) 2 (-1)) 6 2) 7 4) 8 3) 9 1) 11 1 k = t0i k := by decide
    exact hall k h
  · rw [t0_far (by omega), uN_o (by omega), uN_o (by omega), uN_o (by omega), uN_o (by omega), uN_o (by omega), uN_o (by omega), uN_o (by omega)]
theorem Rp_0 : Rp t0i D0 := by
  refine ⟨fun k h1 h2 h3 => ?_, fun s hs => ⟨?_, fun i k hi => absurd hi (Nat.not_lt_zero _)⟩, ⟨rfl, fun i k hi => absurd hi (Nat.not_lt_zero _)⟩, ⟨rfl, fun i k hi => absurd hi (Nat.not_lt_zero _)⟩, rfl, fun i hi => absurd hi (Nat.not_lt_zero _)⟩
  · by_cases h : k = 19
    · subst h; rfl
    · rw [D0_0 h]
      by_cases h4 : k < 20
      · rw [show k = 18 by omega]; rfl
      · exact t0_far (by omega)
  · exact t0_far (by omega)
theorem Rg_0 : Rg t0i [] := ⟨rfl, by decide, by decide, fun i hi => absurd hi (Nat.not_lt_zero _)⟩
theorem Dok_0 {n : Int} (hn : 0 ≤ n) : Dok n D0 := by
  refine ⟨fun k h1 h2 h3 => ?_, fun s hs => ⟨Nat.zero_le _, fun r hr => absurd hr List.not_mem_nil⟩, ⟨Nat.zero_le _, fun r hr => absurd hr List.not_mem_nil⟩, ⟨Nat.zero_le _, fun r hr => absurd hr List.not_mem_nil⟩, Nat.zero_le _, fun r hr => absurd hr List.not_mem_nil⟩
  by_cases h : k = 19
  · subst h
    exact ⟨show (0 : Int) ≤ 491 by decide, show (491 : Int) ≤ 31090 by decide⟩
  · rw [D0_0 h]
    refine ⟨Int.le_refl _, ?_⟩
    unfold Shi
    repeat' split
    all_goals omega
theorem Lok_0 {n : Int} : Lok n [] := fun D hD => absurd hD List.not_mem_nil
set_option maxHeartbeats 4000000 in
set_option maxRecDepth 100000 in
theorem kX11_init (l : Launch) (G : GT) (o : Nat) : CtrS l G yX11_init cX11_init 1 (none : Option FieldType) 2 9 64903 [vr o] (o + 1) (fun w => lk w o = some (Ob 10 [vn, vn, vn, vn, vi 0, vi 0, vi 0, vi 0, vi 0, vi 0, vi 0, vl 0, vi 0, vi 0, vi 0, vn, vi 0, vi 0, vi 0, vi 0, vn, vn, vn, vi 0, vn]) ∧ Fu G w (o + 1)) (fun w r w' => r = none ∧ ∃ b1, isTS o (aI o) u0i b1 (t0i, D0, []) w' ∧ (∀ k : Nat, k ≠ 1 → b1 k = fun _ => 0) ∧ Im b1 t0i D0 []) := by
  refine CtrS.of (t := tX11_init) (lv0 := [some (vr o)]) (by decide +kernel) tX11_init_ok rfl rfl (fun w g hP MS => ?_)
  obtain ⟨hP, hF⟩ := hP
  have M := MS.M
  refine M.run 1 (pc' := 1) (lv' := [some (vr o)]) (st' := [vr o]) rfl ?_
  refine M.oinit wd_o_RX11 rfl (by decide) rfl ?_
  refine M.run 2 (pc' := 8) (lv' := [some (vr o)]) (st' := [vi 30042, vr o]) rfl ?_
  show g _ _ _ _ _ (vi ((30042 : Nat) : Int) :: _)
  refine MS.newIW (o + 1) (by omega) hF (by omega) rfl (by omega) (by omega) (fun w1_ hn1 fr1 hF1 => ?_)
  have hc1_0 := (fr1 _ (by omega)).trans hP
  refine M.putFW [vr (o + 1), vn, vn, vn, vi 0, vi 0, vi 0, vi 0, vi 0, vi 0, vi 0, vl 0, vi 0, vi 0, vi 0, vn, vi 0, vi 0, vi 0, vi 0, vn, vn, vn, vi 0, vn] fl_X11_7 rfl rfl rfl hc1_0 rfl rfl (Nat.le_of_ble_eq_true rfl) rfl (fun w2_ hn2 fr2 => ?_)
  have hc2_1 := (fr2 _ (by omega)).trans hn1
  have hF2 := Fu_fr hF1 hn2 fr2
  refine M.run 2 (pc' := 17) (lv' := [some (vr o)]) (st' := [vi 30042, vr o]) rfl ?_
  show g _ _ _ _ _ (vi ((30042 : Nat) : Int) :: _)
  refine MS.newIW (o + 2) (by omega) hF2 (by omega) rfl (by omega) (by omega) (fun w3_ hn3 fr3 hF3 => ?_)
  have hc3_0 := (fr3 _ (by omega)).trans hn2
  have hc3_1 := (fr3 _ (by omega)).trans hc2_1
  refine M.putFW [vr (o + 1), vr (o + 2), vn, vn, vi 0, vi 0, vi 0, vi 0, vi 0, vi 0, vi 0, vl 0, vi 0, vi 0, vi 0, vn, vi 0, vi 0, vi 0, vi 0, vn, vn, vn, vi 0, vn] fl_X11_13 rfl rfl rfl hc3_0 rfl rfl (Nat.le_of_ble_eq_true rfl) rfl (fun w4_ hn4 fr4 => ?_)
  have hc4_1 := (fr4 _ (by omega)).trans hc3_1
  have hc4_2 := (fr4 _ (by omega)).trans hn3
  have hF4 := Fu_fr hF3 hn4 fr4
  refine M.run 2 (pc' := 26) (lv' := [some (vr o)]) (st' := [vi 2724, vr o]) rfl ?_
  show g _ _ _ _ _ (vi ((2724 : Nat) : Int) :: _)
  refine MS.newIW (o + 3) (by omega) hF4 (by omega) rfl (by omega) (by omega) (fun w5_ hn5 fr5 hF5 => ?_)
  have hc5_0 := (fr5 _ (by omega)).trans hn4
  have hc5_1 := (fr5 _ (by omega)).trans hc4_1
  have hc5_2 := (fr5 _ (by omega)).trans hc4_2
  refine M.putFW [vr (o + 1), vr (o + 2), vr (o + 3), vn, vi 0, vi 0, vi 0, vi 0, vi 0, vi 0, vi 0, vl 0, vi 0, vi 0, vi 0, vn, vi 0, vi 0, vi 0, vi 0, vn, vn, vn, vi 0, vn] fl_X11_16 rfl rfl rfl hc5_0 rfl rfl (Nat.le_of_ble_eq_true rfl) rfl (fun w6_ hn6 fr6 => ?_)
  have hc6_1 := (fr6 _ (by omega)).trans hc5_1
  have hc6_2 := (fr6 _ (by omega)).trans hc5_2
  have hc6_3 := (fr6 _ (by omega)).trans hn5
  have hF6 := Fu_fr hF5 hn6 fr6
  refine M.run 2 (pc' := 35) (lv' := [some (vr o)]) (st' := [vi 300, vr o]) rfl ?_
  show g _ _ _ _ _ (vi ((300 : Nat) : Int) :: _)
  refine MS.newIW (o + 4) (by omega) hF6 (by omega) rfl (by omega) (by omega) (fun w7_ hn7 fr7 hF7 => ?_)
  have hc7_0 := (fr7 _ (by omega)).trans hn6
  have hc7_1 := (fr7 _ (by omega)).trans hc6_1
  have hc7_2 := (fr7 _ (by omega)).trans hc6_2
  have hc7_3 := (fr7 _ (by omega)).trans hc6_3
  refine M.putFW [vr (o + 1), vr (o + 2), vr (o + 3), vr (o + 4), vi 0, vi 0, vi 0, vi 0, vi 0, vi 0, vi 0, vl 0, vi 0, vi 0, vi 0, vn, vi 0, vi 0, vi 0, vi 0, vn, vn, vn, vi 0, vn] fl_X11_19 rfl rfl rfl hc7_0 rfl rfl (Nat.le_of_ble_eq_true rfl) rfl (fun w8_ hn8 fr8 => ?_)
  have hc8_1 := (fr8 _ (by omega)).trans hc7_1
  have hc8_2 := (fr8 _ (by omega)).trans hc7_2
  have hc8_3 := (fr8 _ (by omega)).trans hc7_3
  have hc8_4 := (fr8 _ (by omega)).trans hn7
  have hF8 := Fu_fr hF7 hn8 fr8
  refine M.run 2 (pc' := 42) (lv' := [some (vr o)]) (st' := [vi (-1), vr o]) rfl ?_
  refine M.putW [vr (o + 1), vr (o + 2), vr (o + 3), vr (o + 4), vi 0, vi (-1), vi 0, vi 0, vi 0, vi 0, vi 0, vl 0, vi 0, vi 0, vi 0, vn, vi 0, vi 0, vi 0, vi 0, vn, vn, vn, vi 0, vn] fl_X11_22 rfl hn8 rfl rfl (Nat.le_of_ble_eq_true rfl) rfl (fun w9_ hn9 fr9 => ?_)
  have hc9_1 := (fr9 _ (by omega)).trans hc8_1
  have hc9_2 := (fr9 _ (by omega)).trans hc8_2
  have hc9_3 := (fr9 _ (by omega)).trans hc8_3
  have hc9_4 := (fr9 _ (by omega)).trans hc8_4
  have hF9 := Fu_fr hF8 hn9 fr9
  refine M.run 2 (pc' := 47) (lv' := [some (vr o)]) (st' := [vi (-1), vr o]) rfl ?_
  refine M.putW [vr (o + 1), vr (o + 2), vr (o + 3), vr (o + 4), vi 0, vi (-1), vi (-1), vi 0, vi 0, vi 0, vi 0, vl 0, vi 0, vi 0, vi 0, vn, vi 0, vi 0, vi 0, vi 0, vn, vn, vn, vi 0, vn] fl_X11_26 rfl hn9 rfl rfl (Nat.le_of_ble_eq_true rfl) rfl (fun w10_ hn10 fr10 => ?_)
  have hc10_1 := (fr10 _ (by omega)).trans hc9_1
  have hc10_2 := (fr10 _ (by omega)).trans hc9_2
  have hc10_3 := (fr10 _ (by omega)).trans hc9_3
  have hc10_4 := (fr10 _ (by omega)).trans hc9_4
  have hF10 := Fu_fr hF9 hn10 fr10
  refine M.run 2 (pc' := 54) (lv' := [some (vr o)]) (st' := [vi 160, vr o]) rfl ?_
  show g _ _ _ _ _ (vi ((160 : Nat) : Int) :: _)
  refine MS.newIW (o + 5) (by omega) hF10 (by omega) rfl (by omega) (by omega) (fun w11_ hn11 fr11 hF11 => ?_)
  have hc11_0 := (fr11 _ (by omega)).trans hn10
  have hc11_1 := (fr11 _ (by omega)).trans hc10_1
  have hc11_2 := (fr11 _ (by omega)).trans hc10_2
  have hc11_3 := (fr11 _ (by omega)).trans hc10_3
  have hc11_4 := (fr11 _ (by omega)).trans hc10_4
  refine M.putFW [vr (o + 1), vr (o + 2), vr (o + 3), vr (o + 4), vi 0, vi (-1), vi (-1), vi 0, vi 0, vi 0, vi 0, vl 0, vi 0, vi 0, vi 0, vr (o + 5), vi 0, vi 0, vi 0, vi 0, vn, vn, vn, vi 0, vn] fl_X11_29 rfl rfl rfl hc11_0 rfl rfl (Nat.le_of_ble_eq_true rfl) rfl (fun w12_ hn12 fr12 => ?_)
  have hc12_1 := (fr12 _ (by omega)).trans hc11_1
  have hc12_2 := (fr12 _ (by omega)).trans hc11_2
  have hc12_3 := (fr12 _ (by omega)).trans hc11_3
  have hc12_4 := (fr12 _ (by omega)).trans hc11_4
  have hc12_5 := (fr12 _ (by omega)).trans hn11
  have hF12 := Fu_fr hF11 hn12 fr12
  refine M.run 2 (pc' := 62) (lv' := [some (vr o)]) (st' := [vi 7, vr o]) rfl ?_
  show g _ _ _ _ _ (vi ((7 : Nat) : Int) :: _)
  refine MS.newIW (o + 6) (by omega) hF12 (by omega) rfl (by omega) (by omega) (fun w13_ hn13 fr13 hF13 => ?_)
  have hc13_0 := (fr13 _ (by omega)).trans hn12
  have hc13_1 := (fr13 _ (by omega)).trans hc12_1
  have hc13_2 := (fr13 _ (by omega)).trans hc12_2
  have hc13_3 := (fr13 _ (by omega)).trans hc12_3
  have hc13_4 := (fr13 _ (by omega)).trans hc12_4
  have hc13_5 := (fr13 _ (by omega)).trans hc12_5
  refine M.putFW [vr (o + 1), vr (o + 2), vr (o + 3), vr (o + 4), vi 0, vi (-1), vi (-1), vi 0, vi 0, vi 0, vi 0, vl 0, vi 0, vi 0, vi 0, vr (o + 5), vi 0, vi 0, vi 0, vi 0, vr (o + 6), vn, vn, vi 0, vn] fl_X11_32 rfl rfl rfl hc13_0 rfl rfl (Nat.le_of_ble_eq_true rfl) rfl (fun w14_ hn14 fr14 => ?_)
  have hc14_1 := (fr14 _ (by omega)).trans hc13_1
  have hc14_2 := (fr14 _ (by omega)).trans hc13_2
  have hc14_3 := (fr14 _ (by omega)).trans hc13_3
  have hc14_4 := (fr14 _ (by omega)).trans hc13_4
  have hc14_5 := (fr14 _ (by omega)).trans hc13_5
  have hc14_6 := (fr14 _ (by omega)).trans hn13
  have hF14 := Fu_fr hF13 hn14 fr14
  refine M.run 2 (pc' := 71) (lv' := [some (vr o)]) (st' := [vi 330, vr o]) rfl ?_
  show g _ _ _ _ _ (vi ((330 : Nat) : Int) :: _)
  refine MS.newLW (o + 7) (by omega) hF14 (by omega) rfl (by omega) (by omega) (fun w15_ hn15 fr15 hF15 => ?_)
  have hc15_0 := (fr15 _ (by omega)).trans hn14
  have hc15_1 := (fr15 _ (by omega)).trans hc14_1
  have hc15_2 := (fr15 _ (by omega)).trans hc14_2
  have hc15_3 := (fr15 _ (by omega)).trans hc14_3
  have hc15_4 := (fr15 _ (by omega)).trans hc14_4
  have hc15_5 := (fr15 _ (by omega)).trans hc14_5
  have hc15_6 := (fr15 _ (by omega)).trans hc14_6
  refine M.putFW [vr (o + 1), vr (o + 2), vr (o + 3), vr (o + 4), vi 0, vi (-1), vi (-1), vi 0, vi 0, vi 0, vi 0, vl 0, vi 0, vi 0, vi 0, vr (o + 5), vi 0, vi 0, vi 0, vi 0, vr (o + 6), vr (o + 7), vn, vi 0, vn] fl_X11_35 rfl rfl rfl hc15_0 rfl rfl (Nat.le_of_ble_eq_true rfl) rfl (fun w16_ hn16 fr16 => ?_)
  have hc16_1 := (fr16 _ (by omega)).trans hc15_1
  have hc16_2 := (fr16 _ (by omega)).trans hc15_2
  have hc16_3 := (fr16 _ (by omega)).trans hc15_3
  have hc16_4 := (fr16 _ (by omega)).trans hc15_4
  have hc16_5 := (fr16 _ (by omega)).trans hc15_5
  have hc16_6 := (fr16 _ (by omega)).trans hc15_6
  have hc16_7 := (fr16 _ (by omega)).trans hn15
  have hF16 := Fu_fr hF15 hn16 fr16
  refine M.run 2 (pc' := 80) (lv' := [some (vr o)]) (st' := [vi 330, vr o]) rfl ?_
  show g _ _ _ _ _ (vi ((330 : Nat) : Int) :: _)
  refine MS.newZW (o + 8) (by omega) hF16 (by omega) rfl (by omega) (by omega) (fun w17_ hn17 fr17 hF17 => ?_)
  have hc17_0 := (fr17 _ (by omega)).trans hn16
  have hc17_1 := (fr17 _ (by omega)).trans hc16_1
  have hc17_2 := (fr17 _ (by omega)).trans hc16_2
  have hc17_3 := (fr17 _ (by omega)).trans hc16_3
  have hc17_4 := (fr17 _ (by omega)).trans hc16_4
  have hc17_5 := (fr17 _ (by omega)).trans hc16_5
  have hc17_6 := (fr17 _ (by omega)).trans hc16_6
  have hc17_7 := (fr17 _ (by omega)).trans hc16_7
  refine M.putFW [vr (o + 1), vr (o + 2), vr (o + 3), vr (o + 4), vi 0, vi (-1), vi (-1), vi 0, vi 0, vi 0, vi 0, vl 0, vi 0, vi 0, vi 0, vr (o + 5), vi 0, vi 0, vi 0, vi 0, vr (o + 6), vr (o + 7), vr (o + 8), vi 0, vn] fl_X11_39 rfl rfl rfl hc17_0 rfl rfl (Nat.le_of_ble_eq_true rfl) rfl (fun w18_ hn18 fr18 => ?_)
  have hc18_1 := (fr18 _ (by omega)).trans hc17_1
  have hc18_2 := (fr18 _ (by omega)).trans hc17_2
  have hc18_3 := (fr18 _ (by omega)).trans hc17_3
  have hc18_4 := (fr18 _ (by omega)).trans hc17_4
  have hc18_5 := (fr18 _ (by omega)).trans hc17_5
  have hc18_6 := (fr18 _ (by omega)).trans hc17_6
  have hc18_7 := (fr18 _ (by omega)).trans hc17_7
  have hc18_8 := (fr18 _ (by omega)).trans hn17
  have hF18 := Fu_fr hF17 hn18 fr18
  refine M.run 2 (pc' := 89) (lv' := [some (vr o)]) (st' := [vi 968, vr o]) rfl ?_
  show g _ _ _ _ _ (vi ((968 : Nat) : Int) :: _)
  refine MS.newIW (o + 9) (by omega) hF18 (by omega) rfl (by omega) (by omega) (fun w19_ hn19 fr19 hF19 => ?_)
  have hc19_0 := (fr19 _ (by omega)).trans hn18
  have hc19_1 := (fr19 _ (by omega)).trans hc18_1
  have hc19_2 := (fr19 _ (by omega)).trans hc18_2
  have hc19_3 := (fr19 _ (by omega)).trans hc18_3
  have hc19_4 := (fr19 _ (by omega)).trans hc18_4
  have hc19_5 := (fr19 _ (by omega)).trans hc18_5
  have hc19_6 := (fr19 _ (by omega)).trans hc18_6
  have hc19_7 := (fr19 _ (by omega)).trans hc18_7
  have hc19_8 := (fr19 _ (by omega)).trans hc18_8
  refine M.putFW [vr (o + 1), vr (o + 2), vr (o + 3), vr (o + 4), vi 0, vi (-1), vi (-1), vi 0, vi 0, vi 0, vi 0, vl 0, vi 0, vi 0, vi 0, vr (o + 5), vi 0, vi 0, vi 0, vi 0, vr (o + 6), vr (o + 7), vr (o + 8), vi 0, vr (o + 9)] fl_X11_43 rfl rfl rfl hc19_0 rfl rfl (Nat.le_of_ble_eq_true rfl) rfl (fun w20_ hn20 fr20 => ?_)
  have hc20_1 := (fr20 _ (by omega)).trans hc19_1
  have hc20_2 := (fr20 _ (by omega)).trans hc19_2
  have hc20_3 := (fr20 _ (by omega)).trans hc19_3
  have hc20_4 := (fr20 _ (by omega)).trans hc19_4
  have hc20_5 := (fr20 _ (by omega)).trans hc19_5
  have hc20_6 := (fr20 _ (by omega)).trans hc19_6
  have hc20_7 := (fr20 _ (by omega)).trans hc19_7
  have hc20_8 := (fr20 _ (by omega)).trans hc19_8
  have hc20_9 := (fr20 _ (by omega)).trans hn19
  have hF20 := Fu_fr hF19 hn20 fr20
  refine M.run 1 (pc' := 95) (lv' := [some (vr o)]) (st' := [vr o]) rfl ?_
  refine M.get fl_X11_7 rfl hn20 (kf := 0) (v := vr (o + 1)) rfl ?_
  refine M.run 2 (pc' := 103) (lv' := [some (vr o)]) (st' := [vi 491, vi 19, vr (o + 1)]) rfl ?_
  refine M.iastW 19 rfl hc20_1 (by decide) (by decide) (fun w21_ hn21 fr21 => ?_)
  have hc21_0 := (fr21 _ (by omega)).trans hn20
  have hc21_2 := (fr21 _ (by omega)).trans hc20_2
  have hc21_3 := (fr21 _ (by omega)).trans hc20_3
  have hc21_4 := (fr21 _ (by omega)).trans hc20_4
  have hc21_5 := (fr21 _ (by omega)).trans hc20_5
  have hc21_6 := (fr21 _ (by omega)).trans hc20_6
  have hc21_7 := (fr21 _ (by omega)).trans hc20_7
  have hc21_8 := (fr21 _ (by omega)).trans hc20_8
  have hc21_9 := (fr21 _ (by omega)).trans hc20_9
  have hF21 := Fu_fr hF20 hn21 fr21
  refine M.run 1 (pc' := 105) (lv' := [some (vr o)]) (st' := [vr o]) rfl ?_
  refine M.get fl_X11_7 rfl hc21_0 (kf := 0) (v := vr (o + 1)) rfl ?_
  refine M.run 2 (pc' := 110) (lv' := [some (vr o)]) (st' := [vi (-1), vi 2, vr (o + 1)]) rfl ?_
  refine M.iastW 2 rfl hn21 (by decide) (by decide) (fun w22_ hn22 fr22 => ?_)
  have hc22_0 := (fr22 _ (by omega)).trans hc21_0
  have hc22_2 := (fr22 _ (by omega)).trans hc21_2
  have hc22_3 := (fr22 _ (by omega)).trans hc21_3
  have hc22_4 := (fr22 _ (by omega)).trans hc21_4
  have hc22_5 := (fr22 _ (by omega)).trans hc21_5
  have hc22_6 := (fr22 _ (by omega)).trans hc21_6
  have hc22_7 := (fr22 _ (by omega)).trans hc21_7
  have hc22_8 := (fr22 _ (by omega)).trans hc21_8
  have hc22_9 := (fr22 _ (by omega)).trans hc21_9
  have hF22 := Fu_fr hF21 hn22 fr22
  refine M.run 1 (pc' := 112) (lv' := [some (vr o)]) (st' := [vr o]) rfl ?_
  refine M.get fl_X11_7 rfl hc22_0 (kf := 0) (v := vr (o + 1)) rfl ?_
  refine M.run 2 (pc' := 118) (lv' := [some (vr o)]) (st' := [vi 2, vi 6, vr (o + 1)]) rfl ?_
  refine M.iastW 6 rfl hn22 (by decide) (by decide) (fun w23_ hn23 fr23 => ?_)
  have hc23_0 := (fr23 _ (by omega)).trans hc22_0
  have hc23_2 := (fr23 _ (by omega)).trans hc22_2
  have hc23_3 := (fr23 _ (by omega)).trans hc22_3
  have hc23_4 := (fr23 _ (by omega)).trans hc22_4
  have hc23_5 := (fr23 _ (by omega)).trans hc22_5
  have hc23_6 := (fr23 _ (by omega)).trans hc22_6
  have hc23_7 := (fr23 _ (by omega)).trans hc22_7
  have hc23_8 := (fr23 _ (by omega)).trans hc22_8
  have hc23_9 := (fr23 _ (by omega)).trans hc22_9
  have hF23 := Fu_fr hF22 hn23 fr23
  refine M.run 1 (pc' := 120) (lv' := [some (vr o)]) (st' := [vr o]) rfl ?_
  refine M.get fl_X11_7 rfl hc23_0 (kf := 0) (v := vr (o + 1)) rfl ?_
  refine M.run 2 (pc' := 126) (lv' := [some (vr o)]) (st' := [vi 4, vi 7, vr (o + 1)]) rfl ?_
  refine M.iastW 7 rfl hn23 (by decide) (by decide) (fun w24_ hn24 fr24 => ?_)
  have hc24_0 := (fr24 _ (by omega)).trans hc23_0
  have hc24_2 := (fr24 _ (by omega)).trans hc23_2
  have hc24_3 := (fr24 _ (by omega)).trans hc23_3
  have hc24_4 := (fr24 _ (by omega)).trans hc23_4
  have hc24_5 := (fr24 _ (by omega)).trans hc23_5
  have hc24_6 := (fr24 _ (by omega)).trans hc23_6
  have hc24_7 := (fr24 _ (by omega)).trans hc23_7
  have hc24_8 := (fr24 _ (by omega)).trans hc23_8
  have hc24_9 := (fr24 _ (by omega)).trans hc23_9
  have hF24 := Fu_fr hF23 hn24 fr24
  refine M.run 1 (pc' := 128) (lv' := [some (vr o)]) (st' := [vr o]) rfl ?_
  refine M.get fl_X11_7 rfl hc24_0 (kf := 0) (v := vr (o + 1)) rfl ?_
  refine M.run 2 (pc' := 134) (lv' := [some (vr o)]) (st' := [vi 3, vi 8, vr (o + 1)]) rfl ?_
  refine M.iastW 8 rfl hn24 (by decide) (by decide) (fun w25_ hn25 fr25 => ?_)
  have hc25_0 := (fr25 _ (by omega)).trans hc24_0
  have hc25_2 := (fr25 _ (by omega)).trans hc24_2
  have hc25_3 := (fr25 _ (by omega)).trans hc24_3
  have hc25_4 := (fr25 _ (by omega)).trans hc24_4
  have hc25_5 := (fr25 _ (by omega)).trans hc24_5
  have hc25_6 := (fr25 _ (by omega)).trans hc24_6
  have hc25_7 := (fr25 _ (by omega)).trans hc24_7
  have hc25_8 := (fr25 _ (by omega)).trans hc24_8
  have hc25_9 := (fr25 _ (by omega)).trans hc24_9
  have hF25 := Fu_fr hF24 hn25 fr25
  refine M.run 1 (pc' := 136) (lv' := [some (vr o)]) (st' := [vr o]) rfl ?_
  refine M.get fl_X11_7 rfl hc25_0 (kf := 0) (v := vr (o + 1)) rfl ?_
  refine M.run 2 (pc' := 142) (lv' := [some (vr o)]) (st' := [vi 1, vi 9, vr (o + 1)]) rfl ?_
  refine M.iastW 9 rfl hn25 (by decide) (by decide) (fun w26_ hn26 fr26 => ?_)
  have hc26_0 := (fr26 _ (by omega)).trans hc25_0
  have hc26_2 := (fr26 _ (by omega)).trans hc25_2
  have hc26_3 := (fr26 _ (by omega)).trans hc25_3
  have hc26_4 := (fr26 _ (by omega)).trans hc25_4
  have hc26_5 := (fr26 _ (by omega)).trans hc25_5
  have hc26_6 := (fr26 _ (by omega)).trans hc25_6
  have hc26_7 := (fr26 _ (by omega)).trans hc25_7
  have hc26_8 := (fr26 _ (by omega)).trans hc25_8
  have hc26_9 := (fr26 _ (by omega)).trans hc25_9
  have hF26 := Fu_fr hF25 hn26 fr26
  refine M.run 1 (pc' := 144) (lv' := [some (vr o)]) (st' := [vr o]) rfl ?_
  refine M.get fl_X11_7 rfl hc26_0 (kf := 0) (v := vr (o + 1)) rfl ?_
  refine M.run 2 (pc' := 150) (lv' := [some (vr o)]) (st' := [vi 1, vi 11, vr (o + 1)]) rfl ?_
  refine M.iastW 11 rfl hn26 (by decide) (by decide) (fun w27_ hn27 fr27 => ?_)
  have hc27_0 := (fr27 _ (by omega)).trans hc26_0
  have hc27_2 := (fr27 _ (by omega)).trans hc26_2
  have hc27_3 := (fr27 _ (by omega)).trans hc26_3
  have hc27_4 := (fr27 _ (by omega)).trans hc26_4
  have hc27_5 := (fr27 _ (by omega)).trans hc26_5
  have hc27_6 := (fr27 _ (by omega)).trans hc26_6
  have hc27_7 := (fr27 _ (by omega)).trans hc26_7
  have hc27_8 := (fr27 _ (by omega)).trans hc26_8
  have hc27_9 := (fr27 _ (by omega)).trans hc26_9
  have hF27 := Fu_fr hF26 hn27 fr27
  have hA := hn27
  rw [t0_st] at hA
  have hM : isM o (aI o) u0i t0i (fun _ _ => 0) w27_ := by
    refine ⟨hc27_0, hA, fun q hq => ?_, fun q hq => ?_, ?_, fun p hp q hq h => ?_⟩
    · unfold Mrows at hq
      simp only [List.mem_cons, List.not_mem_nil, or_false] at hq
      rcases hq with rfl | rfl | rfl | rfl | rfl | rfl | rfl | rfl
      · exact hc27_2
      · exact hc27_3
      · exact hc27_4
      · exact hc27_5
      · exact hc27_6
      · exact hc27_7
      · exact hc27_8
      · exact hc27_9
    · have h2 : ∀ q ∈ Mrows, aI 0 q.1 ≠ aI 0 0 ∧ aI 0 q.1 ≠ 0 := by decide
      have h3 := h2 q hq
      unfold aI at h3 ⊢
      omega
    · show o + (if (0 : Nat) < 4 then 0 + 1 else _) ≠ o
      rw [if_pos (by decide)]
      omega
    · have h2 : ∀ p ∈ Mrows, ∀ q ∈ Mrows, aI 0 p.1 = aI 0 q.1 → p = q := by decide
      exact h2 p hp q hq (by unfold aI at h ⊢; omega)
  refine M.run 1 (pc' := 152) (lv' := [some (vr o)]) (st' := [vr o]) rfl ?_
  refine M.get fl_X11_7 rfl (isM_o hM) (kf := 0) (v := vr (aI o 0)) rfl ?_
  refine M.run 1 (pc' := 156) (lv' := [some (vr o)]) (st' := [vr o, vr (aI o 0)]) rfl ?_
  refine M.get fl_X11_13 rfl (isM_o hM) (kf := 1) (v := vr (aI o 1)) rfl ?_
  refine M.callS (kX11_copyI l G o (aI o) u0i t0i (fun _ _ => 0)) cs_X11_46 cd_X11_copy rfl (st := []) rfl (by decide) (by decide) rfl (by omega) (by omega) hM (fun r1 w9 q3 => ?_)
  obtain ⟨q3r, f9, hMc, hcf⟩ := q3
  rw [q3r]
  refine M.vret rfl (by omega) (by omega) ⟨rfl, _, ⟨t0i, ⟨t0i, _, hMc, Rp_0, fun _ _ => rfl, fun _ _ _ _ => rfl⟩, ⟨fun _ _ _ _ => rfl, fun _ _ _ => rfl⟩, Rg_0⟩, fun k hk => by unfold uB; rw [if_neg hk], Rp_ext (Dok_0 (Int.le_refl 0)) (fun k k1 k2 => hcf k (by omega)) Rp_0, ⟨fun k k1 _ _ => hcf k (by omega), fun k k1 k2 => hcf k (by omega)⟩, Rg_ext2 (n := 0) Lok_0 (fun k hk => hcf k hk) Rg_0⟩
