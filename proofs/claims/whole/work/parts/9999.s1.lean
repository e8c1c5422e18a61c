/-! the law: from its entry -/
set_option maxRecDepth 100000 in
theorem wd_l_RL_7 : Cond.classLink RL 7 RX10 ∈ lw_g := lw_g_in (List.mem_of_getElem? (i := 144) (by decide +kernel)) rfl
set_option maxRecDepth 100000 in
theorem wd_l_RL_10 : Cond.classLink RL 10 RX11 ∈ lw_g := lw_g_in (List.mem_of_getElem? (i := 1262) (by decide +kernel)) rfl
set_option maxRecDepth 100000 in
theorem wd_i_RX10 : Cond.instantiable RX10 11 ∈ lw_g := lw_g_in (List.mem_of_getElem? (i := 145) (by decide +kernel)) rfl
set_option maxRecDepth 100000 in
theorem wd_i_RX11 : Cond.instantiable RX11 25 ∈ lw_g := lw_g_in (List.mem_of_getElem? (i := 1263) (by decide +kernel)) rfl
set_option maxRecDepth 100000 in
theorem wd_s_RX10 : Cond.initialized RX10 ∈ lw_g := lw_g_in (List.mem_of_getElem? (i := 124) (by decide +kernel)) rfl
set_option maxRecDepth 100000 in
theorem wd_s_RX11 : Cond.initialized RX11 ∈ lw_g := lw_g_in (List.mem_of_getElem? (i := 134) (by decide +kernel)) rfl
def tL_0 : List (Nat × Instr × Nat) := [(0, .new 7, 3), (3, .dup, 1), (4, .invokespecial 9, 3), (7, .astore_n 1, 1), (8, .new 10, 3), (11, .dup, 1), (12, .invokespecial 12, 3), (15, .astore_n 2, 1), (16, .iconst 0, 1), (17, .istore_n 3, 1)]
set_option maxRecDepth 100000 in
theorem tL_0_ok : tL_0.all (fun q => decide (decode cL_law q.1 = .ok q.2)) = true := by decide +kernel
theorem isEn_e0 {G : GT} {kb : Nat} {tl fx : Nat → Int} {X : Nat → Int → Option Gn} {cl : Nat → Int} {dr : Int} {D : Dy} {w w' : Wo} (h : isEn G (kb + 850) (aA kb) (tz (kb + 1)) tl fx X cl dr D w) (h0 : tl 1 ≤ 0) (e : ∀ a : Nat, a < kb + 850 → lk w' a = lk w a) : isEn G (kb + 850) (aA kb) (tz (kb + 1)) tl fx X cl dr D w' := by
  obtain ⟨h1, h2, h3, h4, h5, h6, h7, h8⟩ := h
  exact ⟨isS2_e h1 (fun i hi => e _ (h8 i (by omega))), isTo_e h2 (fun j hj => e _ (by unfold tz; omega)), (e _ (h8 13 (by decide))).trans h3, lw_fr h4 (e _ (h8 14 (by decide))) (e _ (h8 15 (by decide))), fun t ht => absurd ht (by omega), h6, h7, h8⟩
theorem isKr_e0 {kb : Nat} {L : List Dy} {tl2 : Nat → Int} {D2 : Dy} {L2 : List Dy} {tp : Nat → Int} {nt fs fp : Int} {w w' : Wo} (h : isKr kb (fun _ => -1) (fun _ => -1) L tl2 D2 L2 tp nt fs fp w) (e : ∀ a : Nat, a < kb + 850 → lk w' a = lk w a) : isKr kb (fun _ => -1) (fun _ => -1) L tl2 D2 L2 tp nt fs fp w' := by
  obtain ⟨k1, k2, k3, k4, k5, ⟨k6, k6b, Dx, k6c⟩, k7, k8, k9, ⟨⟨v0, v1, v2, v3, v4, v5, r1, r2, r0⟩, ⟨c0, r3⟩, ⟨f4, r4⟩, ⟨f5, r5⟩, ⟨f6, r6⟩, ⟨f7, r7⟩, ⟨f8, r8⟩⟩, k11⟩ := h
  have hB := fun i hi => e _ (aB_hb (kb := kb) i hi)
  exact ⟨(e _ (by omega)).trans k1, rg_fr k2 (fun a ha => e a (by omega)), rg_fr k3 (fun a ha => e a (by omega)), isTo_e k4 (fun j hj => e _ (by unfold tz; omega)), isS2_e k5 (fun j hj => e _ (by unfold nz; omega)), ⟨(hB 13 (by decide)).trans k6, lw_fr k6b (hB 14 (by decide)) (hB 15 (by decide)), Dx, isS2_e k6c (fun i hi => hB i (by omega))⟩,
    fun j hj h0 => absurd h0 (show ¬ (0 : Int) ≤ -1 by decide), fun j hj h0 => absurd h0 (show ¬ (0 : Int) ≤ -1 by decide), k9,
    ⟨⟨v0, v1, v2, v3, v4, v5, r1, r2, (e _ (by omega)).trans r0⟩, ⟨c0, (e _ (by omega)).trans r3⟩, ⟨f4, (e _ (by omega)).trans r4⟩, ⟨f5, (e _ (by omega)).trans r5⟩, ⟨f6, (e _ (by omega)).trans r6⟩, ⟨f7, (e _ (by omega)).trans r7⟩, ⟨f8, (e _ (by omega)).trans r8⟩⟩, (e _ (by omega)).trans k11⟩
set_option maxHeartbeats 4000000 in
set_option maxRecDepth 100000 in
theorem law_run (l : Launch) (G : GT) {nm ds : String} {sz sb Ln : Nat} {xs : Nat → Int32} {g : gF} (MX : MachX l G ⟨RL, nm, ds⟩ cL_law tL_0 4 (some .boolean) 1312 600000 7302250 Q1 sz sb Ln xs g) (hL : Ln ≤ 3072) (hsz : sz = gB G) : g 0 0 [] 0 [some (vr sb), none, none, none] [] := by
  have MS := MX.S
  have M := MS.M
  have hF0 : Fu G [] sz := fun q h1 h2 => absurd h1 (by omega)
  refine MS.newOW (ci := 9) sz [vn, vn, vn, vn, vn, vn, vn, vn, vi 0, vi 0, vi 0] (by omega) hF0 rfl inX10 tyX10_ok wd_l_RL_7 wd_i_RX10 wd_s_RX10 (by decide +kernel) rfl (by omega) (by omega) (fun w1 n1 f1 F1 => ?_)
  refine M.run 1 (pc' := 4) (lv' := [some (vr sb), none, none, none]) (st' := [vr sz, vr sz]) rfl ?_
  refine MS.callI (sz + 1) (by omega) F1 (kX10_init l G sz (fun _ _ => none) (fun _ => 0)) ci_L_9 cd_X10_init rfl rfl (by decide) (by decide) rfl (by omega) (by omega) ⟨n1, F1⟩ (fun w2 q2 => ?_) (fun r w h => h.1)
  obtain ⟨_, cE, cK, cB, cF⟩ := q2
  refine M.run 1 (pc' := 8) (lv' := [some (vr sb), some (vr sz), none, none]) (st' := []) rfl ?_
  refine MS.newOW (ci := 10) (sz + 850) [vn, vn, vn, vn, vi 0, vi 0, vi 0, vi 0, vi 0, vi 0, vi 0, vl 0, vi 0, vi 0, vi 0, vn, vi 0, vi 0, vi 0, vi 0, vn, vn, vn, vi 0, vn] (by omega) cF rfl inX11 tyX11_ok wd_l_RL_10 wd_i_RX11 wd_s_RX11 (by decide +kernel) rfl (by omega) (by omega) (fun w3 n3 f3 F3 => ?_)
  refine M.run 1 (pc' := 12) (lv' := [some (vr sb), some (vr sz), none, none]) (st' := [vr (sz + 850), vr (sz + 850)]) rfl ?_
  refine MS.callI (sz + 851) (by omega) F3 (kX11_initS l G (sz + 850)) ci_L_12 cd_X11_init rfl rfl (by decide) (by decide) rfl (by omega) (by omega) ⟨n3, F3⟩ (fun w4 q4 => ?_) (fun r w h => h.1)
  obtain ⟨_, wc, wm, b1, e4, ec, mT, mb, mI⟩ := q4
  rw [e4]
  refine M.run 3 (pc' := 18) (lv' := [some (vr sb), some (vr sz), some (vr (sz + 850)), some (vi 0)]) (st' := []) rfl ?_
  have e2 := mb 2 (by decide)
  have e3 := mb 3 (by decide)
  have ew : ∀ a : Nat, a < sz + 850 → lk wc a = lk w2 a := fun a ha => (ec a ha).trans (f3 a (by omega))
  have hI : LI G sz (sz + 850) (100000 * ((0 : Nat) : Int)) wc wm := by
    refine ⟨t0i, fun _ => -1, fun _ => -1, fun _ _ => none, D0, [], t0i, D0, [], 0, u0i, b1, PS_0 (by omega), PS_0 (by omega), Int.le_refl _, ?_, ?_, mT, mI, fun t ht => absurd ht (by show ¬ ((t : Int) < 0); omega), ?_, rfl, by decide, rfl⟩
    · rw [e2]; exact isEn_e0 cE (by decide) ew
    · rw [e3]; exact isKr_e0 cK ew
    · rw [e3]; exact fun k hk => ⟨Int.le_refl 0, show (0 : Int) < 256 by decide⟩
  exact M.wid (by omega) (by omega) (law_go l G (MX.tab tL_18_ok) hL (by omega) 512 0 wc wm rfl hI)
