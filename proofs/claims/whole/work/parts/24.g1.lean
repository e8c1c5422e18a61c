theorem TE.rf {a : Nat → Int} : TE a a := ⟨fun _ _ _ _ => rfl, fun _ _ _ => rfl⟩
theorem TE.tr {a b c : Nat → Int} (h : TE a b) (h2 : TE b c) : TE a c := ⟨fun k q1 q2 q3 => (h2.1 k q1 q2 q3).trans (h.1 k q1 q2 q3), fun k q1 q2 => (h2.2 k q1 q2).trans (h.2 k q1 q2)⟩
theorem tm30 {x : Int} (hx : 0 ≤ x) (h : x ≤ 30) : x.tmod 30 = if x = 30 then 0 else x := by
  rw [Int.tmod_eq_emod_of_nonneg hx]
  split <;> omega
def kp1 (a0 a A0 : Nat → Int) (xx : Nat) (L : List Dy) : Prop := ∃ c F : Nat, c < 30 ∧ F < 30 ∧ xx = 1002 + 968 * ((F + c) % 30) ∧ A0 3 = ((c : Nat) : Int) ∧ A0 5 = ((F : Nat) : Int) ∧ (∀ k : Nat, k ≠ 3 → k ≠ 5 → A0 k = a k) ∧
  ((L.length < 30 ∧ c = L.length ∧ ((F : Nat) : Int) = a0 5) ∨ (L.length = 30 ∧ c = 29 ∧ ((F : Nat) : Int) = if a0 5 = 29 then 0 else a0 5 + 1))
theorem kp1_xx {a0 a A0 : Nat → Int} {xx : Nat} {L : List Dy} (h : kp1 a0 a A0 xx L) : 1002 ≤ xx ∧ xx ≤ 29074 := by
  obtain ⟨c, F, h1, h2, h3, _⟩ := h
  omega
theorem kp_end {n : Int} {a0 a A0 f : Nat → Int} {xx : Nat} {L : List Dy} {D : Dy} (hd : Dok n D) (hL : Lok n L) (hR : Rp a D) (hF : Fr a0 a) (hg : Rg a0 L) (h : kp1 a0 a A0 xx L) (hc : cpP A0 f xx 18 968) :
    Rp (uN f 3 (f 3 + 1)) D ∧ TE a0 (uN f 3 (f 3 + 1)) ∧ Rg (uN f 3 (f 3 + 1)) (pushL L D) := by
  obtain ⟨c, F, h1, h2, h3, h4, h5, h6, h7⟩ := h
  obtain ⟨g1, g2, g3, g4⟩ := hg
  have hf : ∀ k : Nat, (k < xx ∨ xx + 968 ≤ k) → f k = A0 k := fun k hk => by rw [hc k, if_neg (by omega)]
  have hv : ∀ k : Nat, k ≠ 3 → uN f 3 (f 3 + 1) k = f k := fun k hk => uN_o hk
  have hl : (pushL L D).length = c + 1 := by
    rw [pushL_len g2]
    omega
  refine ⟨Rp_ext hd (fun k k1 k2 => ?_) hR, ⟨fun k k1 k2 k3 => ?_, fun k k1 k2 => ?_⟩, ?_, by omega, ?_, fun i hi => ?_⟩
  · rw [hv k (by omega), hf k (by omega), h6 k (by omega) (by omega)]
  · rw [hv k k2, hf k (by omega), h6 k k2 k3]; exact hF k (Or.inl k1)
  · rw [hv k (by omega), hf k (by omega), h6 k (by omega) (by omega)]; exact hF k (Or.inr k1)
  · rw [uN_s, hf 3 (by omega), h4, hl]; rfl
  · rw [hv 5 (by decide), hf 5 (by omega), h5]; omega
  · have e5 : (uN f 3 (f 3 + 1) 5).toNat = F := by rw [hv 5 (by decide), hf 5 (by omega), h5]; rfl
    rw [hl] at hi
    by_cases e : i = c
    · subst e
      have eD : gY (pushL L D) i = D := by
        unfold pushL
        rcases h7 with ⟨z1, z2, z3⟩ | ⟨z1, z2, z3⟩
        · rw [if_neg (by omega), z2, gY_last]
        · rw [if_pos z1, show i = L.tail.length by rw [List.length_tail, z1]; exact z2, gY_last]
      rw [eD]
      refine Rp_ext hd (fun k k1 k2 => ?_) hR
      unfold svR
      rw [e5, hv _ (by omega), hc _, if_pos (by omega), ← h6 k (by omega) (by omega)]
      congr 1
      omega
    · have hi2 : i < c := by omega
      have hne : (F + i) % 30 ≠ (F + c) % 30 := by omega
      have es : ∀ k : Nat, 18 ≤ k → k < 986 → svR (uN f 3 (f 3 + 1)) i k = a0 (1002 + 968 * ((F + i) % 30) + (k - 18)) := fun k k1 k2 => by
        unfold svR
        rw [e5, hv _ (by omega), hf _ (by omega), h6 _ (by omega) (by omega)]
        exact hF _ (Or.inr (by omega))
      rcases h7 with ⟨z1, z2, z3⟩ | ⟨z1, z2, z3⟩
      · have eD : gY (pushL L D) i = gY L i := by
          unfold pushL
          rw [if_neg (by omega), gY_app (by omega)]
        rw [eD]
        refine Rp_ext (hL _ (gY_mem (by omega))).1 (fun k k1 k2 => ?_) (g4 i (by omega))
        rw [es k k1 k2]
        unfold svR
        rw [show (a0 5).toNat = F by omega]
      · have eD : gY (pushL L D) i = gY L (i + 1) := by
          unfold pushL
          rw [if_pos z1, gY_app (by rw [List.length_tail]; omega), gY_tail]
        rw [eD]
        refine Rp_ext (hL _ (gY_mem (by omega))).1 (fun k k1 k2 => ?_) (g4 (i + 1) (by omega))
        rw [es k k1 k2]
        unfold svR
        congr 3
        split at z3 <;> omega
theorem un_end {n : Int} {a0 a f : Nat → Int} {L : List Dy} {D : Dy} {c : Nat} (hL : Lok n L) (hF : Fr a0 a) (hg : Rg a0 L) (hlen : L.length = c + 1) (hc : cpP (uN a 3 ((c : Nat) : Int)) f 18 (1002 + 968 * (((a0 5).toNat + c) % 30)) 968) :
    Rp f (gY L c) ∧ TE a0 f ∧ Rg f L.dropLast := by
  obtain ⟨g1, g2, g3, g4⟩ := hg
  have hf : ∀ k : Nat, (k < 18 ∨ 986 ≤ k) → f k = uN a 3 ((c : Nat) : Int) k := fun k hk => by rw [hc k, if_neg (by omega)]
  have hl : L.dropLast.length = c := by rw [List.length_dropLast, hlen]; rfl
  refine ⟨Rp_ext (hL _ (gY_mem (by omega))).1 (fun k k1 k2 => ?_) (g4 c (by omega)), ⟨fun k k1 k2 k3 => ?_, fun k k1 k2 => ?_⟩, ?_, by omega, ?_, fun i hi => ?_⟩
  · rw [hc k, if_pos (by omega), uN_o (by omega), hF _ (Or.inr (by omega))]
    unfold svR
    congr 1
    omega
  · rw [hf k (by omega), uN_o k2]; exact hF k (Or.inl k1)
  · rw [hf k (by omega), uN_o (by omega)]; exact hF k (Or.inr k1)
  · rw [hf 3 (by omega), uN_s, hl]
  · rw [hf 5 (by omega), uN_o (by decide), hF 5 (Or.inl (by decide))]; exact g3
  · rw [gY_drop hi]
    rw [hl] at hi
    refine Rp_ext (hL _ (gY_mem (by omega))).1 (fun k k1 k2 => ?_) (g4 i (by omega))
    have e5 : f 5 = a0 5 := by rw [hf 5 (by omega), uN_o (by decide), hF 5 (Or.inl (by decide))]
    unfold svR
    rw [e5, hf _ (by omega), uN_o (by omega)]
    exact hF _ (Or.inr (by omega))

set_option maxHeartbeats 4000000 in
set_option maxRecDepth 100000 in
theorem kX11_stepAt (l : Launch) (G : GT) (x i : Nat) (hx : x < 1000) (hi : i < 1000) : Ctr l G yX11_stepAt cX11_stepAt 2 ((Option.some Jvm.ClassFile.FieldType.int)) 1 0 0 [vi ((x : Nat) : Int), vi ((i : Nat) : Int)] (fun w => True) (fun w r w' => r = some (vi ((1002 + 968 * ((x + i) % 30) : Nat) : Int)) ∧ w' = w) := by
  refine Ctr.of (t := tX11_stepAt) (lv0 := [some (vi ((x : Nat) : Int)), some (vi ((i : Nat) : Int))]) (by decide +kernel) tX11_stepAt_ok rfl rfl (fun w g hP M => ?_)
  have ht := tm_b (x := ((x : Nat) : Int) + ((i : Nat) : Int)) (m := 30) (by omega) (by decide)
  refine M.run 6 (pc' := 11) (lv' := [some (vi ((x : Nat) : Int)), some (vi ((i : Nat) : Int))]) (st' := [vi 30, vi (((x : Nat) : Int) + ((i : Nat) : Int)), vi 968, vi 1002]) rfl ?_
  refine M.irem rfl (qI (by omega)) (qI (by decide)) (by omega) ?_
  refine M.run 2 (pc' := 14) (lv' := [some (vi ((x : Nat) : Int)), some (vi ((i : Nat) : Int))]) (st' := [vi (1002 + (968 * ((((x : Nat) : Int) + ((i : Nat) : Int)).tmod 30)))]) rfl ?_
  exact M.iret rfl (Nat.zero_le _) (Nat.zero_le _) ⟨reI (by rw [Int.tmod_eq_emod_of_nonneg (by omega)]; omega), rfl⟩
set_option maxHeartbeats 4000000 in
set_option maxRecDepth 100000 in
theorem eX11_keep (l : Launch) (G : GT) (o : Nat) (am : Nat → Nat) (u a0 : Nat → Int) (b0 : Nat → Nat → Int) (D : Dy) (n : Int) (ht : Tok a0) (hd : Dok n D) (hn : 0 ≤ n ∧ n ≤ 900000000) (L : List Dy) (hg : Rg a0 L) (hL : Lok n L) : Ctr l G yX11_keep cX11_keep 3 ((Option.none : Option Jvm.ClassFile.FieldType)) 2 0 0 [vr o] (fun w => isE o am u a0 b0 D w) (fun w r w' => r = none ∧ ∃ a1, isE o am u a1 b0 D w' ∧ TE a0 a1 ∧ Rg a1 (pushL L D)) := by
  refine Ctr.of (t := tX11_keep) (lv0 := [some (vr o), none, none]) (by decide +kernel) tX11_keep_ok rfl rfl (fun w g hP M => ?_)
  obtain ⟨a, b, hM, hR, hF, hB⟩ := hP
  have hg1 := hg.1
  have hg2 := hg.2.1
  have hg3 := hg.2.2.1
  refine M.run 1 (pc' := 1) (lv' := [some (vr o), none, none]) (st' := [vr o]) rfl ?_
  refine M.get fl_X11_7 rfl (isM_o hM) (kf := 0) (v := vr (am 0)) rfl ?_
  refine M.run 1 (pc' := 5) (lv' := [some (vr o), none, none]) (st' := [vi 3, vr (am 0)]) rfl ?_
  refine M.ialdN (3) rfl (isM_a hM) (by decide) (by decide) ?_
  rw [show a 3 = a0 3 from hF 3 (Or.inl (by decide))]
  refine M.run 1 (pc' := 8) (lv' := [some (vr o), none, none]) (st' := [vi 30, vi (a0 3)]) rfl ?_
  refine M.icmp_ne (tgt := 38) rfl (qI (by omega)) (qI (by decide)) (by decide) (fun h8 => ?_) (fun h8 => ?_)
  · skip
    refine M.run 1 (pc' := 39) (lv' := [some (vr o), none, none]) (st' := [vr o]) rfl ?_
    refine M.get fl_X11_7 rfl (isM_o hM) (kf := 0) (v := vr (am 0)) rfl ?_
    refine M.run 1 (pc' := 43) (lv' := [some (vr o), none, none]) (st' := [vi 5, vr (am 0)]) rfl ?_
    refine M.ialdN (5) rfl (isM_a hM) (by decide) (by decide) ?_
    rw [show a 5 = a0 5 from hF 5 (Or.inl (by decide))]
    refine M.run 1 (pc' := 45) (lv' := [some (vr o), none, none]) (st' := [vr o, vi (a0 5)]) rfl ?_
    refine M.get fl_X11_7 rfl (isM_o hM) (kf := 0) (v := vr (am 0)) rfl ?_
    refine M.run 1 (pc' := 49) (lv' := [some (vr o), none, none]) (st' := [vi 3, vr (am 0), vi (a0 5)]) rfl ?_
    refine M.ialdN (3) rfl (isM_a hM) (by decide) (by decide) ?_
    rw [show a 3 = a0 3 from hF 3 (Or.inl (by decide))]
    rw [show a0 3 = (((a0 3).toNat : Nat) : Int) from (Int.toNat_of_nonneg (by omega)).symm]
    rw [show a0 5 = (((a0 5).toNat : Nat) : Int) from (Int.toNat_of_nonneg (by omega)).symm]
    refine M.callS (kX11_stepAt l G ((a0 5).toNat) ((a0 3).toNat) (by omega) (by omega)) cs_X11_399 cd_X11_stepAt rfl (st := []) rfl (by decide) (by decide) rfl (Nat.zero_le _) (Nat.zero_le _) trivial (fun r1 w2 q3 => ?_)
    rw [q3.1, q3.2]
    refine M.run 3 (pc' := 56) (lv' := [some (vr o), some (vi ((1002 + 968 * ((((a0 5).toNat) + ((a0 3).toNat)) % 30) : Nat) : Int)), some (vi 0)]) (st' := []) rfl ?_
    have Lp56 : ∀ (N : Nat) (f : Nat → Int) (ww : Wo) (A0 : Nat → Int) (xx : Nat) (k : Nat), (isM o am u f b ww) → (kp1 a0 a A0 xx L) → (1002 ≤ xx ∧ xx ≤ 29074) → (cpP A0 f xx 18 k) → (k ≤ 968) → 968 - k < N → g 0 0 ww 56 [some (vr o), some (vi ((xx : Nat) : Int)), some (vi ((k : Nat) : Int))] [] := by
      intro N
      induction N with
      | zero => intro f ww A0 xx k _ _ _ _ _ hN; exact absurd hN (Nat.not_lt_zero _)
      | succ N ih56 =>
        intro f ww A0 xx k hMf hkp hxx hcp hk hN
        refine M.run 2 (pc' := 60) (lv' := [some (vr o), some (vi ((xx : Nat) : Int)), some (vi ((k : Nat) : Int))]) (st' := [vi 968, vi ((k : Nat) : Int)]) rfl ?_
        refine M.icmp_ge (tgt := 86) rfl (qI (by omega)) (qI (by decide)) (by decide) (fun h60 => ?_) (fun h60 => ?_)
        · skip
          refine M.run 1 (pc' := 87) (lv' := [some (vr o), some (vi ((xx : Nat) : Int)), some (vi ((k : Nat) : Int))]) (st' := [vr o]) rfl ?_
          refine M.get fl_X11_7 rfl (isM_o hMf) (kf := 0) (v := vr (am 0)) rfl ?_
          refine M.run 2 (pc' := 92) (lv' := [some (vr o), some (vi ((xx : Nat) : Int)), some (vi ((k : Nat) : Int))]) (st' := [vi 3, vr (am 0), vi 3, vr (am 0)]) rfl ?_
          refine M.ialdN (3) rfl (isM_a hMf) (by decide) (by decide) ?_
          refine M.run 2 (pc' := 95) (lv' := [some (vr o), some (vi ((xx : Nat) : Int)), some (vi ((k : Nat) : Int))]) (st' := [vi ((f 3) + 1), vi 3, vr (am 0)]) rfl ?_
          refine M.iastN (3) rfl (isM_a hMf) (by decide) (by decide) ?_
          have hM6 := isM_setA hMf (uN f 3 ((f 3) + 1))
          generalize up ww (am 0) (Ar 0 30042 (uN f 3 ((f 3) + 1))) = w5 at hM6 ⊢
          exact M.vret rfl (Nat.zero_le _) (Nat.zero_le _) (by
              have hk9 : k = 968 := by omega
              subst hk9
              obtain ⟨p1, p2, p3⟩ := kp_end hd hL hR hF hg hkp hcp
              exact ⟨rfl, _, ⟨_, _, hM6, p1, fun _ _ => rfl, hB⟩, p2, p3⟩)
        · skip
          refine M.run 1 (pc' := 64) (lv' := [some (vr o), some (vi ((xx : Nat) : Int)), some (vi ((k : Nat) : Int))]) (st' := [vr o]) rfl ?_
          refine M.get fl_X11_7 rfl (isM_o hMf) (kf := 0) (v := vr (am 0)) rfl ?_
          refine M.run 4 (pc' := 71) (lv' := [some (vr o), some (vi ((xx : Nat) : Int)), some (vi ((k : Nat) : Int))]) (st' := [vr o, vi (((xx : Nat) : Int) + ((k : Nat) : Int)), vr (am 0)]) rfl ?_
          refine M.get fl_X11_7 rfl (isM_o hMf) (kf := 0) (v := vr (am 0)) rfl ?_
          refine M.run 3 (pc' := 78) (lv' := [some (vr o), some (vi ((xx : Nat) : Int)), some (vi ((k : Nat) : Int))]) (st' := [vi (18 + ((k : Nat) : Int)), vr (am 0), vi (((xx : Nat) : Int) + ((k : Nat) : Int)), vr (am 0)]) rfl ?_
          refine M.ialdN (18 + k) rfl (isM_a hMf) (by omega) (by decide) ?_
          refine M.iastN (xx + k) rfl (isM_a hMf) (by omega) (by decide) ?_
          have hM8 := isM_setA hMf (uN f (xx + k) (f (18 + k)))
          generalize up ww (am 0) (Ar 0 30042 (uN f (xx + k) (f (18 + k)))) = w7 at hM8 ⊢
          refine M.run 2 (pc' := 56) (lv' := [some (vr o), some (vi ((xx : Nat) : Int)), some (vi (((k : Nat) : Int) + 1))]) (st' := []) rfl ?_
          exact ih56 ((uN f (xx + k) (f (18 + k)))) w7 A0 xx (k + 1) hM8 hkp hxx (cpP_s hcp (by omega)) (by omega) (by omega)
    exact Lp56 _ a w a (1002 + 968 * ((((a0 5).toNat) + ((a0 3).toNat)) % 30)) 0 hM (⟨L.length, (a0 5).toNat, by omega, by omega, by omega, by rw [hF 3 (Or.inl (by decide))]; omega, by rw [hF 5 (Or.inl (by decide))]; omega, fun k k1 k2 => rfl, Or.inl ⟨by omega, rfl, by omega⟩⟩) (by omega) (cpP_0 _ _ _) (by omega) (Nat.lt_succ_self _)
  · skip
    refine M.run 1 (pc' := 12) (lv' := [some (vr o), none, none]) (st' := [vr o]) rfl ?_
    refine M.get fl_X11_7 rfl (isM_o hM) (kf := 0) (v := vr (am 0)) rfl ?_
    refine M.run 2 (pc' := 17) (lv' := [some (vr o), none, none]) (st' := [vr o, vi 5, vr (am 0)]) rfl ?_
    refine M.get fl_X11_7 rfl (isM_o hM) (kf := 0) (v := vr (am 0)) rfl ?_
    refine M.run 1 (pc' := 21) (lv' := [some (vr o), none, none]) (st' := [vi 5, vr (am 0), vi 5, vr (am 0)]) rfl ?_
    refine M.ialdN (5) rfl (isM_a hM) (by decide) (by decide) ?_
    rw [show a 5 = a0 5 from hF 5 (Or.inl (by decide))]
    refine M.run 3 (pc' := 26) (lv' := [some (vr o), none, none]) (st' := [vi 30, vi ((a0 5) + 1), vi 5, vr (am 0)]) rfl ?_
    refine M.irem rfl (qI (by omega)) (qI (by decide)) (by decide) ?_
    rw [show ((a0 5) + 1).tmod 30 = (if a0 5 = 29 then 0 else a0 5 + 1) from (by rw [tm30 (by omega) (by omega)]; split <;> split <;> omega)]
    refine M.iastN (5) rfl (isM_a hM) (by decide) (by decide) ?_
    have hM10 := isM_setA hM (uN a 5 (if a0 5 = 29 then 0 else a0 5 + 1))
    generalize up w (am 0) (Ar 0 30042 (uN a 5 (if a0 5 = 29 then 0 else a0 5 + 1))) = w9 at hM10 ⊢
    refine M.run 1 (pc' := 29) (lv' := [some (vr o), none, none]) (st' := [vr o]) rfl ?_
    refine M.get fl_X11_7 rfl (isM_o hM10) (kf := 0) (v := vr (am 0)) rfl ?_
    refine M.run 2 (pc' := 34) (lv' := [some (vr o), none, none]) (st' := [vi 3, vr (am 0), vi 3, vr (am 0)]) rfl ?_
    refine M.ialdN (3) rfl (isM_a hM10) (by decide) (by decide) ?_
    rw [show (uN a 5 (if a0 5 = 29 then 0 else a0 5 + 1)) 3 = a0 3 from (uN_o (by omega)).trans (hF 3 (Or.inl (by decide)))]
    refine M.run 2 (pc' := 37) (lv' := [some (vr o), none, none]) (st' := [vi ((a0 3) - 1), vi 3, vr (am 0)]) rfl ?_
    refine M.iastN (3) rfl (isM_a hM10) (by decide) (by decide) ?_
    have hM12 := isM_setA hM10 (uN (uN a 5 (if a0 5 = 29 then 0 else a0 5 + 1)) 3 ((a0 3) - 1))
    generalize up w9 (am 0) (Ar 0 30042 (uN (uN a 5 (if a0 5 = 29 then 0 else a0 5 + 1)) 3 ((a0 3) - 1))) = w11 at hM12 ⊢
    refine M.run 1 (pc' := 39) (lv' := [some (vr o), none, none]) (st' := [vr o]) rfl ?_
    refine M.get fl_X11_7 rfl (isM_o hM12) (kf := 0) (v := vr (am 0)) rfl ?_
    refine M.run 1 (pc' := 43) (lv' := [some (vr o), none, none]) (st' := [vi 5, vr (am 0)]) rfl ?_
    refine M.ialdN (5) rfl (isM_a hM12) (by decide) (by decide) ?_
    rw [show (uN (uN a 5 (if a0 5 = 29 then 0 else a0 5 + 1)) 3 ((a0 3) - 1)) 5 = (if a0 5 = 29 then 0 else a0 5 + 1) from (uN_o (by omega)).trans (uN_s _ _ _)]
    refine M.run 1 (pc' := 45) (lv' := [some (vr o), none, none]) (st' := [vr o, vi (if a0 5 = 29 then 0 else a0 5 + 1)]) rfl ?_
    refine M.get fl_X11_7 rfl (isM_o hM12) (kf := 0) (v := vr (am 0)) rfl ?_
    refine M.run 1 (pc' := 49) (lv' := [some (vr o), none, none]) (st' := [vi 3, vr (am 0), vi (if a0 5 = 29 then 0 else a0 5 + 1)]) rfl ?_
    refine M.ialdN (3) rfl (isM_a hM12) (by decide) (by decide) ?_
    rw [show (uN (uN a 5 (if a0 5 = 29 then 0 else a0 5 + 1)) 3 ((a0 3) - 1)) 3 = (a0 3) - 1 from uN_s _ _ _]
    rw [show (a0 3) - 1 = ((((a0 3) - 1).toNat : Nat) : Int) from (Int.toNat_of_nonneg (by omega)).symm]
    rw [show (if a0 5 = 29 then 0 else a0 5 + 1) = (((if a0 5 = 29 then 0 else a0 5 + 1).toNat : Nat) : Int) from (Int.toNat_of_nonneg (by omega)).symm]
    refine M.callS (kX11_stepAt l G ((if a0 5 = 29 then 0 else a0 5 + 1).toNat) (((a0 3) - 1).toNat) (by omega) (by omega)) cs_X11_399 cd_X11_stepAt rfl (st := []) rfl (by decide) (by decide) rfl (Nat.zero_le _) (Nat.zero_le _) trivial (fun r13 w14 q15 => ?_)
    rw [q15.1, q15.2]
    refine M.run 3 (pc' := 56) (lv' := [some (vr o), some (vi ((1002 + 968 * ((((if a0 5 = 29 then 0 else a0 5 + 1).toNat) + (((a0 3) - 1).toNat)) % 30) : Nat) : Int)), some (vi 0)]) (st' := []) rfl ?_
    have Lp56 : ∀ (N : Nat) (f : Nat → Int) (ww : Wo) (A0 : Nat → Int) (xx : Nat) (k : Nat), (isM o am u f b ww) → (kp1 a0 a A0 xx L) → (1002 ≤ xx ∧ xx ≤ 29074) → (cpP A0 f xx 18 k) → (k ≤ 968) → 968 - k < N → g 0 0 ww 56 [some (vr o), some (vi ((xx : Nat) : Int)), some (vi ((k : Nat) : Int))] [] := by
      intro N
      induction N with
      | zero => intro f ww A0 xx k _ _ _ _ _ hN; exact absurd hN (Nat.not_lt_zero _)
      | succ N ih56 =>
        intro f ww A0 xx k hMf hkp hxx hcp hk hN
        refine M.run 2 (pc' := 60) (lv' := [some (vr o), some (vi ((xx : Nat) : Int)), some (vi ((k : Nat) : Int))]) (st' := [vi 968, vi ((k : Nat) : Int)]) rfl ?_
        refine M.icmp_ge (tgt := 86) rfl (qI (by omega)) (qI (by decide)) (by decide) (fun h60 => ?_) (fun h60 => ?_)
        · skip
          refine M.run 1 (pc' := 87) (lv' := [some (vr o), some (vi ((xx : Nat) : Int)), some (vi ((k : Nat) : Int))]) (st' := [vr o]) rfl ?_
          refine M.get fl_X11_7 rfl (isM_o hMf) (kf := 0) (v := vr (am 0)) rfl ?_
          refine M.run 2 (pc' := 92) (lv' := [some (vr o), some (vi ((xx : Nat) : Int)), some (vi ((k : Nat) : Int))]) (st' := [vi 3, vr (am 0), vi 3, vr (am 0)]) rfl ?_
          refine M.ialdN (3) rfl (isM_a hMf) (by decide) (by decide) ?_
          refine M.run 2 (pc' := 95) (lv' := [some (vr o), some (vi ((xx : Nat) : Int)), some (vi ((k : Nat) : Int))]) (st' := [vi ((f 3) + 1), vi 3, vr (am 0)]) rfl ?_
          refine M.iastN (3) rfl (isM_a hMf) (by decide) (by decide) ?_
          have hM18 := isM_setA hMf (uN f 3 ((f 3) + 1))
          generalize up ww (am 0) (Ar 0 30042 (uN f 3 ((f 3) + 1))) = w17 at hM18 ⊢
          exact M.vret rfl (Nat.zero_le _) (Nat.zero_le _) (by
              have hk9 : k = 968 := by omega
              subst hk9
              obtain ⟨p1, p2, p3⟩ := kp_end hd hL hR hF hg hkp hcp
              exact ⟨rfl, _, ⟨_, _, hM18, p1, fun _ _ => rfl, hB⟩, p2, p3⟩)
        · skip
          refine M.run 1 (pc' := 64) (lv' := [some (vr o), some (vi ((xx : Nat) : Int)), some (vi ((k : Nat) : Int))]) (st' := [vr o]) rfl ?_
          refine M.get fl_X11_7 rfl (isM_o hMf) (kf := 0) (v := vr (am 0)) rfl ?_
          refine M.run 4 (pc' := 71) (lv' := [some (vr o), some (vi ((xx : Nat) : Int)), some (vi ((k : Nat) : Int))]) (st' := [vr o, vi (((xx : Nat) : Int) + ((k : Nat) : Int)), vr (am 0)]) rfl ?_
          refine M.get fl_X11_7 rfl (isM_o hMf) (kf := 0) (v := vr (am 0)) rfl ?_
          refine M.run 3 (pc' := 78) (lv' := [some (vr o), some (vi ((xx : Nat) : Int)), some (vi ((k : Nat) : Int))]) (st' := [vi (18 + ((k : Nat) : Int)), vr (am 0), vi (((xx : Nat) : Int) + ((k : Nat) : Int)), vr (am 0)]) rfl ?_
          refine M.ialdN (18 + k) rfl (isM_a hMf) (by omega) (by decide) ?_
          refine M.iastN (xx + k) rfl (isM_a hMf) (by omega) (by decide) ?_
          have hM20 := isM_setA hMf (uN f (xx + k) (f (18 + k)))
          generalize up ww (am 0) (Ar 0 30042 (uN f (xx + k) (f (18 + k)))) = w19 at hM20 ⊢
          refine M.run 2 (pc' := 56) (lv' := [some (vr o), some (vi ((xx : Nat) : Int)), some (vi (((k : Nat) : Int) + 1))]) (st' := []) rfl ?_
          exact ih56 ((uN f (xx + k) (f (18 + k)))) w19 A0 xx (k + 1) hM20 hkp hxx (cpP_s hcp (by omega)) (by omega) (by omega)
    exact Lp56 _ ((uN (uN a 5 (if a0 5 = 29 then 0 else a0 5 + 1)) 3 ((a0 3) - 1))) w11 ((uN (uN a 5 (if a0 5 = 29 then 0 else a0 5 + 1)) 3 ((a0 3) - 1))) (1002 + 968 * ((((if a0 5 = 29 then 0 else a0 5 + 1).toNat) + (((a0 3) - 1).toNat)) % 30)) 0 hM12 (⟨29, (if a0 5 = 29 then (0 : Int) else a0 5 + 1).toNat, by decide, by omega, by omega, by rw [uN_s]; omega, by rw [uN_o (by decide), uN_s]; omega, fun k k1 k2 => by rw [uN_o k1, uN_o k2], Or.inr ⟨by omega, rfl, by omega⟩⟩) (by omega) (cpP_0 _ _ _) (by omega) (Nat.lt_succ_self _)
set_option maxHeartbeats 4000000 in
set_option maxRecDepth 100000 in
theorem eX11_undo (l : Launch) (G : GT) (o : Nat) (am : Nat → Nat) (u a0 : Nat → Int) (b0 : Nat → Nat → Int) (D : Dy) (n : Int) (ht : Tok a0) (hd : Dok n D) (hn : 0 ≤ n ∧ n ≤ 900000000) (L : List Dy) (hg : Rg a0 L) (hL : Lok n L) : Ctr l G yX11_undo cX11_undo 3 ((Option.some Jvm.ClassFile.FieldType.int)) 2 0 0 [vr o] (fun w => isE o am u a0 b0 D w) (fun w r w' => (L.length = 0 ∧ r = some (vi (-1)) ∧ isE o am u a0 b0 D w') ∨ ∃ c a1, L.length = c + 1 ∧ r = some (vi ((c : Nat) : Int)) ∧ isE o am u a1 b0 (gY L c) w' ∧ TE a0 a1 ∧ Rg a1 L.dropLast) := by
  refine Ctr.of (t := tX11_undo) (lv0 := [some (vr o), none, none]) (by decide +kernel) tX11_undo_ok rfl rfl (fun w g hP M => ?_)
  obtain ⟨a, b, hM, hR, hF, hB⟩ := hP
  have hg1 := hg.1
  have hg2 := hg.2.1
  have hg3 := hg.2.2.1
  refine M.run 1 (pc' := 1) (lv' := [some (vr o), none, none]) (st' := [vr o]) rfl ?_
  refine M.get fl_X11_7 rfl (isM_o hM) (kf := 0) (v := vr (am 0)) rfl ?_
  refine M.run 1 (pc' := 5) (lv' := [some (vr o), none, none]) (st' := [vi 3, vr (am 0)]) rfl ?_
  refine M.ialdN (3) rfl (isM_a hM) (by decide) (by decide) ?_
  rw [show a 3 = a0 3 from hF 3 (Or.inl (by decide))]
  refine M.if_ne (tgt := 11) rfl (qI (by omega)) (by decide) (fun h6 => ?_) (fun h6 => ?_)
  · skip
    refine M.run 1 (pc' := 12) (lv' := [some (vr o), none, none]) (st' := [vr o]) rfl ?_
    refine M.get fl_X11_7 rfl (isM_o hM) (kf := 0) (v := vr (am 0)) rfl ?_
    refine M.run 2 (pc' := 17) (lv' := [some (vr o), none, none]) (st' := [vi 3, vr (am 0), vi 3, vr (am 0)]) rfl ?_
    refine M.ialdN (3) rfl (isM_a hM) (by decide) (by decide) ?_
    rw [show a 3 = a0 3 from hF 3 (Or.inl (by decide))]
    refine M.run 2 (pc' := 20) (lv' := [some (vr o), none, none]) (st' := [vi ((a0 3) - 1), vi 3, vr (am 0)]) rfl ?_
    obtain ⟨c, hc⟩ : ∃ c, L.length = c + 1 := ⟨L.length - 1, by omega⟩
    rw [show (a0 3) - 1 = ((c : Nat) : Int) from (by omega)]
    refine M.iastN (3) rfl (isM_a hM) (by decide) (by decide) ?_
    have hM2 := isM_setA hM (uN a 3 ((c : Nat) : Int))
    generalize up w (am 0) (Ar 0 30042 (uN a 3 ((c : Nat) : Int))) = w1 at hM2 ⊢
    refine M.run 1 (pc' := 22) (lv' := [some (vr o), none, none]) (st' := [vr o]) rfl ?_
    refine M.get fl_X11_7 rfl (isM_o hM2) (kf := 0) (v := vr (am 0)) rfl ?_
    refine M.run 1 (pc' := 26) (lv' := [some (vr o), none, none]) (st' := [vi 5, vr (am 0)]) rfl ?_
    refine M.ialdN (5) rfl (isM_a hM2) (by decide) (by decide) ?_
    rw [show (uN a 3 ((c : Nat) : Int)) 5 = a0 5 from (uN_o (by omega)).trans (hF 5 (Or.inl (by decide)))]
    refine M.run 1 (pc' := 28) (lv' := [some (vr o), none, none]) (st' := [vr o, vi (a0 5)]) rfl ?_
    refine M.get fl_X11_7 rfl (isM_o hM2) (kf := 0) (v := vr (am 0)) rfl ?_
    refine M.run 1 (pc' := 32) (lv' := [some (vr o), none, none]) (st' := [vi 3, vr (am 0), vi (a0 5)]) rfl ?_
    refine M.ialdN (3) rfl (isM_a hM2) (by decide) (by decide) ?_
    rw [show (uN a 3 ((c : Nat) : Int)) 3 = ((c : Nat) : Int) from uN_s _ _ _]
    rw [show a0 5 = (((a0 5).toNat : Nat) : Int) from (Int.toNat_of_nonneg (by omega)).symm]
    refine M.callS (kX11_stepAt l G ((a0 5).toNat) c (by omega) (by omega)) cs_X11_399 cd_X11_stepAt rfl (st := []) rfl (by decide) (by decide) rfl (Nat.zero_le _) (Nat.zero_le _) trivial (fun r3 w4 q5 => ?_)
    rw [q5.1, q5.2]
    refine M.run 3 (pc' := 39) (lv' := [some (vr o), some (vi ((1002 + 968 * ((((a0 5).toNat) + c) % 30) : Nat) : Int)), some (vi 0)]) (st' := []) rfl ?_
    have Lp39 : ∀ (N : Nat) (f : Nat → Int) (ww : Wo) (k : Nat), (isM o am u f b ww) → (cpP (uN a 3 ((c : Nat) : Int)) f 18 (1002 + 968 * (((a0 5).toNat + c) % 30)) k) → (k ≤ 968) → 968 - k < N → g 0 0 ww 39 [some (vr o), some (vi ((1002 + 968 * (((a0 5).toNat + c) % 30) : Nat) : Int)), some (vi ((k : Nat) : Int))] [] := by
      intro N
      induction N with
      | zero => intro f ww k _ _ _ hN; exact absurd hN (Nat.not_lt_zero _)
      | succ N ih39 =>
        intro f ww k hMf hcp hk hN
        refine M.run 2 (pc' := 43) (lv' := [some (vr o), some (vi ((1002 + 968 * (((a0 5).toNat + c) % 30) : Nat) : Int)), some (vi ((k : Nat) : Int))]) (st' := [vi 968, vi ((k : Nat) : Int)]) rfl ?_
        refine M.icmp_ge (tgt := 69) rfl (qI (by omega)) (qI (by decide)) (by decide) (fun h43 => ?_) (fun h43 => ?_)
        · skip
          refine M.run 1 (pc' := 70) (lv' := [some (vr o), some (vi ((1002 + 968 * (((a0 5).toNat + c) % 30) : Nat) : Int)), some (vi ((k : Nat) : Int))]) (st' := [vr o]) rfl ?_
          refine M.get fl_X11_7 rfl (isM_o hMf) (kf := 0) (v := vr (am 0)) rfl ?_
          refine M.run 1 (pc' := 74) (lv' := [some (vr o), some (vi ((1002 + 968 * (((a0 5).toNat + c) % 30) : Nat) : Int)), some (vi ((k : Nat) : Int))]) (st' := [vi 3, vr (am 0)]) rfl ?_
          refine M.ialdN (3) rfl (isM_a hMf) (by decide) (by decide) ?_
          exact M.iret rfl (Nat.zero_le _) (Nat.zero_le _) (by
              have hk9 : k = 968 := by omega
              subst hk9
              obtain ⟨p1, p2, p3⟩ := un_end (D := D) hL hF hg hc hcp
              have e3 : f 3 = ((c : Nat) : Int) := by rw [hcp 3, if_neg (by omega), uN_s]
              exact Or.inr ⟨c, f, hc, by rw [e3], ⟨_, _, hMf, p1, fun _ _ => rfl, hB⟩, p2, p3⟩)
        · skip
          refine M.run 1 (pc' := 47) (lv' := [some (vr o), some (vi ((1002 + 968 * (((a0 5).toNat + c) % 30) : Nat) : Int)), some (vi ((k : Nat) : Int))]) (st' := [vr o]) rfl ?_
          refine M.get fl_X11_7 rfl (isM_o hMf) (kf := 0) (v := vr (am 0)) rfl ?_
          refine M.run 4 (pc' := 55) (lv' := [some (vr o), some (vi ((1002 + 968 * (((a0 5).toNat + c) % 30) : Nat) : Int)), some (vi ((k : Nat) : Int))]) (st' := [vr o, vi (18 + ((k : Nat) : Int)), vr (am 0)]) rfl ?_
          refine M.get fl_X11_7 rfl (isM_o hMf) (kf := 0) (v := vr (am 0)) rfl ?_
          refine M.run 3 (pc' := 61) (lv' := [some (vr o), some (vi ((1002 + 968 * (((a0 5).toNat + c) % 30) : Nat) : Int)), some (vi ((k : Nat) : Int))]) (st' := [vi (((1002 + 968 * (((a0 5).toNat + c) % 30) : Nat) : Int) + ((k : Nat) : Int)), vr (am 0), vi (18 + ((k : Nat) : Int)), vr (am 0)]) rfl ?_
          refine M.ialdN (1002 + 968 * (((a0 5).toNat + c) % 30) + k) rfl (isM_a hMf) (by omega) (by decide) ?_
          refine M.iastN (18 + k) rfl (isM_a hMf) (by omega) (by decide) ?_
          have hM8 := isM_setA hMf (uN f (18 + k) (f (1002 + 968 * (((a0 5).toNat + c) % 30) + k)))
          generalize up ww (am 0) (Ar 0 30042 (uN f (18 + k) (f (1002 + 968 * (((a0 5).toNat + c) % 30) + k)))) = w7 at hM8 ⊢
          refine M.run 2 (pc' := 39) (lv' := [some (vr o), some (vi ((1002 + 968 * (((a0 5).toNat + c) % 30) : Nat) : Int)), some (vi (((k : Nat) : Int) + 1))]) (st' := []) rfl ?_
          exact ih39 ((uN f (18 + k) (f (1002 + 968 * (((a0 5).toNat + c) % 30) + k)))) w7 (k + 1) hM8 (cpP_s hcp (by omega)) (by omega) (by omega)
    exact Lp39 _ ((uN a 3 ((c : Nat) : Int))) w1 0 hM2 (cpP_0 _ _ _) (by omega) (Nat.lt_succ_self _)
  · skip
    refine M.run 1 (pc' := 10) (lv' := [some (vr o), none, none]) (st' := [vi (-1)]) rfl ?_
    exact M.iret rfl (Nat.zero_le _) (Nat.zero_le _) (Or.inl (And.intro (by omega) (And.intro rfl (Exists.intro a (Exists.intro b (And.intro hM (And.intro hR (And.intro hF hB))))))))
