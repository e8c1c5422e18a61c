def tz (z : Nat) : Nat → Nat := fun j => z + 1 + j
def nz (z : Nat) : Nat → Nat := fun i => z + 7 + i
/-- but a standing's cells, nothing is changed -/
def FrW (z : Nat) (w w' : Wo) : Prop := ∀ a : Nat, (a < z ∨ z + 411 ≤ a) → lk w' a = lk w a
theorem FrW.rf {z : Nat} {w : Wo} : FrW z w w := fun _ _ => rfl
theorem FrW.t {z : Nat} {w w1 w2 : Wo} (h : FrW z w w1) (hf : FrT (tz z) w1 w2) : FrW z w w2 := fun a ha => (hf a (fun i hi => by unfold tz; omega)).trans (h a ha)
theorem FrW.n {z : Nat} {w w1 w2 : Wo} (h : FrW z w w1) (hf : FrS (nz z) w1 w2) : FrW z w w2 := fun a ha => (hf a (fun i hi => by unfold nz; omega)).trans (h a ha)
theorem FrW.s {z k : Nat} {w w1 w2 : Wo} (h : FrW z w w1) (hk : k < 30) (hf : FrS (aC z k) w1 w2) : FrW z w w2 := fun a ha => (hf a (fun i hi => by unfold aC; omega)).trans (h a ha)
theorem FrW.u {z : Nat} {w w1 : Wo} {c : Ce} (h : FrW z w w1) : FrW z w (up w1 z c) := fun a ha => (lk_up_n (by omega)).trans (h a ha)
theorem upE_in {E3 E2 : Nat → Dy} {f2 i : Nat} (hE : ∀ j : Nat, j < i → E3 j = E2 ((f2 + j) % 30)) (hi : i < 30) : ∀ j : Nat, j < i + 1 → upE E3 ((0 + i) % 30) (E2 ((f2 + i) % 30)) j = E2 ((f2 + j) % 30) := fun j hj => by
  unfold upE
  rw [show (0 + i) % 30 = i by omega]
  by_cases e : j = i
  · rw [if_pos e, e]
  · rw [if_neg e]; exact hE j (by omega)

set_option maxHeartbeats 4000000 in
set_option maxRecDepth 100000 in
theorem kX5_copyFrom (l : Launch) (G : GT) (z y : Nat) (hzy : z + 411 ≤ y ∨ y + 411 ≤ z) (f c f2 c2 : Nat) (E E2 : Nat → Dy) (hf3 : f < 30 ∧ f2 < 30) (hc3 : c ≤ 30 ∧ c2 ≤ 30) (tl t2 fx gx : Nat → Int) (D D2 : Dy)  : Ctr l G yX5_copyFrom cX5_copyFrom 5 ((Option.none : Option Jvm.ClassFile.FieldType)) 3 0 0 [vr z, vr y] (fun w => isRx z (tz z 0) (nz z 0) f E c w ∧ isTo (tz z) tl fx w ∧ isSt (nz z) D w ∧ isRx y (tz y 0) (nz y 0) f2 E2 c2 w ∧ isTo (tz y) t2 gx w ∧ isSt (nz y) D2 w ∧ ∀ j : Nat, j < 4 → 0 ≤ gx j → ∃ zf, lk w (gx j).toNat = some (Ob 6 zf)) (fun w r w' => r = none ∧ (∃ E3, isRx z (tz z 0) (nz z 0) 0 E3 c2 w' ∧ ∀ j : Nat, j < c2 → E3 j = E2 ((f2 + j) % 30)) ∧ (∃ hh, (∀ j : Nat, j < 4 → hh j = gx j) ∧ isTo (tz z) t2 hh w') ∧ isSt (nz z) D2 w' ∧ FrW z w w') := by
  refine Ctr.of (t := tX5_copyFrom) (lv0 := [some (vr z), some (vr y), none, none, none]) (by decide +kernel) tX5_copyFrom_ok rfl rfl (fun w g hP M => ?_)
  have hZ := hP.1
  have hT0 := hP.2.1
  have hN := hP.2.2.1
  have hY := hP.2.2.2.1
  have hS0 := hP.2.2.2.2.1
  have hM := hP.2.2.2.2.2.1
  have hf1 := hf3.1
  have hf2 := hf3.2
  have hc1 := hc3.1
  have hc2 := hc3.2
  refine M.run 1 (pc' := 1) (lv' := [some (vr z), some (vr y), none, none, none]) (st' := [vr z]) rfl ?_
  refine M.get fl_X5_12 rfl hZ.1 (kf := 0) (v := vr (tz z 0)) rfl ?_
  refine M.run 1 (pc' := 5) (lv' := [some (vr z), some (vr y), none, none, none]) (st' := [vr y, vr (tz z 0)]) rfl ?_
  refine M.get fl_X5_12 rfl hY.1 (kf := 0) (v := vr (tz y 0)) rfl ?_
  refine M.callV (kX9_copyFrom l G (tz z) (tz y) tl t2 fx gx (fun i j hi hj => by unfold tz; omega)) cv_X5_44 cd_X9_copyFrom rfl (st := []) rfl hT0.1 (by decide) (by decide) rfl (Nat.zero_le _) (Nat.zero_le _) ⟨hT0, hS0, hP.2.2.2.2.2.2⟩ (fun r1 w2 q3 => ?_)
  obtain ⟨q3r, ⟨hh, hh4, hT1⟩, q3f⟩ := q3
  rw [q3r]
  have hF1 := FrW.t (FrW.rf (z := z) (w := w)) q3f
  have hN1 : isSt (nz z) D w2 := isS2_e hN (fun j hj => q3f _ (fun q hq => by unfold tz nz; omega))
  have hZ1 : isRx z (tz z 0) (nz z 0) f E c w2 := rx_fr hZ (fun a ha => q3f _ (fun q hq => by unfold tz; omega))
  have hY1 : isRx y (tz y 0) (nz y 0) f2 E2 c2 w2 := rx_fr hY (fun a ha => hF1 a (by omega))
  have hM1 : isSt (nz y) D2 w2 := isS2_e hM (fun j hj => hF1 _ (by unfold nz; omega))
  refine M.run 1 (pc' := 12) (lv' := [some (vr z), some (vr y), none, none, none]) (st' := [vr z]) rfl ?_
  refine M.get fl_X5_21 rfl hZ1.1 (kf := 1) (v := vr (nz z 0)) rfl ?_
  refine M.run 1 (pc' := 16) (lv' := [some (vr z), some (vr y), none, none, none]) (st' := [vr y, vr (nz z 0)]) rfl ?_
  refine M.get fl_X5_21 rfl hY1.1 (kf := 1) (v := vr (nz y 0)) rfl ?_
  refine M.callV (kX6_copyFrom l G (nz z) (nz y) D.1 D2.1 (LR D) (LR D2) (fun i j hi hj => by unfold nz; omega)) cv_X5_40 cd_X6_copyFrom rfl (st := []) rfl (hN1.1) (by decide) (by decide) rfl (Nat.zero_le _) (Nat.zero_le _) ⟨hN1, hM1⟩ (fun r5 w6 q7 => ?_)
  obtain ⟨q7r, hN2, q7f⟩ := q7
  rw [q7r]
  have hF2 := FrW.n hF1 q7f
  have hT2 : isTo (tz z) t2 hh w6 := isTo_fr hT1 (fun j hj => q7f _ (fun q hq => by unfold tz nz; omega))
  have hZ2 : isRx z (tz z 0) (nz z 0) f E c w6 := rx_fr hZ1 (fun a ha => q7f _ (fun q hq => by unfold nz; omega))
  have hY2 : isRx y (tz y 0) (nz y 0) f2 E2 c2 w6 := rx_fr hY (fun a ha => hF2 a (by omega))
  refine M.run 2 (pc' := 24) (lv' := [some (vr z), some (vr y), none, none, none]) (st' := [vi 0, vr z]) rfl ?_
  refine M.put fl_X5_29 rfl (hZ2.1) rfl rfl (Nat.le_of_ble_eq_true rfl) ?_
  have hR9 : isRx z (tz z 0) (nz z 0) 0 E c (up w6 z (Ob 4 ([vr (tz z 0), vr (nz z 0), vr (z + 20), vi ((f : Nat) : Int), vi ((c : Nat) : Int)].set 3 (vi 0)))) := rx_o hZ2 rfl
  have hF9 := (hF2).u (c := Ob 4 ([vr (tz z 0), vr (nz z 0), vr (z + 20), vi ((f : Nat) : Int), vi ((c : Nat) : Int)].set 3 (vi 0)))
  have hT9 : isTo (tz z) t2 hh (up w6 z (Ob 4 ([vr (tz z 0), vr (nz z 0), vr (z + 20), vi ((f : Nat) : Int), vi ((c : Nat) : Int)].set 3 (vi 0)))) := isTo_fr hT2 (fun j hj => lk_up_n (by unfold tz; omega))
  have hN9 : isSt (nz z) D2 (up w6 z (Ob 4 ([vr (tz z 0), vr (nz z 0), vr (z + 20), vi ((f : Nat) : Int), vi ((c : Nat) : Int)].set 3 (vi 0)))) := isS2_e hN2 (fun j hj => lk_up_n (by unfold nz; omega))
  have hY9 : isRx y (tz y 0) (nz y 0) f2 E2 c2 (up w6 z (Ob 4 ([vr (tz z 0), vr (nz z 0), vr (z + 20), vi ((f : Nat) : Int), vi ((c : Nat) : Int)].set 3 (vi 0)))) := rx_fr hY2 (fun a ha => lk_up_n (by omega))
  generalize up w6 z (Ob 4 ([vr (tz z 0), vr (nz z 0), vr (z + 20), vi ((f : Nat) : Int), vi ((c : Nat) : Int)].set 3 (vi 0))) = w9 at hR9 hF9 hT9 hN9 hY9 ⊢
  refine M.run 2 (pc' := 29) (lv' := [some (vr z), some (vr y), none, none, none]) (st' := [vr y, vr z]) rfl ?_
  refine M.get fl_X5_33 rfl hY9.1 (kf := 4) (v := vi ((c2 : Nat) : Int)) rfl ?_
  refine M.put fl_X5_33 rfl (hR9.1) rfl rfl (Nat.le_of_ble_eq_true rfl) ?_
  have hR10 : isRx z (tz z 0) (nz z 0) 0 E c2 (up w9 z (Ob 4 ([vr (tz z 0), vr (nz z 0), vr (z + 20), vi ((0 : Nat) : Int), vi ((c : Nat) : Int)].set 4 (vi ((c2 : Nat) : Int))))) := rx_o hR9 rfl
  have hF10 := (hF9).u (c := Ob 4 ([vr (tz z 0), vr (nz z 0), vr (z + 20), vi ((0 : Nat) : Int), vi ((c : Nat) : Int)].set 4 (vi ((c2 : Nat) : Int))))
  have hT10 : isTo (tz z) t2 hh (up w9 z (Ob 4 ([vr (tz z 0), vr (nz z 0), vr (z + 20), vi ((0 : Nat) : Int), vi ((c : Nat) : Int)].set 4 (vi ((c2 : Nat) : Int))))) := isTo_fr hT9 (fun j hj => lk_up_n (by unfold tz; omega))
  have hN10 : isSt (nz z) D2 (up w9 z (Ob 4 ([vr (tz z 0), vr (nz z 0), vr (z + 20), vi ((0 : Nat) : Int), vi ((c : Nat) : Int)].set 4 (vi ((c2 : Nat) : Int))))) := isS2_e hN9 (fun j hj => lk_up_n (by unfold nz; omega))
  have hY10 : isRx y (tz y 0) (nz y 0) f2 E2 c2 (up w9 z (Ob 4 ([vr (tz z 0), vr (nz z 0), vr (z + 20), vi ((0 : Nat) : Int), vi ((c : Nat) : Int)].set 4 (vi ((c2 : Nat) : Int))))) := rx_fr hY9 (fun a ha => lk_up_n (by omega))
  generalize up w9 z (Ob 4 ([vr (tz z 0), vr (nz z 0), vr (z + 20), vi ((0 : Nat) : Int), vi ((c : Nat) : Int)].set 4 (vi ((c2 : Nat) : Int)))) = w10 at hR10 hF10 hT10 hN10 hY10 ⊢
  refine M.run 2 (pc' := 37) (lv' := [some (vr z), some (vr y), some (vi 0), none, none]) (st' := []) rfl ?_
  have Lp37 : ∀ (N : Nat) (i : Nat) (E3 : Nat → Dy) (wv : Wo), (isRx z (tz z 0) (nz z 0) 0 E3 c2 wv) → (isTo (tz z) t2 hh wv) → (isSt (nz z) D2 wv) → (FrW z w wv) → (i ≤ c2) → (∀ j : Nat, j < i → E3 j = E2 ((f2 + j) % 30)) → c2 - i < N → g 0 0 wv 37 [some (vr z), some (vr y), some (vi ((i : Nat) : Int)), none, none] [] := by
    intro N
    induction N with
    | zero => intro i E3 wv _ _ _ _ _ _ hN; exact absurd hN (Nat.not_lt_zero _)
    | succ N ih37 =>
      intro i E3 wv hRv hTv hNv hFv hi hE hN
      refine M.run 2 (pc' := 39) (lv' := [some (vr z), some (vr y), some (vi ((i : Nat) : Int)), none, none]) (st' := [vr z, vi ((i : Nat) : Int)]) rfl ?_
      refine M.get fl_X5_33 rfl hRv.1 (kf := 4) (v := vi ((c2 : Nat) : Int)) rfl ?_
      refine M.icmp_ge (tgt := 79) rfl (qI (by omega)) (qI (by omega)) (by decide) (fun h42 => ?_) (fun h42 => ?_)
      · skip
        exact M.vret rfl (Nat.zero_le _) (Nat.zero_le _) ⟨rfl, ⟨E3, hRv, fun j hj => hE j (by omega)⟩, ⟨hh, hh4, hTv⟩, hNv, hFv⟩
      · skip
        refine M.run 2 (pc' := 47) (lv' := [some (vr z), some (vr y), some (vi ((i : Nat) : Int)), none, none]) (st' := [vi ((i : Nat) : Int), vr z]) rfl ?_
        refine M.callV (kX5_step l G z (tz z 0) (nz z 0) 0 c2 E3 (by omega) (by omega) i (by omega)) cv_X5_36 cd_X5_step rfl (st := []) rfl hRv.1 (by decide) (by decide) rfl (Nat.zero_le _) (Nat.zero_le _) hRv (fun r11 w12 q13 => ?_)
        rw [q13.1, q13.2]
        refine M.run 3 (pc' := 53) (lv' := [some (vr z), some (vr y), some (vi ((i : Nat) : Int)), some (vr (aC z ((0 + i) % 30) 0)), none]) (st' := [vi ((i : Nat) : Int), vr y]) rfl ?_
        refine M.callV (kX5_step l G y (tz y 0) (nz y 0) f2 c2 E2 (by omega) (by omega) i (by omega)) cv_X5_36 cd_X5_step rfl (st := []) rfl (rx_fr hY (fun a ha => hFv a (by omega))).1 (by decide) (by decide) rfl (Nat.zero_le _) (Nat.zero_le _) (rx_fr hY (fun a ha => hFv a (by omega))) (fun r15 w16 q17 => ?_)
        rw [q17.1, q17.2]
        refine M.run 2 (pc' := 59) (lv' := [some (vr z), some (vr y), some (vi ((i : Nat) : Int)), some (vr (aC z ((0 + i) % 30) 0)), some (vr (aC y ((f2 + i) % 30) 0))]) (st' := [vr (aC z ((0 + i) % 30) 0)]) rfl ?_
        refine M.ifnullR rfl ?_
        refine M.run 1 (pc' := 64) (lv' := [some (vr z), some (vr y), some (vi ((i : Nat) : Int)), some (vr (aC z ((0 + i) % 30) 0)), some (vr (aC y ((f2 + i) % 30) 0))]) (st' := [vr (aC y ((f2 + i) % 30) 0)]) rfl ?_
        refine M.ifnullR rfl ?_
        refine M.run 2 (pc' := 70) (lv' := [some (vr z), some (vr y), some (vi ((i : Nat) : Int)), some (vr (aC z ((0 + i) % 30) 0)), some (vr (aC y ((f2 + i) % 30) 0))]) (st' := [vr (aC y ((f2 + i) % 30) 0), vr (aC z ((0 + i) % 30) 0)]) rfl ?_
        refine M.callV (kX6_copyFrom l G (aC z ((0 + i) % 30)) (aC y ((f2 + i) % 30)) (E3 ((0 + i) % 30)).1 (E2 ((f2 + i) % 30)).1 (LR (E3 ((0 + i) % 30))) (LR (E2 ((f2 + i) % 30))) (fun i j hi hj => by unfold aC; omega)) cv_X5_40 cd_X6_copyFrom rfl (st := []) rfl ((hRv.2.2 _ (by omega)).1) (by decide) (by decide) rfl (Nat.zero_le _) (Nat.zero_le _) ⟨hRv.2.2 _ (by omega), (rx_fr hY (fun a ha => hFv a (by omega))).2.2 _ (by omega)⟩ (fun r20 w21 q22 => ?_)
        obtain ⟨q22r, q22s, q22f⟩ := q22
        rw [q22r]
        have hR19 : isRx z (tz z 0) (nz z 0) 0 (upE E3 ((0 + i) % 30) (E2 ((f2 + i) % 30))) c2 w21 := rx_step hRv (by omega) q22s q22f
        have hT19 : isTo (tz z) t2 hh w21 := isTo_fr hTv (fun j hj => q22f _ (fun q hq => by unfold tz aC; omega))
        have hN19 : isSt (nz z) D2 w21 := isS2_e hNv (fun j hj => q22f _ (fun q hq => by unfold nz aC; omega))
        have hF19 := FrW.s hFv (show ((0 + i) % 30) < 30 by omega) q22f
        refine M.run 2 (pc' := 37) (lv' := [some (vr z), some (vr y), some (vi (((i : Nat) : Int) + 1)), some (vr (aC z ((0 + i) % 30) 0)), some (vr (aC y ((f2 + i) % 30) 0))]) (st' := []) rfl ?_
        refine M.fgt [false, false, false, true, true] ?_
        exact ih37 (i + 1) (upE E3 ((0 + i) % 30) (E2 ((f2 + i) % 30))) w21 hR19 hT19 hN19 hF19 (by omega) (fun j hj => upE_in hE (by omega) j hj) (by omega)
  exact Lp37 _ 0 E w10 hR10 hT10 hN10 hF10 (Nat.zero_le _) (fun j hj => absurd hj (Nat.not_lt_zero _)) (Nat.lt_succ_self _)
