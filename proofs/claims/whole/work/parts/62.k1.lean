/-! the class's standing: what is told, how it stands, how it was ahead of each step, in a ring -/
def aC (z i : Nat) : Nat → Nat := fun j => z + 21 + 13 * i + j
def aF (z : Nat) : Nat → Int := fun i => ((z + 21 + 13 * i : Nat) : Int)
def isRx (z t0 a0 first : Nat) (E : Nat → Dy) (c : Nat) (w : Wo) : Prop := lk w z = some (Ob 4 [vr t0, vr a0, vr (z + 20), vi ((first : Nat) : Int), vi ((c : Nat) : Int)]) ∧ lk w (z + 20) = some (Ar 4 30 (aF z)) ∧ ∀ i : Nat, i < 30 → isSt (aC z i) (E i) w
def upE (E : Nat → Dy) (k : Nat) (D : Dy) : Nat → Dy := fun i => if i = k then D else E i
theorem isS2_e {A : Nat → Nat} {sc : Nat → Int} {RL : Nat → List Rw} {w w' : Wo} (h : isS2 A sc RL w) (e : ∀ i : Nat, i < 13 → lk w' (A i) = lk w (A i)) : isS2 A sc RL w' := by
  obtain ⟨h1, h2, h3⟩ := h
  exact ⟨(e 0 (by decide)).trans h1, fun r hr => isRw_fr (h2 r hr) (e _ (by omega)) (e _ (by omega)), h3⟩
section QRX
variable {z t0 a0 first c k : Nat} {E : Nat → Dy} {D : Dy} {w w' : Wo}
theorem rx_fr (h : isRx z t0 a0 first E c w) (e : ∀ a : Nat, (a = z ∨ (z + 20 ≤ a ∧ a < z + 411)) → lk w' a = lk w a) : isRx z t0 a0 first E c w' :=
  ⟨(e z (Or.inl rfl)).trans h.1, (e _ (Or.inr ⟨by omega, by omega⟩)).trans h.2.1, fun i hi => isS2_e (h.2.2 i hi) (fun j hj => e _ (Or.inr (by unfold aC; omega)))⟩
theorem rx_step (h : isRx z t0 a0 first E c w) (hk : k < 30) (hs : isSt (aC z k) D w') (hf : FrS (aC z k) w w') : isRx z t0 a0 first (upE E k D) c w' := by
  refine ⟨(hf _ (fun i hi => by unfold aC; omega)).trans h.1, (hf _ (fun i hi => by unfold aC; omega)).trans h.2.1, fun i hi => ?_⟩
  unfold upE
  by_cases e : i = k
  · subst e
    rw [if_pos rfl]
    exact hs
  · rw [if_neg e]
    exact isS2_e (h.2.2 i hi) (fun j hj => hf _ (fun q hq => by unfold aC; omega))
theorem rx_o {f2 c2 : Nat} {fs : List AV} (h : isRx z t0 a0 first E c w) (hfs : fs = [vr t0, vr a0, vr (z + 20), vi ((f2 : Nat) : Int), vi ((c2 : Nat) : Int)]) : isRx z t0 a0 f2 E c2 (up w z (Ob 4 fs)) := by
  subst hfs
  exact ⟨lk_up_s h.1, (lk_up_n (by omega)).trans h.2.1, fun i hi => isS2_e (h.2.2 i hi) (fun j hj => lk_up_n (by unfold aC; omega))⟩
end QRX
theorem tm30N {x : Nat} : ((x : Nat) : Int).tmod 30 = ((x % 30 : Nat) : Int) := by rw [Int.tmod_eq_emod_of_nonneg (by omega)]; omega
theorem rfO_aF {z k : Nat} : rfO (aF z k) = some (aC z k 0) := rfO_n _
def FrG (z : Nat) (w w' : Wo) : Prop := ∀ a : Nat, a ≠ z → (a < z + 21 ∨ z + 411 ≤ a) → lk w' a = lk w a
theorem FrG.rf {z : Nat} {w : Wo} : FrG z w w := fun _ _ _ => rfl
theorem FrG.s {z k : Nat} {w w1 w2 : Wo} (h : FrG z w w1) (hk : k < 30) (hf : FrS (aC z k) w1 w2) : FrG z w w2 := fun a h1 h2 => (hf a (fun i hi => by unfold aC; omega)).trans (h a h1 h2)
theorem FrG.u {z : Nat} {w w1 : Wo} {c : Ce} (h : FrG z w w1) : FrG z w (up w1 z c) := fun a h1 h2 => (lk_up_n h1).trans (h a h1 h2)

/-- but the standing's own cell and now's, nothing is changed -/
def FrH (z : Nat) (N : Nat → Nat) (w w' : Wo) : Prop := ∀ a : Nat, a ≠ z → (∀ j : Nat, j < 13 → a ≠ N j) → lk w' a = lk w a
theorem FrH.rf {z : Nat} {N : Nat → Nat} {w : Wo} : FrH z N w w := fun _ _ _ => rfl
theorem FrH.s {z : Nat} {N : Nat → Nat} {w w1 w2 : Wo} (h : FrH z N w w1) (hf : FrS N w1 w2) : FrH z N w w2 := fun a h1 h2 => (hf a h2).trans (h a h1 h2)
theorem FrH.u {z : Nat} {N : Nat → Nat} {w w1 : Wo} {c : Ce} (h : FrH z N w w1) : FrH z N w (up w1 z c) := fun a h1 h2 => (lk_up_n h1).trans (h a h1 h2)

set_option maxHeartbeats 4000000 in
set_option maxRecDepth 100000 in
theorem kX5_step (l : Launch) (G : GT) (z t0 a0 first c : Nat) (E : Nat → Dy) (hf3 : first < 30) (hc3 : c ≤ 30) (i : Nat) (hi : i ≤ 30) : Ctr l G yX5_step cX5_step 3 ((Option.some (Jvm.ClassFile.FieldType.object "LongCarrier$State"))) 1 0 0 [vr z, vi ((i : Nat) : Int)] (fun w => isRx z t0 a0 first E c w) (fun w r w' => r = some (vr (aC z ((first + i) % 30) 0)) ∧ w' = w) := by
  refine Ctr.of (t := tX5_step) (lv0 := [some (vr z), some (vi ((i : Nat) : Int)), none]) (by decide +kernel) tX5_step_ok rfl rfl (fun w g hP M => ?_)
  refine M.run 1 (pc' := 1) (lv' := [some (vr z), some (vi ((i : Nat) : Int)), none]) (st' := [vr z]) rfl ?_
  refine M.get fl_X5_29 rfl hP.1 (kf := 3) (v := vi ((first : Nat) : Int)) rfl ?_
  refine M.run 3 (pc' := 8) (lv' := [some (vr z), some (vi ((i : Nat) : Int)), none]) (st' := [vi 30, vi (((first : Nat) : Int) + ((i : Nat) : Int))]) rfl ?_
  refine M.irem rfl (qI (by omega)) (qI (by decide)) (by omega) ?_
  rw [show ((first : Nat) : Int) + ((i : Nat) : Int) = ((first + i : Nat) : Int) from rfl, tm30N]
  refine M.run 2 (pc' := 11) (lv' := [some (vr z), some (vi ((i : Nat) : Int)), some (vi (((first + i) % 30 : Nat) : Int))]) (st' := [vi (((first + i) % 30 : Nat) : Int)]) rfl ?_
  refine M.if_lt (tgt := 32) rfl (qI (by omega)) (by decide) (fun h11 => ?_) (fun h11 => ?_)
  · skip
    omega
  · skip
    refine M.run 2 (pc' := 16) (lv' := [some (vr z), some (vi ((i : Nat) : Int)), some (vi (((first + i) % 30 : Nat) : Int))]) (st' := [vr z, vi (((first + i) % 30 : Nat) : Int)]) rfl ?_
    refine M.get fl_X5_25 rfl hP.1 (kf := 2) (v := vr (z + 20)) rfl ?_
    refine M.alen rfl hP.2.1 (by decide) ?_
    refine M.icmp_ge (tgt := 32) rfl (qI (by omega)) (qI (by omega)) (by decide) (fun h20 => ?_) (fun h20 => ?_)
    · skip
      omega
    · skip
      refine M.run 1 (pc' := 24) (lv' := [some (vr z), some (vi ((i : Nat) : Int)), some (vi (((first + i) % 30 : Nat) : Int))]) (st' := [vr z]) rfl ?_
      refine M.get fl_X5_25 rfl hP.1 (kf := 2) (v := vr (z + 20)) rfl ?_
      refine M.run 1 (pc' := 28) (lv' := [some (vr z), some (vi ((i : Nat) : Int)), some (vi (((first + i) % 30 : Nat) : Int))]) (st' := [vi (((first + i) % 30 : Nat) : Int), vr (z + 20)]) rfl ?_
      refine M.aaldN (C := "LongCarrier$State") ((first + i) % 30) (Or.inr ⟨rfl, rfl⟩) rfl hP.2.1 (by omega) (by decide) ?_
      rw [rfO_aF]
      refine M.run 1 (pc' := 33) (lv' := [some (vr z), some (vi ((i : Nat) : Int)), some (vi (((first + i) % 30 : Nat) : Int))]) (st' := [vr (aC z ((first + i) % 30) 0)]) rfl ?_
      exact M.aret rfl (Nat.zero_le _) (Nat.zero_le _) ⟨rfl, rfl⟩
set_option maxHeartbeats 4000000 in
set_option maxRecDepth 100000 in
theorem kX5_remember (l : Launch) (G : GT) (z t0 first c : Nat) (E : Nat → Dy) (hf3 : first < 30) (hc3 : c ≤ 30) (N : Nat → Nat) (hN : ∀ j : Nat, j < 13 → N j ≠ z ∧ (N j < z + 20 ∨ z + 411 ≤ N j)) (D : Dy)  : Ctr l G yX5_remember cX5_remember 2 ((Option.none : Option Jvm.ClassFile.FieldType)) 3 0 0 [vr z] (fun w => isRx z t0 (N 0) first E c w ∧ isSt N D w) (fun w r w' => r = none ∧ isRx z t0 (N 0) (if c = 30 then (first + 1) % 30 else first) (upE E ((first + c) % 30) D) (if c = 30 then 30 else c + 1) w' ∧ isSt N D w' ∧ FrG z w w') := by
  refine Ctr.of (t := tX5_remember) (lv0 := [some (vr z), none]) (by decide +kernel) tX5_remember_ok rfl rfl (fun w g hP M => ?_)
  refine M.run 2 (pc' := 2) (lv' := [some (vr z), none]) (st' := [vr z, vr z]) rfl ?_
  refine M.get fl_X5_33 rfl hP.1.1 (kf := 4) (v := vi ((c : Nat) : Int)) rfl ?_
  refine M.callV (kX5_step l G z t0 (N 0) first c E (by omega) (by omega) c (by omega)) cv_X5_36 cd_X5_step rfl (st := []) rfl hP.1.1 (by decide) (by decide) rfl (Nat.zero_le _) (Nat.zero_le _) hP.1 (fun r1 w2 q3 => ?_)
  rw [q3.1, q3.2]
  refine M.run 2 (pc' := 10) (lv' := [some (vr z), some (vr (aC z ((first + c) % 30) 0))]) (st' := [vr (aC z ((first + c) % 30) 0)]) rfl ?_
  refine M.ifnonnullR (tgt := 14) rfl (by decide) ?_
  refine M.run 2 (pc' := 16) (lv' := [some (vr z), some (vr (aC z ((first + c) % 30) 0))]) (st' := [vr z, vr (aC z ((first + c) % 30) 0)]) rfl ?_
  refine M.get fl_X5_21 rfl hP.1.1 (kf := 1) (v := vr (N 0)) rfl ?_
  refine M.callV (kX6_copyFrom l G (aC z ((first + c) % 30)) N (E ((first + c) % 30)).1 D.1 (LR (E ((first + c) % 30))) (LR D) (fun i j hi hj => by have := hN j hj; unfold aC; omega)) cv_X5_40 cd_X6_copyFrom rfl (st := []) rfl ((hP.1.2.2 _ (by omega)).1) (by decide) (by decide) rfl (Nat.zero_le _) (Nat.zero_le _) ⟨hP.1.2.2 _ (by omega), hP.2⟩ (fun r6 w7 q8 => ?_)
  obtain ⟨q8r, q8s, q8f⟩ := q8
  rw [q8r]
  have hR5 : isRx z t0 (N 0) first (upE E ((first + c) % 30) D) c w7 := rx_step hP.1 (by omega) q8s q8f
  have hF5 := FrG.s FrG.rf (show ((first + c) % 30) < 30 by omega) q8f
  have hN5 : isSt N D w7 := isS2_e hP.2 (fun j hj => q8f _ (fun q hq => by have := hN j hj; unfold aC; omega))
  refine M.run 1 (pc' := 23) (lv' := [some (vr z), some (vr (aC z ((first + c) % 30) 0))]) (st' := [vr z]) rfl ?_
  refine M.get fl_X5_33 rfl hR5.1 (kf := 4) (v := vi ((c : Nat) : Int)) rfl ?_
  refine M.run 1 (pc' := 28) (lv' := [some (vr z), some (vr (aC z ((first + c) % 30) 0))]) (st' := [vi 30, vi ((c : Nat) : Int)]) rfl ?_
  refine M.icmp_ge (tgt := 44) rfl (qI (by omega)) (qI (by decide)) (by decide) (fun h28 => ?_) (fun h28 => ?_)
  · skip
    refine M.run 2 (pc' := 46) (lv' := [some (vr z), some (vr (aC z ((first + c) % 30) 0))]) (st' := [vr z, vr z]) rfl ?_
    refine M.get fl_X5_29 rfl hR5.1 (kf := 3) (v := vi ((first : Nat) : Int)) rfl ?_
    refine M.run 3 (pc' := 53) (lv' := [some (vr z), some (vr (aC z ((first + c) % 30) 0))]) (st' := [vi 30, vi (((first : Nat) : Int) + 1), vr z]) rfl ?_
    refine M.irem rfl (qI (by omega)) (qI (by decide)) (by omega) ?_
    rw [show ((first : Nat) : Int) + 1 = ((first + 1 : Nat) : Int) from rfl, tm30N]
    refine M.put fl_X5_29 rfl (hR5.1) rfl rfl (Nat.le_of_ble_eq_true rfl) ?_
    have hR10 : isRx z t0 (N 0) ((first + 1) % 30) (upE E ((first + c) % 30) D) c (up w7 z (Ob 4 ([vr t0, vr (N 0), vr (z + 20), vi ((first : Nat) : Int), vi ((c : Nat) : Int)].set 3 (vi (((first + 1) % 30 : Nat) : Int))))) := rx_o hR5 rfl
    have hF10 := (hF5).u (c := Ob 4 ([vr t0, vr (N 0), vr (z + 20), vi ((first : Nat) : Int), vi ((c : Nat) : Int)].set 3 (vi (((first + 1) % 30 : Nat) : Int))))
    have hN10 : isSt N D (up w7 z (Ob 4 ([vr t0, vr (N 0), vr (z + 20), vi ((first : Nat) : Int), vi ((c : Nat) : Int)].set 3 (vi (((first + 1) % 30 : Nat) : Int))))) := isS2_e hN5 (fun j hj => lk_up_n (by have := hN j hj; omega))
    generalize up w7 z (Ob 4 ([vr t0, vr (N 0), vr (z + 20), vi ((first : Nat) : Int), vi ((c : Nat) : Int)].set 3 (vi (((first + 1) % 30 : Nat) : Int)))) = w10 at hR10 hF10 hN10 ⊢
    have hc30 : c = 30 := by omega
    exact M.vret rfl (Nat.zero_le _) (Nat.zero_le _) ⟨rfl, (by rw [hc30] at hR10 ⊢; rw [if_pos rfl, if_pos rfl]; exact hR10), hN10, hF10⟩
  · skip
    refine M.run 2 (pc' := 33) (lv' := [some (vr z), some (vr (aC z ((first + c) % 30) 0))]) (st' := [vr z, vr z]) rfl ?_
    refine M.get fl_X5_33 rfl hR5.1 (kf := 4) (v := vi ((c : Nat) : Int)) rfl ?_
    refine M.run 2 (pc' := 38) (lv' := [some (vr z), some (vr (aC z ((first + c) % 30) 0))]) (st' := [vi (((c : Nat) : Int) + 1), vr z]) rfl ?_
    rw [show ((c : Nat) : Int) + 1 = ((c + 1 : Nat) : Int) from rfl]
    refine M.put fl_X5_33 rfl (hR5.1) rfl rfl (Nat.le_of_ble_eq_true rfl) ?_
    have hR11 : isRx z t0 (N 0) first (upE E ((first + c) % 30) D) (c + 1) (up w7 z (Ob 4 ([vr t0, vr (N 0), vr (z + 20), vi ((first : Nat) : Int), vi ((c : Nat) : Int)].set 4 (vi ((c + 1 : Nat) : Int))))) := rx_o hR5 rfl
    have hF11 := (hF5).u (c := Ob 4 ([vr t0, vr (N 0), vr (z + 20), vi ((first : Nat) : Int), vi ((c : Nat) : Int)].set 4 (vi ((c + 1 : Nat) : Int))))
    have hN11 : isSt N D (up w7 z (Ob 4 ([vr t0, vr (N 0), vr (z + 20), vi ((first : Nat) : Int), vi ((c : Nat) : Int)].set 4 (vi ((c + 1 : Nat) : Int))))) := isS2_e hN5 (fun j hj => lk_up_n (by have := hN j hj; omega))
    generalize up w7 z (Ob 4 ([vr t0, vr (N 0), vr (z + 20), vi ((first : Nat) : Int), vi ((c : Nat) : Int)].set 4 (vi ((c + 1 : Nat) : Int)))) = w11 at hR11 hF11 hN11 ⊢
    refine M.run 1 (pc' := 57) (lv' := [some (vr z), some (vr (aC z ((first + c) % 30) 0))]) (st' := []) rfl ?_
    exact M.vret rfl (Nat.zero_le _) (Nat.zero_le _) ⟨rfl, (by rw [if_neg (by omega), if_neg (by omega)]; exact hR11), hN11, hF11⟩
set_option maxHeartbeats 4000000 in
set_option maxRecDepth 100000 in
theorem kX5_takeBack (l : Launch) (G : GT) (z t0 first c : Nat) (E : Nat → Dy) (hf3 : first < 30) (hc3 : c ≤ 30) (N : Nat → Nat) (hN : ∀ j : Nat, j < 13 → N j ≠ z ∧ (N j < z + 20 ∨ z + 411 ≤ N j)) (D : Dy)  : Ctr l G yX5_takeBack cX5_takeBack 2 ((Option.some Jvm.ClassFile.FieldType.int)) 3 0 0 [vr z] (fun w => isRx z t0 (N 0) first E c w ∧ isSt N D w) (fun w r w' => (c = 0 → r = some (vi (-1)) ∧ w' = w) ∧ ∀ k : Nat, c = k + 1 → r = some (vi ((k : Nat) : Int)) ∧ isRx z t0 (N 0) first E k w' ∧ isSt N (E ((first + k) % 30)) w' ∧ FrH z N w w') := by
  refine Ctr.of (t := tX5_takeBack) (lv0 := [some (vr z), none]) (by decide +kernel) tX5_takeBack_ok rfl rfl (fun w g hP M => ?_)
  refine M.run 1 (pc' := 1) (lv' := [some (vr z), none]) (st' := [vr z]) rfl ?_
  refine M.get fl_X5_33 rfl hP.1.1 (kf := 4) (v := vi ((c : Nat) : Int)) rfl ?_
  refine M.if_gt (tgt := 9) rfl (qI (by omega)) (by decide) (fun h4 => ?_) (fun h4 => ?_)
  · skip
    refine M.run 2 (pc' := 11) (lv' := [some (vr z), none]) (st' := [vr z, vr z]) rfl ?_
    refine M.get fl_X5_33 rfl hP.1.1 (kf := 4) (v := vi ((c : Nat) : Int)) rfl ?_
    refine M.run 2 (pc' := 16) (lv' := [some (vr z), none]) (st' := [vi (((c : Nat) : Int) - 1), vr z]) rfl ?_
    rw [show ((c : Nat) : Int) - 1 = ((c - 1 : Nat) : Int) from by omega]
    refine M.callV (kX5_step l G z t0 (N 0) first c E (by omega) (by omega) (c - 1) (by omega)) cv_X5_36 cd_X5_step rfl (st := []) rfl hP.1.1 (by decide) (by decide) rfl (Nat.zero_le _) (Nat.zero_le _) hP.1 (fun r1 w2 q3 => ?_)
    rw [q3.1, q3.2]
    refine M.run 2 (pc' := 21) (lv' := [some (vr z), some (vr (aC z ((first + (c - 1)) % 30) 0))]) (st' := [vr (aC z ((first + (c - 1)) % 30) 0)]) rfl ?_
    refine M.ifnonnullR (tgt := 26) rfl (by decide) ?_
    refine M.run 1 (pc' := 27) (lv' := [some (vr z), some (vr (aC z ((first + (c - 1)) % 30) 0))]) (st' := [vr z]) rfl ?_
    refine M.get fl_X5_21 rfl hP.1.1 (kf := 1) (v := vr (N 0)) rfl ?_
    refine M.run 1 (pc' := 31) (lv' := [some (vr z), some (vr (aC z ((first + (c - 1)) % 30) 0))]) (st' := [vr (aC z ((first + (c - 1)) % 30) 0), vr (N 0)]) rfl ?_
    refine M.callV (kX6_copyFrom l G N (aC z ((first + (c - 1)) % 30)) D.1 (E ((first + (c - 1)) % 30)).1 (LR D) (LR (E ((first + (c - 1)) % 30))) (fun i j hi hj => by have := hN i hi; unfold aC; omega)) cv_X5_40 cd_X6_copyFrom rfl (st := []) rfl (hP.2.1) (by decide) (by decide) rfl (Nat.zero_le _) (Nat.zero_le _) ⟨hP.2, hP.1.2.2 _ (by omega)⟩ (fun r6 w7 q8 => ?_)
    obtain ⟨q8r, q8s, q8f⟩ := q8
    rw [q8r]
    have hN5 : isSt N (E ((first + (c - 1)) % 30)) w7 := q8s
    have hR5 : isRx z t0 (N 0) first E c w7 := rx_fr hP.1 (fun a ha => q8f _ (fun j hj => by have := hN j hj; omega))
    have hF5 := FrH.s (FrH.rf (z := z) (N := N) (w := w)) q8f
    refine M.run 2 (pc' := 36) (lv' := [some (vr z), some (vr (aC z ((first + (c - 1)) % 30) 0))]) (st' := [vr z, vr z]) rfl ?_
    refine M.get fl_X5_33 rfl hR5.1 (kf := 4) (v := vi ((c : Nat) : Int)) rfl ?_
    refine M.run 2 (pc' := 41) (lv' := [some (vr z), some (vr (aC z ((first + (c - 1)) % 30) 0))]) (st' := [vi (((c : Nat) : Int) - 1), vr z]) rfl ?_
    rw [show ((c : Nat) : Int) - 1 = ((c - 1 : Nat) : Int) from by omega]
    refine M.put fl_X5_33 rfl (hR5.1) rfl rfl (Nat.le_of_ble_eq_true rfl) ?_
    have hR10 : isRx z t0 (N 0) first E (c - 1) (up w7 z (Ob 4 ([vr t0, vr (N 0), vr (z + 20), vi ((first : Nat) : Int), vi ((c : Nat) : Int)].set 4 (vi ((c - 1 : Nat) : Int))))) := rx_o hR5 rfl
    have hF10 := (hF5).u (c := Ob 4 ([vr t0, vr (N 0), vr (z + 20), vi ((first : Nat) : Int), vi ((c : Nat) : Int)].set 4 (vi ((c - 1 : Nat) : Int))))
    have hN10 : isSt N (E ((first + (c - 1)) % 30)) (up w7 z (Ob 4 ([vr t0, vr (N 0), vr (z + 20), vi ((first : Nat) : Int), vi ((c : Nat) : Int)].set 4 (vi ((c - 1 : Nat) : Int))))) := isS2_e hN5 (fun j hj => lk_up_n (by have := hN j hj; omega))
    generalize up w7 z (Ob 4 ([vr t0, vr (N 0), vr (z + 20), vi ((first : Nat) : Int), vi ((c : Nat) : Int)].set 4 (vi ((c - 1 : Nat) : Int)))) = w10 at hR10 hF10 hN10 ⊢
    refine M.run 1 (pc' := 45) (lv' := [some (vr z), some (vr (aC z ((first + (c - 1)) % 30) 0))]) (st' := [vr z]) rfl ?_
    refine M.get fl_X5_33 rfl hR10.1 (kf := 4) (v := vi (((c - 1) : Nat) : Int)) rfl ?_
    exact M.iret rfl (Nat.zero_le _) (Nat.zero_le _) ⟨fun hc => by exfalso; omega, fun k hk => (show c - 1 = k by omega) ▸ ⟨rfl, hR10, hN10, hF10⟩⟩
  · skip
    refine M.run 1 (pc' := 8) (lv' := [some (vr z), none]) (st' := [vi (-1)]) rfl ?_
    exact M.iret rfl (Nat.zero_le _) (Nat.zero_le _) ⟨fun _ => ⟨rfl, rfl⟩, fun k hk => by exfalso; omega⟩
