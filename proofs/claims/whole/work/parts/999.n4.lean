/-! constructors: the standing -/
theorem isTo_e {T : Nat → Nat} {tl fx : Nat → Int} {w w' : Wo} (h : isTo T tl fx w) (e : ∀ j : Nat, j < 6 → lk w' (T j) = lk w (T j)) : isTo T tl fx w' := by
  obtain ⟨h1, ⟨f2, h2, h2b⟩, ⟨f3, h3, h3b⟩, h4, ⟨f5, h5, h5b⟩, ⟨f6, h6, h6b⟩, h7⟩ := h
  exact ⟨(e 0 (by decide)).trans h1, ⟨f2, (e 1 (by decide)).trans h2, h2b⟩, ⟨f3, (e 2 (by decide)).trans h3, h3b⟩, (e 3 (by decide)).trans h4, ⟨f5, (e 4 (by decide)).trans h5, h5b⟩, ⟨f6, (e 5 (by decide)).trans h6, h6b⟩, h7⟩
theorem arrV_x {cI : ClassId} {N : Nat} {f f' : Nat → Value} (h : ∀ i : Nat, i < N → f i = f' i) : arrV cI N f = arrV cI N f' := by
  unfold arrV
  rw [show (fun j : Fin N => f j.val) = fun j : Fin N => f' j.val from funext fun j => h j.val j.isLt]
theorem Mach.ext4 {l : Launch} {G : GT} {y : MethodName} {cc : ByteArray} {t : Tab} {nL : Nat} {ret : Option FieldType} {d mc ms : Nat} {Qp : Option AV → Wo → Prop} {g : gF} {k n : Nat} {w : Wo} {pc : Nat} {lv : Lo} {st : List AV} {a N : Nat} {f f' : Nat → Int} (M : Mach l G y cc t nL ret d mc ms Qp g) (he : lk w a = some (Ar 4 N f)) (hf : ∀ i : Nat, i < N → f i = f' i) (kk : ∀ w' : Wo, lk w' a = some (Ar 4 N f') → (∀ q : Nat, q ≠ a → lk w' q = lk w q) → g k n w' pc lv st) : g k n w pc lv st := by
  obtain ⟨p, e, s, m, args, below, meth, c, A, hx, hb, ht, hml, hr', hlk, hown, hts, hnm, hA, hAB, hB, hK, hSt, rfl⟩ := M
  intro H locs ls hP hD hS hl
  obtain ⟨j, hj⟩ := lk_place he
  have es := up_set (G := G) (c := Ar 4 N f') hD hj
  have h1 : H[a]? = some (vp_cell (gA G 4) (qar 4 N f)) := hP j _ (qm_place hj)
  have h2 : va_at (gD G) vwCl (a, qc G (Ar 4 N f')) H := by
    show H[a]? = some (arrV (gA G 4) N (fun j => va_rf (if f' j < 0 then none else some (f' j).toNat)))
    rw [h1]
    show some (arrV (gA G 4) N (fun j => va_rf (if f j < 0 then none else some (f j).toNat))) = _
    rw [arrV_x (fun i hi => by rw [hf i hi])]
  exact kk (up w a (Ar 4 N f')) (lk_up_s he) (fun q h => lk_up_n h) H locs ls (by rw [← es]; exact hP.set hD (qm_place hj) h2 (fun _ _ => rfl)) (by rw [← es]; exact hD.set (qm_place hj)) hS hl
/-- a standing at first -/
def Std0 (z : Nat) (w : Wo) : Prop := isRx z (tz z 0) (nz z 0) 0 (fun _ => D0) 0 w ∧ isTo (tz z) t0i (fun _ => -1) w ∧ isSt (nz z) D0 w
theorem std_e {z : Nat} {w w' : Wo} (h : Std0 z w) (e : ∀ a : Nat, z ≤ a → a < z + 411 → lk w' a = lk w a) : Std0 z w' := ⟨rx_fr h.1 (fun a ha => e a (by omega) (by omega)), isTo_e h.2.1 (fun j hj => e _ (by unfold tz; omega) (by unfold tz; omega)), isS2_e h.2.2 (fun j hj => e _ (by unfold nz; omega) (by unfold nz; omega))⟩
set_option maxHeartbeats 4000000 in
set_option maxRecDepth 100000 in
theorem kX5_init (l : Launch) (G : GT) (o : Nat) : CtrS l G yX5_init cX5_init 2 (none : Option FieldType) 3 410 30761 [vr o] (o + 1) (fun w => lk w o = some (Ob 4 [vn, vn, vn, vi 0, vi 0]) ∧ Fu G w (o + 1)) (fun w r w' => r = none ∧ Std0 o w' ∧ FrB o 411 w w' ∧ Fu G w' (o + 411)) := by
  refine CtrS.of (t := tX5_init) (lv0 := [some (vr o), none]) (by decide +kernel) tX5_init_ok rfl rfl (fun w g hP MS => ?_)
  obtain ⟨hP, hF⟩ := hP
  have M := MS.M
  have LP : ∀ (r i : Nat) (w' : Wo), i + r = 30 → (lk w' o = some (Ob 4 [vr (tz o 0), vr (nz o 0), vr (o + 20), vi 0, vi 0]) ∧ isTo (tz o) t0i (fun _ => -1) w' ∧ isSt (nz o) D0 w' ∧ (∃ f, lk w' (o + 20) = some (Ar 4 30 f) ∧ ∀ j : Nat, j < i → f j = aF o j) ∧ (∀ j : Nat, j < i → isSt (aC o j) D0 w') ∧ FrB o 411 w w' ∧ Fu G w' (o + 21 + 13 * i)) → g (20 + 13 * i) (1061 + 990 * i) w' 37 [some (vr o), some (vi ((i : Nat) : Int))] [] := by
    intro r
    induction r with
    | zero =>
      intro i w1 hir hI
      obtain ⟨hO, hT, hS, ⟨f, hA, hf⟩, hE, hB, hFu⟩ := hI
      refine M.run 2 (pc' := 39) (lv' := [some (vr o), some (vi ((i : Nat) : Int))]) (st' := [vr o, vi ((i : Nat) : Int)]) rfl ?_
      refine M.get fl_X5_25 rfl hO (kf := 2) (v := vr (o + 20)) rfl ?_
      refine M.alen rfl hA (by decide) ?_
      refine M.icmp_ge (tgt := 65) rfl (qI (by omega)) (qI (by omega)) rfl (fun h3 => ?_) (fun h3 => absurd h3 (by omega))
      refine M.ext4 (f' := aF o) hA (fun j hj => hf j (by omega)) (fun w2 g1 g2 => ?_)
      refine M.vret rfl (by omega) (by omega) ⟨rfl, ⟨⟨(g2 _ (by omega)).trans hO, g1, fun j hj => isS2_e (hE j (by omega)) (fun q hq => g2 _ (by unfold aC; omega))⟩, isTo_e hT (fun j hj => g2 _ (by unfold tz; omega)), isS2_e hS (fun j hj => g2 _ (by unfold nz; omega))⟩, fun q hq => (g2 q (by omega)).trans (hB q hq), ?_⟩
      have hF9 := Fu_fr hFu g1 g2
      rw [show o + 411 = o + 21 + 13 * i from by omega]
      exact hF9
    | succ r ih =>
      intro i w1 hir hI
      obtain ⟨hO, hT, hS, ⟨f, hA, hf⟩, hE, hB, hFu⟩ := hI
      refine M.run 2 (pc' := 39) (lv' := [some (vr o), some (vi ((i : Nat) : Int))]) (st' := [vr o, vi ((i : Nat) : Int)]) rfl ?_
      refine M.get fl_X5_25 rfl hO (kf := 2) (v := vr (o + 20)) rfl ?_
      refine M.alen rfl hA (by decide) ?_
      refine M.icmp_ge (tgt := 65) rfl (qI (by omega)) (qI (by omega)) rfl (fun h3 => absurd h3 (by omega)) (fun h3 => ?_)
      refine M.run 1 (pc' := 47) (lv' := [some (vr o), some (vi ((i : Nat) : Int))]) (st' := [vr o]) rfl ?_
      refine M.get fl_X5_25 rfl hO (kf := 2) (v := vr (o + 20)) rfl ?_
      refine M.run 1 (pc' := 51) (lv' := [some (vr o), some (vi ((i : Nat) : Int))]) (st' := [vi ((i : Nat) : Int), vr (o + 20)]) rfl ?_
      refine MS.newOW (ci := 5) (o + 21 + 13 * i) [vi 0, vi 0, vi 0, vi 0, vi 0, vn, vn, vn, vn, vn, vn] (by omega) hFu rfl inX6 tyX6_ok wd_l_RX5_18 wd_i_RX6 wd_s_RX6 (by decide +kernel) rfl (by omega) (by omega) (fun w2 g1 g2 g3 => ?_)
      refine M.run 1 (pc' := 55) (lv' := [some (vr o), some (vi ((i : Nat) : Int))]) (st' := [vr (o + 21 + 13 * i), vr (o + 21 + 13 * i), vi ((i : Nat) : Int), vr (o + 20)]) rfl ?_
      refine MS.callI (o + 21 + 13 * i + 1) (by omega) g3 (kX6_init l G (o + 21 + 13 * i)) ci_X5_20 cd_X6_init rfl rfl (by decide) (by decide) rfl (by omega) (by omega) ⟨g1, g3⟩ (fun w3 hQ3 => ?_) (fun r w1 h => h.1)
      obtain ⟨_, q1, q2, q3⟩ := hQ3
      have hA3 : lk w3 (o + 20) = some (Ar 4 30 f) := (q2 _ (by omega)).trans ((g2 _ (by omega)).trans hA)
      have q1b : isSt (aC o i) D0 w3 := q1
      refine M.aastN (ci := 5) i (Or.inr ⟨rfl, rfl⟩) rfl hA3 q1b.1 rfl rfl (by omega) (by decide) ?_
      generalize hw4 : up w3 (o + 20) (Ar 4 30 (uN f i ((o + 21 + 13 * i : Nat) : Int))) = w4
      have r1 : lk w4 (o + 20) = some (Ar 4 30 (uN f i ((o + 21 + 13 * i : Nat) : Int))) := by rw [← hw4]; exact lk_up_s hA3
      have r2 : ∀ q : Nat, q ≠ o + 20 → lk w4 q = lk w3 q := fun q hq => by rw [← hw4]; exact lk_up_n hq
      have r3 : ∀ q : Nat, q ≠ o + 20 → (q < o + 21 + 13 * i ∨ o + 21 + 13 * i + 13 ≤ q) → lk w4 q = lk w1 q := fun q h1 h2 => (r2 q h1).trans ((q2 q h2).trans (g2 q (by omega)))
      refine M.run 2 (pc' := 37) (lv' := [some (vr o), some (vi (((i : Nat) : Int) + 1))]) (st' := []) rfl ?_
      have e1 : ((i : Nat) : Int) + 1 = ((i + 1 : Nat) : Int) := rfl
      rw [e1]
      have h9 := ih (i + 1) w4 (by omega) ⟨(r3 _ (by omega) (by omega)).trans hO, isTo_e hT (fun j hj => r3 _ (by unfold tz; omega) (by unfold tz; omega)), isS2_e hS (fun j hj => r3 _ (by unfold nz; omega) (by unfold nz; omega)), ⟨_, r1, fun j hj => ?_⟩, fun j hj => ?_, fun q hq => (r3 q (by omega) (by omega)).trans (hB q hq), ?_⟩
      · rw [show 20 + 13 * (i + 1) = 20 + 13 * i + 1 + 12 from by omega, show 1061 + 990 * (i + 1) = 1061 + 990 * i + 11 + 979 from by omega] at h9
        exact h9
      · by_cases hji : j = i
        · subst hji
          rw [uN_s]
          rfl
        · rw [uN_o hji]
          exact hf j (by omega)
      · by_cases hji : j = i
        · subst hji
          exact isS2_e q1b (fun q hq => r2 _ (by unfold aC; omega))
        · exact isS2_e (hE j (by omega)) (fun q hq => r3 _ (by unfold aC; omega) (by unfold aC; omega))
      · rw [show o + 21 + 13 * (i + 1) = o + 21 + 13 * i + 13 from by omega]
        exact Fu_fr q3 r1 r2
  refine M.run 1 (pc' := 1) (lv' := [some (vr o), none]) (st' := [vr o]) rfl ?_
  refine M.oinit wd_o_RX5 rfl (by decide) rfl ?_
  refine M.run 1 (pc' := 5) (lv' := [some (vr o), none]) (st' := [vr o]) rfl ?_
  refine MS.newOW (ci := 8) (o + 1) [vi 0, vn, vn, vi 0, vi 0, vi 0, vi 0, vi 0, vi 0, vi 0, vn, vi 0, vi 0, vn, vn] (by omega) hF rfl inX9 tyX9_ok wd_l_RX5_9 wd_i_RX9 wd_s_RX9 (by decide +kernel) rfl (by omega) (by omega) (fun w1_ hn1 fr1 hF1 => ?_)
  have hc1_0 := (fr1 _ (by omega)).trans hP
  refine M.run 1 (pc' := 9) (lv' := [some (vr o), none]) (st' := [vr (o + 1), vr (o + 1), vr o]) rfl ?_
  refine MS.callI (o + 2) (by omega) hF1 (kX9_init l G (o + 1)) ci_X5_11 cd_X9_init rfl rfl (by decide) (by decide) rfl (by omega) (by omega) ⟨hn1, hF1⟩ (fun w2_ hQ2 => ?_) (fun r w1 h => h.1)
  obtain ⟨_, hz2, fr2, hF2⟩ := hQ2
  have hc2_0 := (fr2 _ (by omega)).trans hc1_0
  have hT2 : isTo (tz o) t0i (fun _ => -1) w2_ := hz2
  refine M.putFW [vr (tz o 0), vn, vn, vi 0, vi 0] fl_X5_12 rfl rfl rfl hc2_0 rfl rfl (Nat.le_of_ble_eq_true rfl) rfl (fun w3_ hn3 fr3 => ?_)
  have hT3 := isTo_e hT2 (fun j hj => fr3 _ (by unfold tz; omega))
  have hF3 := Fu_fr hF2 hn3 fr3
  refine M.run 1 (pc' := 16) (lv' := [some (vr o), none]) (st' := [vr o]) rfl ?_
  refine MS.newOW (ci := 5) (o + 7) [vi 0, vi 0, vi 0, vi 0, vi 0, vn, vn, vn, vn, vn, vn] (by omega) hF3 rfl inX6 tyX6_ok wd_l_RX5_18 wd_i_RX6 wd_s_RX6 (by decide +kernel) rfl (by omega) (by omega) (fun w4_ hn4 fr4 hF4 => ?_)
  have hc4_0 := (fr4 _ (by omega)).trans hn3
  have hT4 := isTo_e hT3 (fun j hj => fr4 _ (by unfold tz; omega))
  refine M.run 1 (pc' := 20) (lv' := [some (vr o), none]) (st' := [vr (o + 7), vr (o + 7), vr o]) rfl ?_
  refine MS.callI (o + 8) (by omega) hF4 (kX6_init l G (o + 7)) ci_X5_20 cd_X6_init rfl rfl (by decide) (by decide) rfl (by omega) (by omega) ⟨hn4, hF4⟩ (fun w5_ hQ5 => ?_) (fun r w1 h => h.1)
  obtain ⟨_, hz5, fr5, hF5⟩ := hQ5
  have hc5_0 := (fr5 _ (by omega)).trans hc4_0
  have hT5 := isTo_e hT4 (fun j hj => fr5 _ (by unfold tz; omega))
  have hS5 : isSt (nz o) D0 w5_ := hz5
  refine M.putFW [vr (tz o 0), vr (nz o 0), vn, vi 0, vi 0] fl_X5_21 rfl rfl rfl hc5_0 rfl rfl (Nat.le_of_ble_eq_true rfl) rfl (fun w6_ hn6 fr6 => ?_)
  have hT6 := isTo_e hT5 (fun j hj => fr6 _ (by unfold tz; omega))
  have hS6 := isS2_e hS5 (fun j hj => fr6 _ (by unfold nz; omega))
  have hF6 := Fu_fr hF5 hn6 fr6
  refine M.run 2 (pc' := 29) (lv' := [some (vr o), none]) (st' := [vi 30, vr o]) rfl ?_
  show g _ _ _ _ _ (vi ((30 : Nat) : Int) :: _)
  refine MS.newQ4W (o + 20) (by omega) hF6 wd_l_RX5_18 (by omega) rfl (by omega) (by omega) (fun w7_ hn7 fr7 hF7 => ?_)
  have hc7_0 := (fr7 _ (by omega)).trans hn6
  have hT7 := isTo_e hT6 (fun j hj => fr7 _ (by unfold tz; omega))
  have hS7 := isS2_e hS6 (fun j hj => fr7 _ (by unfold nz; omega))
  refine M.putFW [vr (tz o 0), vr (nz o 0), vr (o + 20), vi 0, vi 0] fl_X5_25 rfl rfl rfl hc7_0 rfl rfl (Nat.le_of_ble_eq_true rfl) rfl (fun w8_ hn8 fr8 => ?_)
  have hc8_1 := (fr8 _ (by omega)).trans hn7
  have hT8 := isTo_e hT7 (fun j hj => fr8 _ (by unfold tz; omega))
  have hS8 := isS2_e hS7 (fun j hj => fr8 _ (by unfold nz; omega))
  have hF8 := Fu_fr hF7 hn8 fr8
  refine M.run 2 (pc' := 37) (lv' := [some (vr o), some (vi 0)]) (st' := []) rfl ?_
  exact LP 30 0 w8_ rfl ⟨hn8, hT8, hS8, ⟨_, hc8_1, fun j hj => absurd hj (Nat.not_lt_zero _)⟩, fun j hj => absurd hj (Nat.not_lt_zero _), fun q hq => ((((((((fr8 q (by omega)).trans (fr7 q (by omega))).trans (fr6 q (by omega))).trans (fr5 q (by omega))).trans (fr4 q (by omega))).trans (fr3 q (by omega))).trans (fr2 q (by omega))).trans (fr1 q (by omega))), hF8⟩
