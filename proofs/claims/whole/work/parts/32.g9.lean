theorem mAll_ss {p : Nat → Bool} {k : Nat} : mAll p (k + 1) = (mAll p k && p k) := rfl

set_option maxHeartbeats 4000000 in
set_option maxRecDepth 100000 in
theorem vX11_whose (l : Launch) (G : GT) (o : Nat) (am : Nat → Nat) (u tl : Nat → Int) (b0 : Nat → Nat → Int) (D : Dy) (L : List Dy) (n : Int) (hT : Tok tl) (hd : Dok n D) (hi : Inv D) (hc9 : D.1 18 ≤ 9999) (hL : Lok n L) (hn : 0 ≤ n ∧ n ≤ 800000000) (hu : u 23 = 0 ∨ u 23 = 1) (X : Nat → Int → Option Gn) (hX : TxOk (b0 2) X (tl 1) ∧ tl 2 < tl 1) (hsd : Sdk tl) (h4b : tl 4 ≤ 8) : Ctr l G yX11_whose cX11_whose 5 ((Option.some Jvm.ClassFile.FieldType.int)) 7 0 0 [vr o] (fun w => isT o am u tl b0 D L w) (fun w r w' => r = some (vi ((mOrs (fun t => mAll (whoP X tl D t) (tl 4).toNat) (tl 1).toNat : Nat) : Int)) ∧ isT o am u tl b0 D L w') := by
  refine Ctr.of (t := tX11_whose) (lv0 := [some (vr o), none, none, none, none]) (by decide +kernel) tX11_whose_ok rfl rfl (fun w g hP M => ?_)
  obtain ⟨a0, ⟨a, b, hM, hR, hF, hB⟩, hTE, hRg⟩ := hP
  have ht : Tok a0 := Tok_R hT hTE hRg
  have hk0 : 0 ≤ tl 0 ∧ tl 0 ≤ 3 := hT.1 0 (by decide)
  have hk1 : 0 ≤ tl 1 ∧ tl 1 ≤ 4 := hT.1 1 (by decide)
  have hk4 : 0 ≤ tl 4 ∧ tl 4 ≤ 8 := hT.1 4 (by decide)
  refine M.run 4 (pc' := 4) (lv' := [some (vr o), some (vi 0), some (vi 0), none, none]) (st' := []) rfl ?_
  have Lp4 : ∀ (N : Nat) (m : Nat) (t : Nat) (av : Nat → Int) (bv : Nat → Nat → Int) (wv : Wo), (isM o am u av bv wv) → (Rp av D) → (Fr a0 av) → (Fb b0 bv) → (m = mOrs (fun t => mAll (whoP X tl D t) (tl 4).toNat) t) → (((t : Nat) : Int) ≤ tl 1) → (tl 1).toNat - t < N → g 0 0 wv 4 [some (vr o), some (vi ((m : Nat) : Int)), some (vi ((t : Nat) : Int)), none, none] [] := by
    intro N
    induction N with
    | zero => intro m t av bv wv _ _ _ _ _ _ hN; exact absurd hN (Nat.not_lt_zero _)
    | succ N ih4 =>
      intro m t av bv wv hMv hRv hFv hBv hm hk hN
      refine M.run 2 (pc' := 6) (lv' := [some (vr o), some (vi ((m : Nat) : Int)), some (vi ((t : Nat) : Int)), none, none]) (st' := [vr o, vi ((t : Nat) : Int)]) rfl ?_
      refine M.get fl_X11_7 rfl (isM_o hMv) (kf := 0) (v := vr (am 0)) rfl ?_
      refine M.run 1 (pc' := 10) (lv' := [some (vr o), some (vi ((m : Nat) : Int)), some (vi ((t : Nat) : Int)), none, none]) (st' := [vi 1, vr (am 0), vi ((t : Nat) : Int)]) rfl ?_
      refine M.ialdN (1) rfl (isM_a hMv) (by decide) (by decide) ?_
      rw [show av 1 = tl 1 from (hFv 1 (Or.inl (by decide))).trans (hTE.1 1 (by decide) (by decide) (by decide))]
      refine M.icmp_ge (tgt := 100) rfl (qI (by omega)) (qI (by omega)) (by decide) (fun h11 => ?_) (fun h11 => ?_)
      · skip
        refine M.run 1 (pc' := 101) (lv' := [some (vr o), some (vi ((m : Nat) : Int)), some (vi ((t : Nat) : Int)), none, none]) (st' := [vi ((m : Nat) : Int)]) rfl ?_
        exact M.iret rfl (Nat.zero_le _) (Nat.zero_le _) ⟨reI (by rw [hm, show (tl 1).toNat = t by omega]), ⟨a0, ⟨_, _, hMv, hRv, hFv, hBv⟩, hTE, hRg⟩⟩
      · skip
        have hml := mOrs_lt (fun t => mAll (whoP X tl D t) (tl 4).toNat) t (by omega)
        refine M.run 4 (pc' := 21) (lv' := [some (vr o), some (vi ((m : Nat) : Int)), some (vi ((t : Nat) : Int)), some (vi 1), some (vi 986)]) (st' := []) rfl ?_
        have Lp21 : ∀ (N : Nat) (j : Nat) (aq : Nat → Int) (bq : Nat → Nat → Int) (wq : Wo), (isM o am u aq bq wq) → (Rp aq D) → (Fr a0 aq) → (Fb b0 bq) → (((j : Nat) : Int) ≤ tl 4) → (tl 4).toNat - j < N → g 0 0 wq 21 [some (vr o), some (vi ((m : Nat) : Int)), some (vi ((t : Nat) : Int)), some (vi (zb (mAll (whoP X tl D t) j))), some (vi ((986 + 2 * j : Nat) : Int))] [] := by
          intro N
          induction N with
          | zero => intro j aq bq wq _ _ _ _ _ hN; exact absurd hN (Nat.not_lt_zero _)
          | succ N ih21 =>
            intro j aq bq wq hMq hRq hFq hBq hj hN
            refine M.run 4 (pc' := 28) (lv' := [some (vr o), some (vi ((m : Nat) : Int)), some (vi ((t : Nat) : Int)), some (vi (zb (mAll (whoP X tl D t) j))), some (vi ((986 + 2 * j : Nat) : Int))]) (st' := [vr o, vi 2, vi 986, vi ((986 + 2 * j : Nat) : Int)]) rfl ?_
            refine M.get fl_X11_7 rfl (isM_o hMq) (kf := 0) (v := vr (am 0)) rfl ?_
            refine M.run 1 (pc' := 32) (lv' := [some (vr o), some (vi ((m : Nat) : Int)), some (vi ((t : Nat) : Int)), some (vi (zb (mAll (whoP X tl D t) j))), some (vi ((986 + 2 * j : Nat) : Int))]) (st' := [vi 4, vr (am 0), vi 2, vi 986, vi ((986 + 2 * j : Nat) : Int)]) rfl ?_
            refine M.ialdN (4) rfl (isM_a hMq) (by decide) (by decide) ?_
            rw [show aq 4 = tl 4 from (hFq 4 (Or.inl (by decide))).trans (hTE.1 4 (by decide) (by decide) (by decide))]
            rw [show tl 4 = (((tl 4).toNat : Nat) : Int) from (Int.toNat_of_nonneg (by omega)).symm]
            refine M.run 2 (pc' := 35) (lv' := [some (vr o), some (vi ((m : Nat) : Int)), some (vi ((t : Nat) : Int)), some (vi (zb (mAll (whoP X tl D t) j))), some (vi ((986 + 2 * j : Nat) : Int))]) (st' := [vi (986 + (2 * (((tl 4).toNat : Nat) : Int))), vi ((986 + 2 * j : Nat) : Int)]) rfl ?_
            refine M.icmp_ge (tgt := 80) rfl (qI (by omega)) (qI (by omega)) (by decide) (fun h35 => ?_) (fun h35 => ?_)
            · skip
              have hje : j = (tl 4).toNat := by omega
              refine M.run 2 (pc' := 82) (lv' := [some (vr o), some (vi ((m : Nat) : Int)), some (vi ((t : Nat) : Int)), some (vi (zb (mAll (whoP X tl D t) j))), some (vi ((986 + 2 * j : Nat) : Int))]) (st' := [vi (zb (mAll (whoP X tl D t) j)), vi ((m : Nat) : Int)]) rfl ?_
              refine M.if_eq (tgt := 91) rfl (inI_zb _) (by decide) (fun h82 => ?_) (fun h82 => ?_)
              · skip
                replace h82 := zb_f0 h82
                have hlv : ¬ (fun t => mAll (whoP X tl D t) (tl 4).toNat) t = true := fun q => by rw [← hje] at q; exact absurd (h82.symm.trans q) (by decide)
                refine M.run 1 (pc' := 92) (lv' := [some (vr o), some (vi ((m : Nat) : Int)), some (vi ((t : Nat) : Int)), some (vi (zb (mAll (whoP X tl D t) j))), some (vi ((986 + 2 * j : Nat) : Int))]) (st' := [vi 0, vi ((m : Nat) : Int)]) rfl ?_
                refine M.ior (b1 := m) (b2 := 0) rfl (by omega) (by omega) ?_
                refine M.run 3 (pc' := 4) (lv' := [some (vr o), some (vi ((m ||| 0 : Nat) : Int)), some (vi (((t : Nat) : Int) + 1)), some (vi (zb (mAll (whoP X tl D t) j))), some (vi ((986 + 2 * j : Nat) : Int))]) (st' := []) rfl ?_
                refine M.fgt [false, false, false, true, true] ?_
                exact ih4 (m ||| 0) (t + 1) aq bq wq hMq hRq hFq hBq (by rw [hm]; exact (mOrs_n (p := fun t => mAll (whoP X tl D t) (tl 4).toNat) (k := t) hlv).symm) (by omega) (by omega)
              · skip
                replace h82 := zb_t h82
                have hlv : (fun t => mAll (whoP X tl D t) (tl 4).toNat) t = true := by rw [← hje]; exact h82
                have hsl : 1 <<< t < 256 := by rw [Nat.one_shiftLeft]; exact Nat.pow_lt_pow_right (m := t) (n := 8) (by decide) (by omega)
                refine M.run 2 (pc' := 87) (lv' := [some (vr o), some (vi ((m : Nat) : Int)), some (vi ((t : Nat) : Int)), some (vi (zb (mAll (whoP X tl D t) j))), some (vi ((986 + 2 * j : Nat) : Int))]) (st' := [vi ((t : Nat) : Int), vi 1, vi ((m : Nat) : Int)]) rfl ?_
                refine M.ishl (b1 := 1) (b2 := t) rfl (by omega) ?_
                refine M.run 1 (pc' := 92) (lv' := [some (vr o), some (vi ((m : Nat) : Int)), some (vi ((t : Nat) : Int)), some (vi (zb (mAll (whoP X tl D t) j))), some (vi ((986 + 2 * j : Nat) : Int))]) (st' := [vi ((1 <<< t : Nat) : Int), vi ((m : Nat) : Int)]) rfl ?_
                refine M.ior (b1 := m) (b2 := 1 <<< t) rfl (by omega) (by omega) ?_
                refine M.run 3 (pc' := 4) (lv' := [some (vr o), some (vi ((m ||| (1 <<< t) : Nat) : Int)), some (vi (((t : Nat) : Int) + 1)), some (vi (zb (mAll (whoP X tl D t) j))), some (vi ((986 + 2 * j : Nat) : Int))]) (st' := []) rfl ?_
                refine M.fgt [false, false, false, true, true] ?_
                exact ih4 (m ||| (1 <<< t)) (t + 1) aq bq wq hMq hRq hFq hBq (by rw [hm]; exact (mOrs_y (p := fun t => mAll (whoP X tl D t) (tl 4).toNat) (k := t) hlv).symm) (by omega) (by omega)
            · skip
              have hsj := hsd j (by omega)
              refine M.run 1 (pc' := 39) (lv' := [some (vr o), some (vi ((m : Nat) : Int)), some (vi ((t : Nat) : Int)), some (vi (zb (mAll (whoP X tl D t) j))), some (vi ((986 + 2 * j : Nat) : Int))]) (st' := [vi (zb (mAll (whoP X tl D t) j))]) rfl ?_
              refine M.if_eq (tgt := 72) rfl (inI_zb _) (by decide) (fun h39 => ?_) (fun h39 => ?_)
              · skip
                replace h39 := zb_f0 h39
                refine M.run 1 (pc' := 73) (lv' := [some (vr o), some (vi ((m : Nat) : Int)), some (vi ((t : Nat) : Int)), some (vi (zb (mAll (whoP X tl D t) j))), some (vi ((986 + 2 * j : Nat) : Int))]) (st' := [vi 0]) rfl ?_
                rw [show 0 = zb (mAll (whoP X tl D t) (j + 1)) from (by rw [mAll_ss, h39]; rfl)]
                refine M.run 3 (pc' := 21) (lv' := [some (vr o), some (vi ((m : Nat) : Int)), some (vi ((t : Nat) : Int)), some (vi (zb (mAll (whoP X tl D t) (j + 1)))), some (vi (((986 + 2 * j : Nat) : Int) + 2))]) (st' := []) rfl ?_
                exact ih21 (j + 1) aq bq wq hMq hRq hFq hBq (by omega) (by omega)
              · skip
                replace h39 := zb_t h39
                refine M.run 3 (pc' := 45) (lv' := [some (vr o), some (vi ((m : Nat) : Int)), some (vi ((t : Nat) : Int)), some (vi (zb (mAll (whoP X tl D t) j))), some (vi ((986 + 2 * j : Nat) : Int))]) (st' := [vr o, vi ((t : Nat) : Int), vr o]) rfl ?_
                refine M.get fl_X11_7 rfl (isM_o hMq) (kf := 0) (v := vr (am 0)) rfl ?_
                refine M.run 1 (pc' := 50) (lv' := [some (vr o), some (vi ((m : Nat) : Int)), some (vi ((t : Nat) : Int)), some (vi (zb (mAll (whoP X tl D t) j))), some (vi ((986 + 2 * j : Nat) : Int))]) (st' := [vi ((986 + 2 * j : Nat) : Int), vr (am 0), vi ((t : Nat) : Int), vr o]) rfl ?_
                refine M.ialdN (986 + 2 * j) rfl (isM_a hMq) (by omega) (by decide) ?_
                rw [show aq (986 + 2 * j) = tl (986 + 2 * j) from ((hFq _ (Or.inr (by omega))).trans (hTE.2 (986 + 2 * j) (by omega) (by omega)))]
                refine M.run 2 (pc' := 53) (lv' := [some (vr o), some (vi ((m : Nat) : Int)), some (vi ((t : Nat) : Int)), some (vi (zb (mAll (whoP X tl D t) j))), some (vi ((986 + 2 * j : Nat) : Int))]) (st' := [vi 0, vi 0, vi (tl (986 + 2 * j)), vi ((t : Nat) : Int), vr o]) rfl ?_
                refine M.callV (eX11_losesBy l G o am u a0 b0 D _ ht hd (by omega) ((t : Nat) : Int) (tl (986 + 2 * j)) 0 0 (by rw [hTE.1 1 (by decide) (by decide) (by decide)]; omega) (by omega) (by omega) X (hXof hTE hX).1) cv_X11_368 cd_X11_losesBy rfl (st := []) rfl (isM_o hMq) (by decide) (by decide) rfl (Nat.zero_le _) (Nat.zero_le _) ⟨_, _, hMq, hRq, hFq, hBq⟩ (fun r2 w3 q4 => ?_)
                obtain ⟨q4r, a1, b1, hM1, hR1, hF1, hB1⟩ := q4
                rw [q4r, c_loss hTE hT]
                have hlb1 := mLossA_b (X := X) (a := stA tl D) (z := ((t : Nat) : Int)) (kind := (tl (986 + 2 * j))) (c := 0) (x := 0)
                refine M.run 1 (pc' := 57) (lv' := [some (vr o), some (vi ((m : Nat) : Int)), some (vi ((t : Nat) : Int)), some (vi (zb (mAll (whoP X tl D t) j))), some (vi ((986 + 2 * j : Nat) : Int))]) (st' := [vr o, vi (mLossA X (stA tl D) ((t : Nat) : Int) (tl (986 + 2 * j)) 0 0)]) rfl ?_
                refine M.get fl_X11_7 rfl (isM_o hM1) (kf := 0) (v := vr (am 0)) rfl ?_
                refine M.run 3 (pc' := 64) (lv' := [some (vr o), some (vi ((m : Nat) : Int)), some (vi ((t : Nat) : Int)), some (vi (zb (mAll (whoP X tl D t) j))), some (vi ((986 + 2 * j : Nat) : Int))]) (st' := [vi (((986 + 2 * j : Nat) : Int) + 1), vr (am 0), vi (mLossA X (stA tl D) ((t : Nat) : Int) (tl (986 + 2 * j)) 0 0)]) rfl ?_
                refine M.ialdN (986 + 2 * j + 1) rfl (isM_a hM1) (by omega) (by decide) ?_
                rw [show a1 (986 + 2 * j + 1) = tl (986 + 2 * j + 1) from ((hF1 _ (Or.inr (by omega))).trans (hTE.2 (986 + 2 * j + 1) (by omega) (by omega)))]
                refine M.icmp_ne (tgt := 72) rfl (qI (by omega)) (qI (by omega)) (by decide) (fun h65 => ?_) (fun h65 => ?_)
                · skip
                  refine M.run 1 (pc' := 73) (lv' := [some (vr o), some (vi ((m : Nat) : Int)), some (vi ((t : Nat) : Int)), some (vi (zb (mAll (whoP X tl D t) j))), some (vi ((986 + 2 * j : Nat) : Int))]) (st' := [vi 0]) rfl ?_
                  rw [show 0 = zb (mAll (whoP X tl D t) (j + 1)) from (by rw [mAll_ss, h39, show whoP X tl D t j = false from decide_eq_false h65]; rfl)]
                  refine M.run 3 (pc' := 21) (lv' := [some (vr o), some (vi ((m : Nat) : Int)), some (vi ((t : Nat) : Int)), some (vi (zb (mAll (whoP X tl D t) (j + 1)))), some (vi (((986 + 2 * j : Nat) : Int) + 2))]) (st' := []) rfl ?_
                  exact ih21 (j + 1) a1 b1 w3 hM1 hR1 hF1 hB1 (by omega) (by omega)
                · skip
                  refine M.run 2 (pc' := 73) (lv' := [some (vr o), some (vi ((m : Nat) : Int)), some (vi ((t : Nat) : Int)), some (vi (zb (mAll (whoP X tl D t) j))), some (vi ((986 + 2 * j : Nat) : Int))]) (st' := [vi 1]) rfl ?_
                  rw [show 1 = zb (mAll (whoP X tl D t) (j + 1)) from (by rw [mAll_ss, h39, show whoP X tl D t j = true from decide_eq_true h65]; rfl)]
                  refine M.run 3 (pc' := 21) (lv' := [some (vr o), some (vi ((m : Nat) : Int)), some (vi ((t : Nat) : Int)), some (vi (zb (mAll (whoP X tl D t) (j + 1)))), some (vi (((986 + 2 * j : Nat) : Int) + 2))]) (st' := []) rfl ?_
                  exact ih21 (j + 1) a1 b1 w3 hM1 hR1 hF1 hB1 (by omega) (by omega)
        exact Lp21 _ 0 av bv wv hMv hRv hFv hBv (by omega) (Nat.lt_succ_self _)
  exact Lp4 _ 0 0 a b w hM hR hF hB rfl (by omega) (Nat.lt_succ_self _)
set_option maxHeartbeats 4000000 in
set_option maxRecDepth 100000 in
theorem vX11_odds (l : Launch) (G : GT) (o : Nat) (am : Nat → Nat) (u tl : Nat → Int) (b0 : Nat → Nat → Int) (D : Dy) (L : List Dy) (n : Int) (hT : Tok tl) (hd : Dok n D) (hi : Inv D) (hc9 : D.1 18 ≤ 9999) (hL : Lok n L) (hn : 0 ≤ n ∧ n ≤ 800000000) (hu : u 23 = 0 ∨ u 23 = 1) (X : Nat → Int → Option Gn) (hX : TxOk (b0 2) X (tl 1) ∧ tl 2 < tl 1) (x : Int) (z : Int) (hx : -2147483648 ≤ x ∧ x ≤ 2147483647) (hz : -2147483648 ≤ z ∧ z ≤ 2147483647) : Ctr l G yX11_odds cX11_odds 10 ((Option.some Jvm.ClassFile.FieldType.long)) 8 0 0 [vr o, vi x, vi z] (fun w => isT o am u tl b0 D L w) (fun w r w' => r = some (vl (if opC tl D x ∧ (bPs (mRedOf tl x.toNat) (tl 7).toNat).length ≤ 18 then (((if z = 0 then mOds (odF X tl D x.toNat) (bPs (mRedOf tl x.toNat) (tl 7).toNat).length else 10 ^ (bPs (mRedOf tl x.toNat) (tl 7).toNat).length) / Nat.gcd (mOds (odF X tl D x.toNat) (bPs (mRedOf tl x.toNat) (tl 7).toNat).length) (10 ^ (bPs (mRedOf tl x.toNat) (tl 7).toNat).length) : Nat) : Int) else -1)) ∧ isT o am u tl b0 D L w') := by
  refine Ctr.of (t := tX11_odds) (lv0 := [some (vr o), some (vi x), some (vi z), none, none, none, none, none, none, none]) (by decide +kernel) tX11_odds_ok rfl rfl (fun w g hP M => ?_)
  obtain ⟨a0, ⟨a, b, hM, hR, hF, hB⟩, hTE, hRg⟩ := hP
  have ht : Tok a0 := Tok_R hT hTE hRg
  have hk0 : 0 ≤ tl 0 ∧ tl 0 ≤ 3 := hT.1 0 (by decide)
  have hk1 : 0 ≤ tl 1 ∧ tl 1 ≤ 4 := hT.1 1 (by decide)
  have hk2 : -1 ≤ tl 2 ∧ tl 2 ≤ 3 := hT.1 2 (by decide)
  have hk7 : 1 ≤ tl 7 ∧ tl 7 ≤ 9 := hT.1 7 (by decide)
  have hX2 := hX.2
  refine M.run 2 (pc' := 2) (lv' := [some (vr o), some (vi x), some (vi z), none, none, none, none, none, none, none]) (st' := [vi x, vr o]) rfl ?_
  refine M.callV (eX11_canOpen l G o am u a0 b0 D _ ht hd (by omega) x (by omega)) cv_X11_402 cd_X11_canOpen rfl (st := []) rfl (isM_o hM) (by decide) (by decide) rfl (Nat.zero_le _) (Nat.zero_le _) ⟨_, _, hM, hR, hF, hB⟩ (fun r1 w2 q3 => ?_)
  rw [q3.1, q3.2]
  rw [show zb (decide ((0 ≤ x ∧ x < a0 0) ∧ D.1 (28 + (x).toNat) = 0)) = zb (decide (opC tl D x)) from by rw [hTE.1 0 (by decide) (by decide) (by decide)]]
  refine M.if_ne (tgt := 12) rfl (inI_zb _) (by decide) (fun h5 => ?_) (fun h5 => ?_)
  · skip
    replace h5 := zb_td h5
    have hop := h5
    obtain ⟨c, rfl⟩ := Int.eq_ofNat_of_zero_le (show (0 : Int) ≤ x from h5.1.1)
    have hps := bPs_ok (b := mRedOf tl c) (sz := (tl 7).toNat) (by omega)
    refine M.run 2 (pc' := 14) (lv' := [some (vr o), some (vi ((c : Nat) : Int)), some (vi z), none, none, none, none, none, none, none]) (st' := [vi ((c : Nat) : Int), vr o]) rfl ?_
    refine M.callV (kX11_redOf l G o am u a b c (by omega) (Mok_of ht hd (by omega) hR hF)) cv_X11_58 cd_X11_redOf rfl (st := []) rfl (isM_o hM) (by decide) (by decide) rfl (Nat.zero_le _) (Nat.zero_le _) hM (fun r5 w6 q7 => ?_)
    rw [q7.1, q7.2]
    rw [show bFs (a (15 + c)).toNat = mRedOf tl c from by unfold mRedOf; rw [hF _ (Or.inl (by omega)), hTE.1 (15 + c) (by omega) (by omega) (by omega)]]
    have hrl := bFs_lt (n := (tl (15 + c)).toNat) (by have := Tok_red hT (x := c) (by omega); omega)
    have hrl2 : mRedOf tl c < 1073741824 := hrl
    refine M.run 3 (pc' := 20) (lv' := [some (vr o), some (vi ((c : Nat) : Int)), some (vi z), some (vi ((mRedOf tl c : Nat) : Int)), none, none, none, none, none, none]) (st' := [vi ((mRedOf tl c : Nat) : Int), vr o]) rfl ?_
    refine M.callV (kX11_piecesOf l G o am u a b (mRedOf tl c) (by omega) (Mok_of ht hd (by omega) hR hF)) cv_X11_307 cd_X11_piecesOf rfl (st := []) rfl (isM_o hM) (by decide) (by decide) rfl (Nat.zero_le _) (Nat.zero_le _) hM (fun r9 w10 q11 => ?_)
    rw [q11.1, q11.2]
    rw [show a 7 = tl 7 from (hF 7 (Or.inl (by decide))).trans (hTE.1 7 (by decide) (by decide) (by decide))]
    have hpl : (bPs (mRedOf tl c) (tl 7).toNat).length ≤ 30 := bPsF_len (mRedOf tl c) (tl 7).toNat (by have := hT.1 7 (by decide); have h71 : 1 ≤ tl 7 := (hT.1 7 (by decide)).1; omega) 30 0 (by omega)
    refine M.run 3 (pc' := 29) (lv' := [some (vr o), some (vi ((c : Nat) : Int)), some (vi z), some (vi ((mRedOf tl c : Nat) : Int)), some (vi (((bPs (mRedOf tl c) (tl 7).toNat).length : Nat) : Int)), none, none, none, none, none]) (st' := [vi 18, vi (((bPs (mRedOf tl c) (tl 7).toNat).length : Nat) : Int)]) rfl ?_
    refine M.icmp_le (tgt := 36) rfl (qI (by omega)) (qI (by decide)) (by decide) (fun h29 => ?_) (fun h29 => ?_)
    · skip
      refine M.run 6 (pc' := 45) (lv' := [some (vr o), some (vi ((c : Nat) : Int)), some (vi z), some (vi ((mRedOf tl c : Nat) : Int)), some (vi (((bPs (mRedOf tl c) (tl 7).toNat).length : Nat) : Int)), some (vl 1), none, some (vl 1), none, some (vi 0)]) (st' := []) rfl ?_
      have Lp45 : ∀ (N : Nat) (up : Nat) (i : Nat) (av : Nat → Int) (bv : Nat → Nat → Int) (wv : Wo), (isM o am u av bv wv) → (Rp av D) → (Fr a0 av) → (Fb b0 bv) → (up = mOds (odF X tl D c) i) → (up ≤ 10 ^ i) → (i ≤ (bPs (mRedOf tl c) (tl 7).toNat).length) → (bPs (mRedOf tl c) (tl 7).toNat).length - i < N → g 0 0 wv 45 [some (vr o), some (vi ((c : Nat) : Int)), some (vi z), some (vi ((mRedOf tl c : Nat) : Int)), some (vi (((bPs (mRedOf tl c) (tl 7).toNat).length : Nat) : Int)), some (vl ((up : Nat) : Int)), none, some (vl ((10 ^ i : Nat) : Int)), none, some (vi ((i : Nat) : Int))] [] := by
        intro N
        induction N with
        | zero => intro up i av bv wv _ _ _ _ _ _ _ hN; exact absurd hN (Nat.not_lt_zero _)
        | succ N ih45 =>
          intro up i av bv wv hMv hRv hFv hBv hup hub hil hN
          refine M.run 2 (pc' := 49) (lv' := [some (vr o), some (vi ((c : Nat) : Int)), some (vi z), some (vi ((mRedOf tl c : Nat) : Int)), some (vi (((bPs (mRedOf tl c) (tl 7).toNat).length : Nat) : Int)), some (vl ((up : Nat) : Int)), none, some (vl ((10 ^ i : Nat) : Int)), none, some (vi ((i : Nat) : Int))]) (st' := [vi (((bPs (mRedOf tl c) (tl 7).toNat).length : Nat) : Int), vi ((i : Nat) : Int)]) rfl ?_
          refine M.icmp_ge (tgt := 104) rfl (qI (by omega)) (qI (by omega)) (by decide) (fun h49 => ?_) (fun h49 => ?_)
          · skip
            have hil2 : i = (bPs (mRedOf tl c) (tl 7).toNat).length := by omega
            have hp9 := p18 (k := i) (by omega)
            have hpp : 0 < 10 ^ i := Nat.pow_pos (by decide)
            have hgp : 0 < Nat.gcd up (10 ^ i) := Nat.gcd_pos_of_pos_right _ hpp
            have hgl : Nat.gcd up (10 ^ i) ≤ 10 ^ i := Nat.gcd_le_right _ hpp
            refine M.run 1 (pc' := 105) (lv' := [some (vr o), some (vi ((c : Nat) : Int)), some (vi z), some (vi ((mRedOf tl c : Nat) : Int)), some (vi (((bPs (mRedOf tl c) (tl 7).toNat).length : Nat) : Int)), some (vl ((up : Nat) : Int)), none, some (vl ((10 ^ i : Nat) : Int)), none, some (vi ((i : Nat) : Int))]) (st' := [vi z]) rfl ?_
            refine M.if_eq (tgt := 113) rfl (qI (by omega)) (by decide) (fun h105 => ?_) (fun h105 => ?_)
            · skip
              refine M.run 3 (pc' := 119) (lv' := [some (vr o), some (vi ((c : Nat) : Int)), some (vi z), some (vi ((mRedOf tl c : Nat) : Int)), some (vi (((bPs (mRedOf tl c) (tl 7).toNat).length : Nat) : Int)), some (vl ((up : Nat) : Int)), none, some (vl ((10 ^ i : Nat) : Int)), none, some (vi ((i : Nat) : Int))]) (st' := [vl ((10 ^ i : Nat) : Int), vl ((up : Nat) : Int), vl ((up : Nat) : Int)]) rfl ?_
              refine M.callS (kX11_divisor l G up (10 ^ i) (by omega) (by omega)) cs_X11_465 cd_X11_divisor rfl (st := [vl ((up : Nat) : Int)]) rfl (by decide) (by decide) rfl (Nat.zero_le _) (Nat.zero_le _) trivial (fun r13 w14 q15 => ?_)
              rw [q15.1, q15.2]
              refine M.ldiv rfl (qL (by omega)) (qL (by omega)) (by omega) ?_
              exact M.lret rfl (Nat.zero_le _) (Nat.zero_le _) ⟨reL (by rw [if_pos (And.intro hop (by show (bPs (mRedOf tl c) (tl 7).toNat).length ≤ 18; omega)), if_pos (by omega)]; show _ = ((mOds (odF X tl D c) (bPs (mRedOf tl c) (tl 7).toNat).length / Nat.gcd (mOds (odF X tl D c) (bPs (mRedOf tl c) (tl 7).toNat).length) (10 ^ (bPs (mRedOf tl c) (tl 7).toNat).length) : Nat) : Int); rw [← hil2, ← hup]; exact (Int.ofNat_tdiv _ _).symm), ⟨a0, ⟨_, _, hMv, hRv, hFv, hBv⟩, hTE, hRg⟩⟩
            · skip
              refine M.run 4 (pc' := 119) (lv' := [some (vr o), some (vi ((c : Nat) : Int)), some (vi z), some (vi ((mRedOf tl c : Nat) : Int)), some (vi (((bPs (mRedOf tl c) (tl 7).toNat).length : Nat) : Int)), some (vl ((up : Nat) : Int)), none, some (vl ((10 ^ i : Nat) : Int)), none, some (vi ((i : Nat) : Int))]) (st' := [vl ((10 ^ i : Nat) : Int), vl ((up : Nat) : Int), vl ((10 ^ i : Nat) : Int)]) rfl ?_
              refine M.callS (kX11_divisor l G up (10 ^ i) (by omega) (by omega)) cs_X11_465 cd_X11_divisor rfl (st := [vl ((10 ^ i : Nat) : Int)]) rfl (by decide) (by decide) rfl (Nat.zero_le _) (Nat.zero_le _) trivial (fun r17 w18 q19 => ?_)
              rw [q19.1, q19.2]
              refine M.ldiv rfl (qL (by omega)) (qL (by omega)) (by omega) ?_
              exact M.lret rfl (Nat.zero_le _) (Nat.zero_le _) ⟨reL (by rw [if_pos (And.intro hop (by show (bPs (mRedOf tl c) (tl 7).toNat).length ≤ 18; omega)), if_neg (by omega)]; show _ = ((10 ^ (bPs (mRedOf tl c) (tl 7).toNat).length / Nat.gcd (mOds (odF X tl D c) (bPs (mRedOf tl c) (tl 7).toNat).length) (10 ^ (bPs (mRedOf tl c) (tl 7).toNat).length) : Nat) : Int); rw [← hil2, ← hup]; exact (Int.ofNat_tdiv _ _).symm), ⟨a0, ⟨_, _, hMv, hRv, hFv, hBv⟩, hTE, hRg⟩⟩
          · skip
            have hq := hps _ (gP_mem (L := (bPs (mRedOf tl c) (tl 7).toNat)) (i := i) (by omega))
            have hb0 := bEg_0 (L := (bPs (mRedOf tl c) (tl 7).toNat)) (i := i) (by omega)
            have hb1 := bEg_1 (L := (bPs (mRedOf tl c) (tl 7).toNat)) (i := i) (by omega)
            have hp1 := p18 (k := i + 1) (by omega)
            have hp2 : 10 ^ (i + 1) = 10 ^ i * 10 := Nat.pow_succ ..
            refine M.run 4 (pc' := 58) (lv' := [some (vr o), some (vi ((c : Nat) : Int)), some (vi z), some (vi ((mRedOf tl c : Nat) : Int)), some (vi (((bPs (mRedOf tl c) (tl 7).toNat).length : Nat) : Int)), some (vl ((up : Nat) : Int)), none, some (vl ((10 ^ i : Nat) : Int)), none, some (vi ((i : Nat) : Int))]) (st' := [vr o, vr o, vi 10, vl ((up : Nat) : Int)]) rfl ?_
            refine M.get fl_X11_7 rfl (isM_o hMv) (kf := 0) (v := vr (am 0)) rfl ?_
            refine M.run 1 (pc' := 62) (lv' := [some (vr o), some (vi ((c : Nat) : Int)), some (vi z), some (vi ((mRedOf tl c : Nat) : Int)), some (vi (((bPs (mRedOf tl c) (tl 7).toNat).length : Nat) : Int)), some (vl ((up : Nat) : Int)), none, some (vl ((10 ^ i : Nat) : Int)), none, some (vi ((i : Nat) : Int))]) (st' := [vi 2, vr (am 0), vr o, vi 10, vl ((up : Nat) : Int)]) rfl ?_
            refine M.ialdN (2) rfl (isM_a hMv) (by decide) (by decide) ?_
            rw [show av 2 = tl 2 from (hFv 2 (Or.inl (by decide))).trans (hTE.1 2 (by decide) (by decide) (by decide))]
            refine M.run 6 (pc' := 70) (lv' := [some (vr o), some (vi ((c : Nat) : Int)), some (vi z), some (vi ((mRedOf tl c : Nat) : Int)), some (vi (((bPs (mRedOf tl c) (tl 7).toNat).length : Nat) : Int)), some (vl ((up : Nat) : Int)), none, some (vl ((10 ^ i : Nat) : Int)), none, some (vi ((i : Nat) : Int))]) (st' := [vi 1, vi ((i : Nat) : Int), vi ((mRedOf tl c : Nat) : Int), vr o, vi ((c : Nat) : Int), vi 0, vi (tl 2), vr o, vi 10, vl ((up : Nat) : Int)]) rfl ?_
            refine M.callV (kX11_pieceOf l G o am u av bv (mRedOf tl c) (by omega) i (by rw [hFv 7 (Or.inl (by decide)), hTE.1 7 (by decide) (by decide) (by decide)]; omega) 1 (by omega) (Mok_of ht hd (by omega) hRv hFv)) cv_X11_310 cd_X11_pieceOf rfl (st := [vi ((c : Nat) : Int), vi 0, vi (tl 2), vr o, vi 10, vl ((up : Nat) : Int)]) rfl (isM_o hMv) (by decide) (by decide) rfl (Nat.zero_le _) (Nat.zero_le _) hMv (fun r21 w22 q23 => ?_)
            rw [q23.1, q23.2]
            rw [show av 7 = tl 7 from (hFv 7 (Or.inl (by decide))).trans (hTE.1 7 (by decide) (by decide) (by decide))]
            rw [show bEg (bPs (mRedOf tl c) (tl 7).toNat) i 1 = (((gP (bPs (mRedOf tl c) (tl 7).toNat) i).2 : Nat) : Int) from hb1]
            refine M.run 4 (pc' := 78) (lv' := [some (vr o), some (vi ((c : Nat) : Int)), some (vi z), some (vi ((mRedOf tl c : Nat) : Int)), some (vi (((bPs (mRedOf tl c) (tl 7).toNat).length : Nat) : Int)), some (vl ((up : Nat) : Int)), none, some (vl ((10 ^ i : Nat) : Int)), none, some (vi ((i : Nat) : Int))]) (st' := [vi 0, vi ((i : Nat) : Int), vi ((mRedOf tl c : Nat) : Int), vr o, vi (((gP (bPs (mRedOf tl c) (tl 7).toNat) i).2 : Nat) : Int), vi ((c : Nat) : Int), vi 0, vi (tl 2), vr o, vi 10, vl ((up : Nat) : Int)]) rfl ?_
            refine M.callV (kX11_pieceOf l G o am u av bv (mRedOf tl c) (by omega) i (by rw [hFv 7 (Or.inl (by decide)), hTE.1 7 (by decide) (by decide) (by decide)]; omega) 0 (by omega) (Mok_of ht hd (by omega) hRv hFv)) cv_X11_310 cd_X11_pieceOf rfl (st := [vi (((gP (bPs (mRedOf tl c) (tl 7).toNat) i).2 : Nat) : Int), vi ((c : Nat) : Int), vi 0, vi (tl 2), vr o, vi 10, vl ((up : Nat) : Int)]) rfl (isM_o hMv) (by decide) (by decide) rfl (Nat.zero_le _) (Nat.zero_le _) hMv (fun r25 w26 q27 => ?_)
            rw [q27.1, q27.2]
            rw [show av 7 = tl 7 from (hFv 7 (Or.inl (by decide))).trans (hTE.1 7 (by decide) (by decide) (by decide))]
            rw [show bEg (bPs (mRedOf tl c) (tl 7).toNat) i 0 = (((gP (bPs (mRedOf tl c) (tl 7).toNat) i).1 : Nat) : Int) from hb0]
            refine M.run 1 (pc' := 82) (lv' := [some (vr o), some (vi ((c : Nat) : Int)), some (vi z), some (vi ((mRedOf tl c : Nat) : Int)), some (vi (((bPs (mRedOf tl c) (tl 7).toNat).length : Nat) : Int)), some (vl ((up : Nat) : Int)), none, some (vl ((10 ^ i : Nat) : Int)), none, some (vi ((i : Nat) : Int))]) (st' := [vi ((((gP (bPs (mRedOf tl c) (tl 7).toNat) i).2 : Nat) : Int) - (((gP (bPs (mRedOf tl c) (tl 7).toNat) i).1 : Nat) : Int)), vi ((c : Nat) : Int), vi 0, vi (tl 2), vr o, vi 10, vl ((up : Nat) : Int)]) rfl ?_
            refine M.callV (eX11_losesBy l G o am u a0 b0 D _ ht hd (by omega) (tl 2) 0 ((c : Nat) : Int) ((((gP (bPs (mRedOf tl c) (tl 7).toNat) i).2 : Nat) : Int) - (((gP (bPs (mRedOf tl c) (tl 7).toNat) i).1 : Nat) : Int)) (by rw [hTE.1 1 (by decide) (by decide) (by decide)]; omega) (by omega) (by omega) X (hXof hTE hX).1) cv_X11_368 cd_X11_losesBy rfl (st := [vi 10, vl ((up : Nat) : Int)]) rfl (isM_o hMv) (by decide) (by decide) rfl (Nat.zero_le _) (Nat.zero_le _) ⟨_, _, hMv, hRv, hFv, hBv⟩ (fun r30 w31 q32 => ?_)
            obtain ⟨q32r, a29, b29, hM29, hR29, hF29, hB29⟩ := q32
            rw [q32r, c_loss hTE hT]
            have hlb29 := mLossA_b (X := X) (a := stA tl D) (z := (tl 2)) (kind := 0) (c := ((c : Nat) : Int)) (x := ((((gP (bPs (mRedOf tl c) (tl 7).toNat) i).2 : Nat) : Int) - (((gP (bPs (mRedOf tl c) (tl 7).toNat) i).1 : Nat) : Int)))
            refine M.run 1 (pc' := 86) (lv' := [some (vr o), some (vi ((c : Nat) : Int)), some (vi z), some (vi ((mRedOf tl c : Nat) : Int)), some (vi (((bPs (mRedOf tl c) (tl 7).toNat).length : Nat) : Int)), some (vl ((up : Nat) : Int)), none, some (vl ((10 ^ i : Nat) : Int)), none, some (vi ((i : Nat) : Int))]) (st' := [vi (10 - (mLossA X (stA tl D) (tl 2) 0 ((c : Nat) : Int) ((((gP (bPs (mRedOf tl c) (tl 7).toNat) i).2 : Nat) : Int) - (((gP (bPs (mRedOf tl c) (tl 7).toNat) i).1 : Nat) : Int)))), vl ((up : Nat) : Int)]) rfl ?_
            rw [show 10 - (mLossA X (stA tl D) (tl 2) 0 ((c : Nat) : Int) ((((gP (bPs (mRedOf tl c) (tl 7).toNat) i).2 : Nat) : Int) - (((gP (bPs (mRedOf tl c) (tl 7).toNat) i).1 : Nat) : Int))) = ((odF X tl D c i : Nat) : Int) from (by unfold odF; exact (Int.toNat_of_nonneg (by omega)).symm)]
            have hod : odF X tl D c i ≤ 10 := by unfold odF; omega
            refine M.i2l rfl (qI (by omega)) ?_
            refine M.run 3 (pc' := 92) (lv' := [some (vr o), some (vi ((c : Nat) : Int)), some (vi z), some (vi ((mRedOf tl c : Nat) : Int)), some (vi (((bPs (mRedOf tl c) (tl 7).toNat).length : Nat) : Int)), some (vl (((up : Nat) : Int) * ((odF X tl D c i : Nat) : Int))), none, some (vl ((10 ^ i : Nat) : Int)), none, some (vi ((i : Nat) : Int))]) (st' := [vl ((10 ^ i : Nat) : Int)]) rfl ?_
            refine M.ldc2 (x := 10) kl_X11_463 rfl rfl ?_
            refine M.run 1 (pc' := 96) (lv' := [some (vr o), some (vi ((c : Nat) : Int)), some (vi z), some (vi ((mRedOf tl c : Nat) : Int)), some (vi (((bPs (mRedOf tl c) (tl 7).toNat).length : Nat) : Int)), some (vl (((up : Nat) : Int) * ((odF X tl D c i : Nat) : Int))), none, some (vl ((10 ^ i : Nat) : Int)), none, some (vi ((i : Nat) : Int))]) (st' := [vl (((10 ^ i : Nat) : Int) * 10)]) rfl ?_
            rw [show ((10 ^ i : Nat) : Int) * 10 = ((10 ^ (i + 1) : Nat) : Int) from by rw [Nat.pow_succ]; rfl]
            refine M.run 3 (pc' := 45) (lv' := [some (vr o), some (vi ((c : Nat) : Int)), some (vi z), some (vi ((mRedOf tl c : Nat) : Int)), some (vi (((bPs (mRedOf tl c) (tl 7).toNat).length : Nat) : Int)), some (vl (((up : Nat) : Int) * ((odF X tl D c i : Nat) : Int))), none, some (vl ((10 ^ (i + 1) : Nat) : Int)), none, some (vi (((i : Nat) : Int) + 1))]) (st' := []) rfl ?_
            exact ih45 (up * (odF X tl D c i)) (i + 1) a29 b29 w31 hM29 hR29 hF29 hB29 (by rw [hup]; rfl) (by rw [hp2]; exact Nat.mul_le_mul hub hod) (by omega) (by omega)
      exact Lp45 _ 1 0 a b w hM hR hF hB rfl (Nat.le_refl _) (Nat.zero_le _) (Nat.lt_succ_self _)
    · skip
      refine M.ldc2 (x := (-1)) kl_X11_461 rfl rfl ?_
      exact M.lret rfl (Nat.zero_le _) (Nat.zero_le _) ⟨reL (if_neg (fun q => absurd q.2 (by show ¬ (bPs (mRedOf tl c) (tl 7).toNat).length ≤ 18; omega))).symm, ⟨a0, ⟨_, _, hM, hR, hF, hB⟩, hTE, hRg⟩⟩
  · skip
    replace h5 := zb_fd h5
    refine M.ldc2 (x := (-1)) kl_X11_461 rfl rfl ?_
    exact M.lret rfl (Nat.zero_le _) (Nat.zero_le _) ⟨reL (if_neg (fun q => h5 q.1)).symm, ⟨a0, ⟨_, _, hM, hR, hF, hB⟩, hTE, hRg⟩⟩
