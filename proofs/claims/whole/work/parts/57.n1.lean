theorem qL_ofF (l : Launch) (G : GT) (hb : Nat) (A T : Nat → Nat) (tl fx : Nat → Int) (X : Nat → Int → Option Gn) (cl : Nat → Int) (dr : Int) (D : Dy) (s : Nat) (hs : s < 2) (i : Nat) (hi : i < (D.2.1 s).length) (v kind lo up : Int) (hv : inI v) (hkd : inI kind) (hlo : inI lo) (hup : inI up) (hr : ∀ k : Nat, k < 3 → -2147483648 ≤ gR (D.2.1 s) i k ∧ gR (D.2.1 s) i k ≤ 2147483647) : Ctr l G yX4_isOf cX4_isOf 9 ((Option.some Jvm.ClassFile.FieldType.boolean)) 1 0 0 [vr (A (3 + 2 * s)), vi ((i : Nat) : Int), vi v, vi kind, vi lo, vi up] (fun w => isEn G hb A T tl fx X cl dr D w) (fun w r w' => r = some (vi (zb (pF v kind lo up (gR (D.2.1 s) i)))) ∧ w' = w) := Ctr.mono (qL_of l G hb A T tl fx X cl dr D s hs i hi v kind lo up hv hkd hlo hup hr) (fun _ h => h) (fun _ _ _ _ q => q)
theorem qT_ofF (l : Launch) (G : GT) (hb : Nat) (A T : Nat → Nat) (tl fx : Nat → Int) (X : Nat → Int → Option Gn) (cl : Nat → Int) (dr : Int) (D : Dy) (i : Nat) (hi : i < D.2.2.2.1.length) (v kind lo up : Int) (hv : inI v) (hkd : inI kind) (hlo : inI lo) (hup : inI up) (hr : ∀ k : Nat, k < 3 → -2147483648 ≤ gR D.2.2.2.1 i k ∧ gR D.2.2.2.1 i k ≤ 2147483647) : Ctr l G yX4_isOf cX4_isOf 9 ((Option.some Jvm.ClassFile.FieldType.boolean)) 1 0 0 [vr (A 9), vi ((i : Nat) : Int), vi v, vi kind, vi lo, vi up] (fun w => isEn G hb A T tl fx X cl dr D w) (fun w r w' => r = some (vi (zb (pF v kind lo up (gR D.2.2.2.1 i)))) ∧ w' = w) := Ctr.mono (qT_of l G hb A T tl fx X cl dr D i hi v kind lo up hv hkd hlo hup hr) (fun _ h => h) (fun _ _ _ _ q => q)
theorem rowOk_3 {n : Int} {r : Rw} (h : rowOk n r) (hn : n ≤ 2000000000) : ∀ k : Nat, k < 3 → -2147483648 ≤ r k ∧ r k ≤ 2147483647 := fun k hk => by
  obtain ⟨h0, h1, h2, h3⟩ := h
  match k, hk with
  | 0, _ => omega
  | 1, _ => omega
  | 2, _ => omega
  | n + 3, h => exact absurd h (by omega)
theorem dLn_gR {s : Nat} {p : Rw → Bool} {j : Nat} {D : Dy} (h0 : 0 < j) (hj : j ≤ (D.2.1 s).length) : gR ((dLn s p j D).2.1 s) (j - 1) = gR (D.2.1 s) (j - 1) := by rw [dLn_at]; exact mDl_row h0 hj
theorem dTm_gR {q : Rw → Bool} {j : Nat} {D : Dy} (h0 : 0 < j) (hj : j ≤ D.2.2.2.1.length) : gR (dTm q j D).2.2.2.1 (j - 1) = gR D.2.2.2.1 (j - 1) := mDl_row h0 hj
theorem dTm_len {q : Rw → Bool} {j : Nat} {D : Dy} (hj : j ≤ D.2.2.2.1.length) : j ≤ (dTm q j D).2.2.2.1.length := mDl_len hj
theorem cPc_more {b : Nat} {rel : Bool} {p : Nat × Nat} {L : List (Nat × Nat)} {D : Dy} (h : ¬ L = []) : cPc rel b (p :: L) D = cPc rel b L (mPut 0 (rwM 0 b 0 p.1 p.2 0 0) D) := by
  cases L with
  | nil => exact absurd rfl h
  | cons q t => rfl
theorem cPc_0 {b : Nat} {p : Nat × Nat} {L : List (Nat × Nat)} {D : Dy} : cPc false b (p :: L) D = cPc false b L (mPut 0 (rwM 0 b 0 p.1 p.2 0 0) D) := by
  cases L with
  | nil => rfl
  | cons q t => rfl

set_option maxHeartbeats 4000000 in
set_option maxRecDepth 100000 in
theorem nX1_forget (l : Launch) (G : GT) (hb : Nat) (A T : Nat → Nat) (tl fx : Nat → Int) (X : Nat → Int → Option Gn) (cl : Nat → Int) (dr : Int) (D : Dy) (hT : Tok tl) (n : Int) (hd : Dok n D) (hn : n ≤ 2000000000) (hJ : Jok D) (s : Nat) (hs : s < 2) (c kd lo up : Int) (hc : 0 ≤ c ∧ c ≤ 1000) (hkd : -1 ≤ kd ∧ kd ≤ 1000) (hlo : 0 ≤ lo ∧ lo ≤ 2147483647) (hup : 0 ≤ up ∧ up ≤ 2147483647) : Ctr l G yX1_forget cX1_forget 9 ((Option.none : Option Jvm.ClassFile.FieldType)) 2 0 0 [vr (A 13), vi ((s : Nat) : Int), vi c, vi kd, vi lo, vi up] (fun w => isEn G hb A T tl fx X cl dr D w) (fun w r w' => r = none ∧ isEn G hb A T tl fx X cl dr (mDrop s (pF c kd lo up) D) w' ∧ FrE A w w') := by
  refine Ctr.of (t := tX1_forget) (lv0 := [some (vr (A 13)), some (vi ((s : Nat) : Int)), some (vi c), some (vi kd), some (vi lo), some (vi up), none, none, none]) (by decide +kernel) tX1_forget_ok rfl rfl (fun w g hP M => ?_)
  have hl := Dok_l hd hs
  have ht := Dok_t hd
  refine M.run 1 (pc' := 1) (lv' := [some (vr (A 13)), some (vi ((s : Nat) : Int)), some (vi c), some (vi kd), some (vi lo), some (vi up), none, none, none]) (st' := [vr (A 13)]) rfl ?_
  refine M.get fl_X1_15 rfl hP.2.2.1 (kf := 1) (v := vr (A 0)) rfl ?_
  refine M.run 1 (pc' := 5) (lv' := [some (vr (A 13)), some (vi ((s : Nat) : Int)), some (vi c), some (vi kd), some (vi lo), some (vi up), none, none, none]) (st' := [vi ((s : Nat) : Int), vr (A 0)]) rfl ?_
  refine M.callV (qS_line l G hb A T tl fx X cl dr D s (by omega)) cv_X1_32 cd_X6_line rfl (st := []) rfl hP.1.1 (by decide) (by decide) rfl (Nat.zero_le _) (Nat.zero_le _) hP (fun r1 w2 q3 => ?_)
  rw [q3.1, q3.2]
  refine M.run 2 (pc' := 12) (lv' := [some (vr (A 13)), some (vi ((s : Nat) : Int)), some (vi c), some (vi kd), some (vi lo), some (vi up), some (vr (A (3 + 2 * s))), none, none]) (st' := [vr (A (3 + 2 * s))]) rfl ?_
  refine M.get fl_X1_38 rfl (iS_l hP.1 (s := s) (by omega)).1 (kf := 2) (v := vi (((D.2.1 s).length : Nat) : Int)) rfl ?_
  refine M.run 3 (pc' := 19) (lv' := [some (vr (A 13)), some (vi ((s : Nat) : Int)), some (vi c), some (vi kd), some (vi lo), some (vi up), some (vr (A (3 + 2 * s))), some (vi ((((D.2.1 s).length : Nat) : Int) - 1)), none]) (st' := []) rfl ?_
  have Lp19 : ∀ (N : Nat) (j : Nat) (wa : Wo), (isEn G hb A T tl fx X cl dr (dLn s (pF c kd lo up) j D) wa) → (FrE A w wa) → (j ≤ (D.2.1 s).length) → j < N → g 0 0 wa 19 [some (vr (A 13)), some (vi ((s : Nat) : Int)), some (vi c), some (vi kd), some (vi lo), some (vi up), some (vr (A (3 + 2 * s))), some (vi (((j : Nat) : Int) - 1)), none] [] := by
    intro N
    induction N with
    | zero => intro j wa _ _ _ hN; exact absurd hN (Nat.not_lt_zero _)
    | succ N ih19 =>
      intro j wa hEa hFa hj hN
      refine M.run 1 (pc' := 21) (lv' := [some (vr (A 13)), some (vi ((s : Nat) : Int)), some (vi c), some (vi kd), some (vi lo), some (vi up), some (vr (A (3 + 2 * s))), some (vi (((j : Nat) : Int) - 1)), none]) (st' := [vi (((j : Nat) : Int) - 1)]) rfl ?_
      refine M.if_lt (tgt := 53) rfl (qI (by omega)) (by decide) (fun h21 => ?_) (fun h21 => ?_)
      · skip
        have hj0 : j = 0 := by omega
        have hE0 : isEn G hb A T tl fx X cl dr (dLn s (pF c kd lo up) 0 D) wa := by rw [hj0] at hEa; exact hEa
        refine M.run 1 (pc' := 54) (lv' := [some (vr (A 13)), some (vi ((s : Nat) : Int)), some (vi c), some (vi kd), some (vi lo), some (vi up), some (vr (A (3 + 2 * s))), some (vi (((j : Nat) : Int) - 1)), none]) (st' := [vr (A 13)]) rfl ?_
        refine M.get fl_X1_15 rfl hE0.2.2.1 (kf := 1) (v := vr (A 0)) rfl ?_
        refine M.get fl_X1_145 rfl hE0.1.1 (kf := 9) (v := vr (A 9)) rfl ?_
        refine M.run 2 (pc' := 64) (lv' := [some (vr (A 13)), some (vi ((s : Nat) : Int)), some (vi c), some (vi kd), some (vi lo), some (vi up), some (vr (A (3 + 2 * s))), some (vr (A 9)), none]) (st' := [vr (A 9)]) rfl ?_
        refine M.get fl_X1_38 rfl (iS_t hE0.1).1 (kf := 2) (v := vi (((dLn s (pF c kd lo up) 0 D).2.2.2.1.length : Nat) : Int)) rfl ?_
        refine M.run 3 (pc' := 71) (lv' := [some (vr (A 13)), some (vi ((s : Nat) : Int)), some (vi c), some (vi kd), some (vi lo), some (vi up), some (vr (A (3 + 2 * s))), some (vr (A 9)), some (vi ((((dLn s (pF c kd lo up) 0 D).2.2.2.1.length : Nat) : Int) - 1))]) (st' := []) rfl ?_
        have Lp71 : ∀ (N : Nat) (j : Nat) (wb : Wo), (isEn G hb A T tl fx X cl dr (dTm (pTm s (pF c kd lo up)) j (dLn s (pF c kd lo up) 0 D)) wb) → (FrE A w wb) → (j ≤ D.2.2.2.1.length) → j < N → g 0 0 wb 71 [some (vr (A 13)), some (vi ((s : Nat) : Int)), some (vi c), some (vi kd), some (vi lo), some (vi up), some (vr (A (3 + 2 * s))), some (vr (A 9)), some (vi (((j : Nat) : Int) - 1))] [] := by
          intro N
          induction N with
          | zero => intro j wb _ _ _ hN; exact absurd hN (Nat.not_lt_zero _)
          | succ N ih71 =>
            intro j wb hEb hFb hj hN
            refine M.run 1 (pc' := 73) (lv' := [some (vr (A 13)), some (vi ((s : Nat) : Int)), some (vi c), some (vi kd), some (vi lo), some (vi up), some (vr (A (3 + 2 * s))), some (vr (A 9)), some (vi (((j : Nat) : Int) - 1))]) (st' := [vi (((j : Nat) : Int) - 1)]) rfl ?_
            refine M.if_lt (tgt := 118) rfl (qI (by omega)) (by decide) (fun h73 => ?_) (fun h73 => ?_)
            · skip
              exact M.vret rfl (Nat.zero_le _) (Nat.zero_le _) ⟨rfl, (by rw [show j = 0 by omega] at hEb; exact hEb), hFb⟩
            · skip
              rw [show ((j : Nat) : Int) - 1 = ((j - 1 : Nat) : Int) from by omega]
              refine M.run 3 (pc' := 82) (lv' := [some (vr (A 13)), some (vi ((s : Nat) : Int)), some (vi c), some (vi kd), some (vi lo), some (vi up), some (vr (A (3 + 2 * s))), some (vr (A 9)), some (vi ((j - 1 : Nat) : Int))]) (st' := [vi 8, vi ((j - 1 : Nat) : Int), vr (A 9)]) rfl ?_
              refine M.callV (qT_get l G hb A T tl fx X cl dr (dTm (pTm s (pF c kd lo up)) j (dLn s (pF c kd lo up) 0 D)) (j - 1) 8 (by have := dTm_len (q := pTm s (pF c kd lo up)) (D := (dLn s (pF c kd lo up) 0 D)) hj; omega) (by decide)) cv_X1_88 cd_X4_get rfl (st := []) rfl (iS_t hEb.1).1 (by decide) (by decide) rfl (Nat.zero_le _) (Nat.zero_le _) hEb (fun r5 w6 q7 => ?_)
              rw [q7.1, q7.2]
              rw [show gR (dTm (pTm s (pF c kd lo up)) j (dLn s (pF c kd lo up) 0 D)).2.2.2.1 (j - 1) = gR D.2.2.2.1 (j - 1) from dTm_gR (by omega) hj]
              have hr8 := (Dok_tr hd (i := j - 1) (by omega)).2.2.2.2.2.2.2.2.2
              refine M.run 1 (pc' := 86) (lv' := [some (vr (A 13)), some (vi ((s : Nat) : Int)), some (vi c), some (vi kd), some (vi lo), some (vi up), some (vr (A (3 + 2 * s))), some (vr (A 9)), some (vi ((j - 1 : Nat) : Int))]) (st' := [vi ((s : Nat) : Int), vi (gR D.2.2.2.1 (j - 1) 8)]) rfl ?_
              refine M.icmp_ne (tgt := 112) rfl (qI (by omega)) (qI (by omega)) (by decide) (fun h86 => ?_) (fun h86 => ?_)
              · skip
                have hq : pTm s (pF c kd lo up) (gR D.2.2.2.1 (j - 1)) = false := by unfold pTm; rw [decide_eq_false h86]; rfl
                have hE9 : isEn G hb A T tl fx X cl dr (dTm (pTm s (pF c kd lo up)) (j - 1) (dLn s (pF c kd lo up) 0 D)) wb := by rw [← dTm_keep (D := (dLn s (pF c kd lo up) 0 D)) (by omega) hj hq]; exact hEb
                refine M.run 1 (pc' := 115) (lv' := [some (vr (A 13)), some (vi ((s : Nat) : Int)), some (vi c), some (vi kd), some (vi lo), some (vi up), some (vr (A (3 + 2 * s))), some (vr (A 9)), some (vi (((j - 1 : Nat) : Int) + (-1)))]) (st' := []) rfl ?_
                rw [show ((j - 1 : Nat) : Int) + (-1) = ((j - 1 : Nat) : Int) - 1 from rfl]
                refine M.run 1 (pc' := 71) (lv' := [some (vr (A 13)), some (vi ((s : Nat) : Int)), some (vi c), some (vi kd), some (vi lo), some (vi up), some (vr (A (3 + 2 * s))), some (vr (A 9)), some (vi (((j - 1 : Nat) : Int) - 1))]) (st' := []) rfl ?_
                exact ih71 (j - 1) wb hE9 hFb (by omega) (by omega)
              · skip
                refine M.run 6 (pc' := 99) (lv' := [some (vr (A 13)), some (vi ((s : Nat) : Int)), some (vi c), some (vi kd), some (vi lo), some (vi up), some (vr (A (3 + 2 * s))), some (vr (A 9)), some (vi ((j - 1 : Nat) : Int))]) (st' := [vi up, vi lo, vi kd, vi c, vi ((j - 1 : Nat) : Int), vr (A 9)]) rfl ?_
                refine M.callV (qT_ofF l G hb A T tl fx X cl dr (dTm (pTm s (pF c kd lo up)) j (dLn s (pF c kd lo up) 0 D)) (j - 1) (by have := dTm_len (q := pTm s (pF c kd lo up)) (D := (dLn s (pF c kd lo up) 0 D)) hj; omega) c kd lo up (qI (by omega)) (qI (by omega)) (qI (by omega)) (qI (by omega)) (by rw [dTm_gR (D := (dLn s (pF c kd lo up) 0 D)) (by omega) hj]; exact rowOk_3 (Dok_tr hd (by omega)) hn)) cv_X1_141 cd_X4_isOf rfl (st := []) rfl (iS_t hEb.1).1 (by decide) (by decide) rfl (Nat.zero_le _) (Nat.zero_le _) hEb (fun r10 w11 q12 => ?_)
                rw [q12.1, q12.2]
                rw [show gR (dTm (pTm s (pF c kd lo up)) j (dLn s (pF c kd lo up) 0 D)).2.2.2.1 (j - 1) = gR D.2.2.2.1 (j - 1) from dTm_gR (by omega) hj]
                refine M.if_eq (tgt := 112) rfl (inI_zb _) (by decide) (fun h102 => ?_) (fun h102 => ?_)
                · skip
                  replace h102 := zb_f0 h102
                  have hq : pTm s (pF c kd lo up) (gR D.2.2.2.1 (j - 1)) = false := by unfold pTm; rw [h102, Bool.and_false]
                  have hE14 : isEn G hb A T tl fx X cl dr (dTm (pTm s (pF c kd lo up)) (j - 1) (dLn s (pF c kd lo up) 0 D)) wb := by rw [← dTm_keep (D := (dLn s (pF c kd lo up) 0 D)) (by omega) hj hq]; exact hEb
                  refine M.run 1 (pc' := 115) (lv' := [some (vr (A 13)), some (vi ((s : Nat) : Int)), some (vi c), some (vi kd), some (vi lo), some (vi up), some (vr (A (3 + 2 * s))), some (vr (A 9)), some (vi (((j - 1 : Nat) : Int) + (-1)))]) (st' := []) rfl ?_
                  rw [show ((j - 1 : Nat) : Int) + (-1) = ((j - 1 : Nat) : Int) - 1 from rfl]
                  refine M.run 1 (pc' := 71) (lv' := [some (vr (A 13)), some (vi ((s : Nat) : Int)), some (vi c), some (vi kd), some (vi lo), some (vi up), some (vr (A (3 + 2 * s))), some (vr (A 9)), some (vi (((j - 1 : Nat) : Int) - 1))]) (st' := []) rfl ?_
                  exact ih71 (j - 1) wb hE14 hFb (by omega) (by omega)
                · skip
                  replace h102 := zb_t h102
                  have hq : pTm s (pF c kd lo up) (gR D.2.2.2.1 (j - 1)) = true := by unfold pTm; rw [decide_eq_true h86, h102]; rfl
                  refine M.run 2 (pc' := 109) (lv' := [some (vr (A 13)), some (vi ((s : Nat) : Int)), some (vi c), some (vi kd), some (vi lo), some (vi up), some (vr (A (3 + 2 * s))), some (vr (A 9)), some (vi ((j - 1 : Nat) : Int))]) (st' := [vi ((j - 1 : Nat) : Int), vr (A 9)]) rfl ?_
                  refine M.callV (qT_rem l G hb A T tl fx X cl dr (dTm (pTm s (pF c kd lo up)) j (dLn s (pF c kd lo up) 0 D)) (j - 1) (by have := dTm_len (q := pTm s (pF c kd lo up)) (D := (dLn s (pF c kd lo up) 0 D)) hj; omega)) cv_X1_106 cd_X4_remove rfl (st := []) rfl (iS_t hEb.1).1 (by decide) (by decide) rfl (Nat.zero_le _) (Nat.zero_le _) hEb (fun r16 w17 q18 => ?_)
                  obtain ⟨q18r, q18e, q18f⟩ := q18
                  rw [q18r]
                  have hE15 : isEn G hb A T tl fx X cl dr (dTm (pTm s (pF c kd lo up)) (j - 1) (dLn s (pF c kd lo up) 0 D)) w17 := by rw [← dTm_take (D := (dLn s (pF c kd lo up) 0 D)) (by omega) hj hq]; exact q18e
                  have hF15 : FrE A w w17 := FrE.tr hFb q18f
                  refine M.run 1 (pc' := 115) (lv' := [some (vr (A 13)), some (vi ((s : Nat) : Int)), some (vi c), some (vi kd), some (vi lo), some (vi up), some (vr (A (3 + 2 * s))), some (vr (A 9)), some (vi (((j - 1 : Nat) : Int) + (-1)))]) (st' := []) rfl ?_
                  rw [show ((j - 1 : Nat) : Int) + (-1) = ((j - 1 : Nat) : Int) - 1 from rfl]
                  refine M.run 1 (pc' := 71) (lv' := [some (vr (A 13)), some (vi ((s : Nat) : Int)), some (vi c), some (vi kd), some (vi lo), some (vi up), some (vr (A (3 + 2 * s))), some (vr (A 9)), some (vi (((j - 1 : Nat) : Int) - 1))]) (st' := []) rfl ?_
                  exact ih71 (j - 1) w17 hE15 hF15 (by omega) (by omega)
        exact Lp71 _ ((dLn s (pF c kd lo up) 0 D).2.2.2.1.length) wa (by rw [dTm_all]; exact hE0) hFa (Nat.le_refl _) (Nat.lt_succ_self _)
      · skip
        rw [show ((j : Nat) : Int) - 1 = ((j - 1 : Nat) : Int) from by omega]
        refine M.run 6 (pc' := 34) (lv' := [some (vr (A 13)), some (vi ((s : Nat) : Int)), some (vi c), some (vi kd), some (vi lo), some (vi up), some (vr (A (3 + 2 * s))), some (vi ((j - 1 : Nat) : Int)), none]) (st' := [vi up, vi lo, vi kd, vi c, vi ((j - 1 : Nat) : Int), vr (A (3 + 2 * s))]) rfl ?_
        refine M.callV (qL_ofF l G hb A T tl fx X cl dr (dLn s (pF c kd lo up) j D) s (by omega) (j - 1) (by have := dLn_len (p := pF c kd lo up) hj; omega) c kd lo up (qI (by omega)) (qI (by omega)) (qI (by omega)) (qI (by omega)) (by rw [dLn_gR (by omega) hj]; exact rowOk_3 (Dok_lr hd hs (by omega)) hn)) cv_X1_141 cd_X4_isOf rfl (st := []) rfl (iS_l hEa.1 (s := s) (by omega)).1 (by decide) (by decide) rfl (Nat.zero_le _) (Nat.zero_le _) hEa (fun r20 w21 q22 => ?_)
        rw [q22.1, q22.2]
        rw [dLn_gR (by omega) hj]
        refine M.if_eq (tgt := 47) rfl (inI_zb _) (by decide) (fun h37 => ?_) (fun h37 => ?_)
        · skip
          replace h37 := zb_f0 h37
          have hE24 : isEn G hb A T tl fx X cl dr (dLn s (pF c kd lo up) (j - 1) D) wa := by rw [← dLn_keep (by omega) hj h37]; exact hEa
          refine M.run 1 (pc' := 50) (lv' := [some (vr (A 13)), some (vi ((s : Nat) : Int)), some (vi c), some (vi kd), some (vi lo), some (vi up), some (vr (A (3 + 2 * s))), some (vi (((j - 1 : Nat) : Int) + (-1))), none]) (st' := []) rfl ?_
          rw [show ((j - 1 : Nat) : Int) + (-1) = ((j - 1 : Nat) : Int) - 1 from rfl]
          refine M.run 1 (pc' := 19) (lv' := [some (vr (A 13)), some (vi ((s : Nat) : Int)), some (vi c), some (vi kd), some (vi lo), some (vi up), some (vr (A (3 + 2 * s))), some (vi (((j - 1 : Nat) : Int) - 1)), none]) (st' := []) rfl ?_
          exact ih19 (j - 1) wa hE24 hFa (by omega) (by omega)
        · skip
          replace h37 := zb_t h37
          refine M.run 2 (pc' := 44) (lv' := [some (vr (A 13)), some (vi ((s : Nat) : Int)), some (vi c), some (vi kd), some (vi lo), some (vi up), some (vr (A (3 + 2 * s))), some (vi ((j - 1 : Nat) : Int)), none]) (st' := [vi ((j - 1 : Nat) : Int), vr (A (3 + 2 * s))]) rfl ?_
          refine M.callV (qL_rem l G hb A T tl fx X cl dr (dLn s (pF c kd lo up) j D) s (by omega) (j - 1) (by have := dLn_len (p := pF c kd lo up) hj; omega)) cv_X1_106 cd_X4_remove rfl (st := []) rfl (iS_l hEa.1 (s := s) (by omega)).1 (by decide) (by decide) rfl (Nat.zero_le _) (Nat.zero_le _) hEa (fun r26 w27 q28 => ?_)
          obtain ⟨q28r, q28e, q28f⟩ := q28
          rw [q28r]
          have hE25 : isEn G hb A T tl fx X cl dr (dLn s (pF c kd lo up) (j - 1) D) w27 := by rw [← dLn_take (by omega) hj h37]; exact q28e
          have hF25 : FrE A w w27 := FrE.tr hFa q28f
          refine M.run 1 (pc' := 50) (lv' := [some (vr (A 13)), some (vi ((s : Nat) : Int)), some (vi c), some (vi kd), some (vi lo), some (vi up), some (vr (A (3 + 2 * s))), some (vi (((j - 1 : Nat) : Int) + (-1))), none]) (st' := []) rfl ?_
          rw [show ((j - 1 : Nat) : Int) + (-1) = ((j - 1 : Nat) : Int) - 1 from rfl]
          refine M.run 1 (pc' := 19) (lv' := [some (vr (A 13)), some (vi ((s : Nat) : Int)), some (vi c), some (vi kd), some (vi lo), some (vi up), some (vr (A (3 + 2 * s))), some (vi (((j - 1 : Nat) : Int) - 1)), none]) (st' := []) rfl ?_
          exact ih19 (j - 1) w27 hE25 hF25 (by omega) (by omega)
  exact Lp19 _ ((D.2.1 s).length) w (by rw [dLn_all]; exact hP) (FrE.rf (A := A) (w := w)) (Nat.le_refl _) (Nat.lt_succ_self _)
set_option maxHeartbeats 4000000 in
set_option maxRecDepth 100000 in
theorem nX1_canCancel (l : Launch) (G : GT) (hb : Nat) (A T : Nat → Nat) (tl fx : Nat → Int) (X : Nat → Int → Option Gn) (cl : Nat → Int) (dr : Int) (D : Dy) (hT : Tok tl) (n : Int) (hd : Dok n D) (hn : n ≤ 2000000000) (hJ : Jok D) (c : Nat) (hc : c < 3) (s : Nat) (hs : s < 2) : Ctr l G yX1_canCancel cX1_canCancel 3 ((Option.some Jvm.ClassFile.FieldType.boolean)) 2 0 0 [vr (A 13), vi ((c : Nat) : Int), vi ((s : Nat) : Int)] (fun w => isEn G hb A T tl fx X cl dr D w) (fun w r w' => r = some (vi (zb (decide (mCan c s D)))) ∧ w' = w) := by
  refine Ctr.of (t := tX1_canCancel) (lv0 := [some (vr (A 13)), some (vi ((c : Nat) : Int)), some (vi ((s : Nat) : Int))]) (by decide +kernel) tX1_canCancel_ok rfl rfl (fun w g hP M => ?_)
  have h28 := Dok_how hd (x := c) (by omega)
  have h31 : 0 ≤ D.1 (31 + c) ∧ D.1 (31 + c) ≤ 3 := by have q := Dok_how hd (x := 3 + c) (by omega); rwa [show 28 + (3 + c) = 31 + c by omega] at q
  have hm := mCan_J (s := s) hJ hc
  refine M.run 1 (pc' := 1) (lv' := [some (vr (A 13)), some (vi ((c : Nat) : Int)), some (vi ((s : Nat) : Int))]) (st' := [vr (A 13)]) rfl ?_
  refine M.get fl_X1_15 rfl hP.2.2.1 (kf := 1) (v := vr (A 0)) rfl ?_
  refine M.get fl_X1_50 rfl hP.1.1 (kf := 5) (v := vr (A 1)) rfl ?_
  refine M.run 2 (pc' := 9) (lv' := [some (vr (A 13)), some (vi ((c : Nat) : Int)), some (vi ((s : Nat) : Int))]) (st' := [vi 0, vi ((c : Nat) : Int), vr (A 1)]) rfl ?_
  refine M.callV (qB_get l G hb A T tl fx X cl dr D c 0 (by omega) (by decide)) cv_X1_88 cd_X4_get rfl (st := []) rfl (iS_b hP.1).1 (by decide) (by decide) rfl (Nat.zero_le _) (Nat.zero_le _) hP (fun r1 w2 q3 => ?_)
  rw [q3.1, q3.2]
  rw [show D.1 (28 + 3 * 0 + c) = D.1 (28 + c) from rfl]
  refine M.run 1 (pc' := 13) (lv' := [some (vr (A 13)), some (vi ((c : Nat) : Int)), some (vi ((s : Nat) : Int))]) (st' := [vi 1, vi (D.1 (28 + c))]) rfl ?_
  refine M.icmp_eq (tgt := 18) rfl (qI (by omega)) (qI (by decide)) (by decide) (fun h13 => ?_) (fun h13 => ?_)
  · skip
    refine M.run 1 (pc' := 19) (lv' := [some (vr (A 13)), some (vi ((c : Nat) : Int)), some (vi ((s : Nat) : Int))]) (st' := [vi ((s : Nat) : Int)]) rfl ?_
    refine M.if_eq (tgt := 38) rfl (qI (by omega)) (by decide) (fun h19 => ?_) (fun h19 => ?_)
    · skip
      refine M.run 2 (pc' := 43) (lv' := [some (vr (A 13)), some (vi ((c : Nat) : Int)), some (vi ((s : Nat) : Int))]) (st' := [vi 1]) rfl ?_
      exact M.zret rfl (Or.inr rfl) (Nat.zero_le _) (Nat.zero_le _) ⟨reI (by rw [decide_eq_true (hm.mpr ⟨h13, by omega⟩)]; rfl), rfl⟩
    · skip
      refine M.run 1 (pc' := 23) (lv' := [some (vr (A 13)), some (vi ((c : Nat) : Int)), some (vi ((s : Nat) : Int))]) (st' := [vr (A 13)]) rfl ?_
      refine M.get fl_X1_15 rfl hP.2.2.1 (kf := 1) (v := vr (A 0)) rfl ?_
      refine M.get fl_X1_50 rfl hP.1.1 (kf := 5) (v := vr (A 1)) rfl ?_
      refine M.run 2 (pc' := 31) (lv' := [some (vr (A 13)), some (vi ((c : Nat) : Int)), some (vi ((s : Nat) : Int))]) (st' := [vi 1, vi ((c : Nat) : Int), vr (A 1)]) rfl ?_
      refine M.callV (qB_get l G hb A T tl fx X cl dr D c 1 (by omega) (by decide)) cv_X1_88 cd_X4_get rfl (st := []) rfl (iS_b hP.1).1 (by decide) (by decide) rfl (Nat.zero_le _) (Nat.zero_le _) hP (fun r5 w6 q7 => ?_)
      rw [q7.1, q7.2]
      rw [show D.1 (28 + 3 * 1 + c) = D.1 (31 + c) from rfl]
      refine M.run 1 (pc' := 35) (lv' := [some (vr (A 13)), some (vi ((c : Nat) : Int)), some (vi ((s : Nat) : Int))]) (st' := [vi 3, vi (D.1 (31 + c))]) rfl ?_
      refine M.icmp_eq (tgt := 42) rfl (qI (by omega)) (qI (by decide)) (by decide) (fun h35 => ?_) (fun h35 => ?_)
      · skip
        refine M.run 1 (pc' := 43) (lv' := [some (vr (A 13)), some (vi ((c : Nat) : Int)), some (vi ((s : Nat) : Int))]) (st' := [vi 0]) rfl ?_
        exact M.zret rfl (Or.inl rfl) (Nat.zero_le _) (Nat.zero_le _) ⟨reI (by rw [decide_eq_false (fun q => (hm.mp q).2.elim (fun z => h19 (by omega)) (fun z => z h35))]; rfl), rfl⟩
      · skip
        refine M.run 2 (pc' := 43) (lv' := [some (vr (A 13)), some (vi ((c : Nat) : Int)), some (vi ((s : Nat) : Int))]) (st' := [vi 1]) rfl ?_
        exact M.zret rfl (Or.inr rfl) (Nat.zero_le _) (Nat.zero_le _) ⟨reI (by rw [decide_eq_true (hm.mpr ⟨h13, by omega⟩)]; rfl), rfl⟩
  · skip
    refine M.run 1 (pc' := 17) (lv' := [some (vr (A 13)), some (vi ((c : Nat) : Int)), some (vi ((s : Nat) : Int))]) (st' := [vi 0]) rfl ?_
    exact M.zret rfl (Or.inl rfl) (Nat.zero_le _) (Nat.zero_le _) ⟨reI (by rw [decide_eq_false (fun q => h13 q.1)]; rfl), rfl⟩
set_option maxHeartbeats 4000000 in
set_option maxRecDepth 100000 in
theorem nX1_finish (l : Launch) (G : GT) (hb : Nat) (A T : Nat → Nat) (tl fx : Nat → Int) (X : Nat → Int → Option Gn) (cl : Nat → Int) (dr : Int) (D : Dy) (hT : Tok tl) (n : Int) (hd : Dok n D) (hn : n ≤ 2000000000) (hJ : Jok D) (c : Nat) (hc : c < 3)  : Ctr l G yX1_finish cX1_finish 2 ((Option.none : Option Jvm.ClassFile.FieldType)) 3 0 0 [vr (A 13), vi ((c : Nat) : Int)] (fun w => isEn G hb A T tl fx X cl dr D w) (fun w r w' => r = none ∧ isEn G hb A T tl fx X cl dr (cFin c D) w' ∧ FrE A w w') := by
  refine Ctr.of (t := tX1_finish) (lv0 := [some (vr (A 13)), some (vi ((c : Nat) : Int))]) (by decide +kernel) tX1_finish_ok rfl rfl (fun w g hP M => ?_)
  refine M.run 1 (pc' := 1) (lv' := [some (vr (A 13)), some (vi ((c : Nat) : Int))]) (st' := [vr (A 13)]) rfl ?_
  refine M.get fl_X1_15 rfl hP.2.2.1 (kf := 1) (v := vr (A 0)) rfl ?_
  refine M.get fl_X1_50 rfl hP.1.1 (kf := 5) (v := vr (A 1)) rfl ?_
  refine M.run 3 (pc' := 10) (lv' := [some (vr (A 13)), some (vi ((c : Nat) : Int))]) (st' := [vi 2, vi 0, vi ((c : Nat) : Int), vr (A 1)]) rfl ?_
  refine M.callV (qB_put l G hb A T tl fx X cl dr D c 0 (by omega) (by omega) 2) cv_X1_54 cd_X4_put rfl (st := []) rfl (iS_b hP.1).1 (by decide) (by decide) rfl (Nat.zero_le _) (Nat.zero_le _) hP (fun r2 w3 q4 => ?_)
  obtain ⟨q4r, q4e, q4f⟩ := q4
  rw [q4r]
  have hE1 : isEn G hb A T tl fx X cl dr (mS (28 + c) 2 D) w3 := q4e
  have hF1 : FrE A w w3 := FrE.tr (FrE.rf (A := A) (w := w)) q4f
  refine M.run 1 (pc' := 14) (lv' := [some (vr (A 13)), some (vi ((c : Nat) : Int))]) (st' := [vr (A 13)]) rfl ?_
  refine M.get fl_X1_15 rfl hE1.2.2.1 (kf := 1) (v := vr (A 0)) rfl ?_
  refine M.get fl_X1_58 rfl hE1.1.1 (kf := 10) (v := vr (A 11)) rfl ?_
  refine M.run 1 (pc' := 21) (lv' := [some (vr (A 13)), some (vi ((c : Nat) : Int))]) (st' := [vr (A 13), vr (A 11)]) rfl ?_
  refine M.get fl_X1_15 rfl hE1.2.2.1 (kf := 1) (v := vr (A 0)) rfl ?_
  refine M.get fl_X1_61 rfl hE1.1.1 (kf := 0) (v := vi ((mS (28 + c) 2 D).1 18)) rfl ?_
  rw [show (mS (28 + c) 2 D).1 18 = D.1 18 from mS_o (by omega)]
  refine M.run 3 (pc' := 30) (lv' := [some (vr (A 13)), some (vi ((c : Nat) : Int))]) (st' := [vi 0, vi ((c : Nat) : Int), vi 1, vi (D.1 18), vr (A 11)]) rfl ?_
  refine M.callV (qK_note l G hb A T tl fx X cl dr (mS (28 + c) 2 D) (D.1 18) 1 ((c : Nat) : Int) 0) cv_X1_64 cd_X4_addNote rfl (st := []) rfl (iS_k hE1.1).1 (by decide) (by decide) rfl (Nat.zero_le _) (Nat.zero_le _) hE1 (fun r7 w8 q9 => ?_)
  obtain ⟨q9r, q9e, q9f⟩ := q9
  rw [q9r]
  have hE6 : isEn G hb A T tl fx X cl dr (mNote (rwB (D.1 18) 1 ((c : Nat) : Int) 0) (mS (28 + c) 2 D)) w8 := q9e
  have hF6 : FrE A w w8 := FrE.tr hF1 q9f
  have hE11 : isEn G hb A T tl fx X cl dr (mEnd c D) w8 := by exact hE6
  have hd11 : Dok n (mEnd c D) := Dok_end hd hc
  have hJ11 : Jok (mEnd c D) := Jok_end hJ hc
  refine M.run 5 (pc' := 38) (lv' := [some (vr (A 13)), some (vi ((c : Nat) : Int))]) (st' := [vi 1, vi 0, vi ((c : Nat) : Int), vi 0, vr (A 13)]) rfl ?_
  refine M.ldc (x := 2147483647) kc_X1_91 rfl rfl ?_
  refine M.callV (nX1_forget l G hb A T tl fx X cl dr (mEnd c D) hT n hd11 (by omega) hJ11 0 (by omega) ((c : Nat) : Int) 0 1 2147483647 (by omega) (by omega) (by omega) (by omega)) cv_X1_92 cd_X1_forget rfl (st := []) rfl hE11.2.2.1 (by decide) (by decide) rfl (Nat.zero_le _) (Nat.zero_le _) hE11 (fun r13 w14 q15 => ?_)
  obtain ⟨q15r, q15e, q15f⟩ := q15
  rw [q15r]
  have hE12 : isEn G hb A T tl fx X cl dr (mDrop 0 (pF ((c : Nat) : Int) 0 1 2147483647) (mEnd c D)) w14 := q15e
  have hF12 : FrE A w w14 := FrE.tr hF6 q15f
  exact M.vret rfl (Nat.zero_le _) (Nat.zero_le _) ⟨rfl, hE12, hF12⟩
set_option maxHeartbeats 4000000 in
set_option maxRecDepth 100000 in
theorem nX1_putPieces1 (l : Launch) (G : GT) (hb : Nat) (A T : Nat → Nat) (tl fx : Nat → Int) (X : Nat → Int → Option Gn) (cl : Nat → Int) (dr : Int) (D : Dy) (hT : Tok tl) (n : Int) (hd : Dok n D) (hn : n ≤ 2000000000) (hJ : Jok D) (c : Nat) (hc : c < 3) (bits : Nat) (hbt : bits < 1073741824)  : Ctr l G yX1_putPieces cX1_putPieces 9 ((Option.none : Option Jvm.ClassFile.FieldType)) 3 0 0 [vr (A 13), vi ((c : Nat) : Int), vi ((bits : Nat) : Int), vi 1] (fun w => isEn G hb A T tl fx X cl dr D w) (fun w r w' => r = none ∧ isEn G hb A T tl fx X cl dr (cPc true c (bPs bits (tl 7).toNat) D) w' ∧ FrE A w w') := by
  refine Ctr.of (t := tX1_putPieces) (lv0 := [some (vr (A 13)), some (vi ((c : Nat) : Int)), some (vi ((bits : Nat) : Int)), some (vi 1), none, none, none, none, none]) (by decide +kernel) tX1_putPieces_ok rfl rfl (fun w g hP M => ?_)
  have hk7 := Tok_7 hT
  have hz0 : 0 < (tl 7).toNat := by omega
  refine M.run 2 (pc' := 2) (lv' := [some (vr (A 13)), some (vi ((c : Nat) : Int)), some (vi ((bits : Nat) : Int)), some (vi 1), none, none, none, none, none]) (st' := [vi 0, vi ((bits : Nat) : Int)]) rfl ?_
  refine M.callS (kX0_nextFrom l G bits (by omega) 0 (by omega)) cs_X1_125 cd_X0_nextFrom rfl (st := []) rfl (by decide) (by decide) rfl (Nat.zero_le _) (Nat.zero_le _) trivial (fun r1 w2 q3 => ?_)
  rw [q3.1, q3.2]
  refine M.run 3 (pc' := 10) (lv' := [some (vr (A 13)), some (vi ((c : Nat) : Int)), some (vi ((bits : Nat) : Int)), some (vi 1), some (vi (if bNx bits 0 < 30 then ((bNx bits 0 : Nat) : Int) else -1)), some (vi 0), none, none, none]) (st' := []) rfl ?_
  have Lp10 : ∀ (N : Nat) (fr : Int) (i : Nat) (q : Nat) (Dc : Dy) (wa : Wo), (isEn G hb A T tl fx X cl dr Dc wa) → (FrE A w wa) → (q ≤ 30) → (i ≤ q) → (fr = (if bNx bits q < 30 then ((bNx bits q : Nat) : Int) else -1)) → (cPc true c (bPsF bits (tl 7).toNat q) Dc = cPc true c (bPs bits (tl 7).toNat) D) → 30 - i < N → g 0 0 wa 10 [some (vr (A 13)), some (vi ((c : Nat) : Int)), some (vi ((bits : Nat) : Int)), some (vi 1), some (vi fr), some (vi ((i : Nat) : Int)), none, none, none] [] := by
    intro N
    induction N with
    | zero => intro fr i q Dc wa _ _ _ _ _ _ hN; exact absurd hN (Nat.not_lt_zero _)
    | succ N ih10 =>
      intro fr i q Dc wa hEa hFa hq hiq hfr hpc hN
      refine M.run 2 (pc' := 14) (lv' := [some (vr (A 13)), some (vi ((c : Nat) : Int)), some (vi ((bits : Nat) : Int)), some (vi 1), some (vi fr), some (vi ((i : Nat) : Int)), none, none, none]) (st' := [vi 30, vi ((i : Nat) : Int)]) rfl ?_
      refine M.icmp_ge (tgt := 116) rfl (qI (by omega)) (qI (by decide)) (by decide) (fun h14 => ?_) (fun h14 => ?_)
      · skip
        have h5 : ¬ bNx bits q < 30 := by rw [bNx_e (by omega)]; omega
        exact M.vret rfl (Nat.zero_le _) (Nat.zero_le _) ⟨rfl, (by rw [← hpc, bPsF_e h5]; exact hEa), hFa⟩
      · skip
        refine M.run 2 (pc' := 20) (lv' := [some (vr (A 13)), some (vi ((c : Nat) : Int)), some (vi ((bits : Nat) : Int)), some (vi 1), some (vi fr), some (vi ((i : Nat) : Int)), none, none, none]) (st' := [vi (-1), vi fr]) rfl ?_
        refine M.icmp_eq (tgt := 116) rfl (qI (by omega)) (qI (by decide)) (by decide) (fun h20 => ?_) (fun h20 => ?_)
        · skip
          have h5 : ¬ bNx bits q < 30 := fun z => by rw [if_pos z] at hfr; omega
          exact M.vret rfl (Nat.zero_le _) (Nat.zero_le _) ⟨rfl, (by rw [← hpc, bPsF_e h5]; exact hEa), hFa⟩
        · skip
          have h5 : bNx bits q < 30 := by by_cases z : bNx bits q < 30; exact z; rw [if_neg z] at hfr; omega
          have hfr2 : fr = ((bNx bits q : Nat) : Int) := by rw [hfr, if_pos h5]
          subst hfr2
          have hto : bPt bits (tl 7).toNat (bNx bits q) ≤ 30 := bPt_le (by omega)
          have hgt := bPt_gt h5 (bNx_bit 30 bits q (by omega) h5) hz0
          refine M.run 2 (pc' := 25) (lv' := [some (vr (A 13)), some (vi ((c : Nat) : Int)), some (vi ((bits : Nat) : Int)), some (vi 1), some (vi ((bNx bits q : Nat) : Int)), some (vi ((i : Nat) : Int)), none, none, none]) (st' := [vr (A 13), vi ((bits : Nat) : Int)]) rfl ?_
          refine M.get fl_X1_9 rfl hEa.2.2.1 (kf := 0) (v := vr (T 0)) rfl ?_
          refine M.get fl_X1_128 rfl hEa.2.1.1 (kf := 7) (v := vi (tl 7)) rfl ?_
          rw [show (tl 7) = (((tl 7).toNat : Nat) : Int) from (Int.toNat_of_nonneg (by omega)).symm]
          refine M.run 1 (pc' := 33) (lv' := [some (vr (A 13)), some (vi ((c : Nat) : Int)), some (vi ((bits : Nat) : Int)), some (vi 1), some (vi ((bNx bits q : Nat) : Int)), some (vi ((i : Nat) : Int)), none, none, none]) (st' := [vi ((bNx bits q : Nat) : Int), vi (((tl 7).toNat : Nat) : Int), vi ((bits : Nat) : Int)]) rfl ?_
          refine M.callS (kX0_pieceTo l G bits (by omega) ((tl 7).toNat) (by omega) (by omega) (bNx bits q) (by omega)) cs_X1_131 cd_X0_pieceTo rfl (st := []) rfl (by decide) (by decide) rfl (Nat.zero_le _) (Nat.zero_le _) trivial (fun r5 w6 q7 => ?_)
          rw [q7.1, q7.2]
          refine M.run 3 (pc' := 41) (lv' := [some (vr (A 13)), some (vi ((c : Nat) : Int)), some (vi ((bits : Nat) : Int)), some (vi 1), some (vi ((bNx bits q : Nat) : Int)), some (vi ((i : Nat) : Int)), some (vi ((bPt bits ((tl 7).toNat) (bNx bits q) : Nat) : Int)), none, none]) (st' := [vi ((bPt bits ((tl 7).toNat) (bNx bits q) : Nat) : Int), vi ((bits : Nat) : Int)]) rfl ?_
          refine M.callS (kX0_nextFrom l G bits (by omega) (bPt bits ((tl 7).toNat) (bNx bits q)) (by omega)) cs_X1_125 cd_X0_nextFrom rfl (st := []) rfl (by decide) (by decide) rfl (Nat.zero_le _) (Nat.zero_le _) trivial (fun r9 w10 q11 => ?_)
          rw [q11.1, q11.2]
          refine M.run 4 (pc' := 50) (lv' := [some (vr (A 13)), some (vi ((c : Nat) : Int)), some (vi ((bits : Nat) : Int)), some (vi 1), some (vi ((bNx bits q : Nat) : Int)), some (vi ((i : Nat) : Int)), some (vi ((bPt bits ((tl 7).toNat) (bNx bits q) : Nat) : Int)), some (vi (if bNx bits (bPt bits ((tl 7).toNat) (bNx bits q)) < 30 then ((bNx bits (bPt bits ((tl 7).toNat) (bNx bits q)) : Nat) : Int) else -1)), some (vi 0)]) (st' := [vi 1]) rfl ?_
          refine M.if_eq (tgt := 86) rfl (qI (by decide)) (by decide) (fun q => absurd q (by decide)) (fun _ => ?_)
          refine M.run 2 (pc' := 56) (lv' := [some (vr (A 13)), some (vi ((c : Nat) : Int)), some (vi ((bits : Nat) : Int)), some (vi 1), some (vi ((bNx bits q : Nat) : Int)), some (vi ((i : Nat) : Int)), some (vi ((bPt bits ((tl 7).toNat) (bNx bits q) : Nat) : Int)), some (vi (if bNx bits (bPt bits ((tl 7).toNat) (bNx bits q)) < 30 then ((bNx bits (bPt bits ((tl 7).toNat) (bNx bits q)) : Nat) : Int) else -1)), some (vi 0)]) (st' := [vi (-1), vi (if bNx bits (bPt bits ((tl 7).toNat) (bNx bits q)) < 30 then ((bNx bits (bPt bits ((tl 7).toNat) (bNx bits q)) : Nat) : Int) else -1)]) rfl ?_
          refine M.icmp_ne (tgt := 86) rfl (qI (by omega)) (qI (by decide)) (by decide) (fun h56 => ?_) (fun h56 => ?_)
          · skip
            have h6 : bNx bits (bPt bits (tl 7).toNat (bNx bits q)) < 30 := by by_cases z : bNx bits (bPt bits (tl 7).toNat (bNx bits q)) < 30; exact z; rw [if_neg z] at h56; omega
            refine M.run 1 (pc' := 87) (lv' := [some (vr (A 13)), some (vi ((c : Nat) : Int)), some (vi ((bits : Nat) : Int)), some (vi 1), some (vi ((bNx bits q : Nat) : Int)), some (vi ((i : Nat) : Int)), some (vi ((bPt bits ((tl 7).toNat) (bNx bits q) : Nat) : Int)), some (vi (if bNx bits (bPt bits ((tl 7).toNat) (bNx bits q)) < 30 then ((bNx bits (bPt bits ((tl 7).toNat) (bNx bits q)) : Nat) : Int) else -1)), some (vi 0)]) (st' := [vr (A 13)]) rfl ?_
            refine M.get fl_X1_15 rfl hEa.2.2.1 (kf := 1) (v := vr (A 0)) rfl ?_
            refine M.get fl_X1_138 rfl hEa.1.1 (kf := 6) (v := vr (A 3)) rfl ?_
            refine M.run 7 (pc' := 103) (lv' := [some (vr (A 13)), some (vi ((c : Nat) : Int)), some (vi ((bits : Nat) : Int)), some (vi 1), some (vi ((bNx bits q : Nat) : Int)), some (vi ((i : Nat) : Int)), some (vi ((bPt bits ((tl 7).toNat) (bNx bits q) : Nat) : Int)), some (vi (if bNx bits (bPt bits ((tl 7).toNat) (bNx bits q)) < 30 then ((bNx bits (bPt bits ((tl 7).toNat) (bNx bits q)) : Nat) : Int) else -1)), some (vi 0)]) (st' := [vi 0, vi 0, vi ((bPt bits ((tl 7).toNat) (bNx bits q) : Nat) : Int), vi ((bNx bits q : Nat) : Int), vi 0, vi ((c : Nat) : Int), vi 0, vr (A 3)]) rfl ?_
            refine M.callV (qL_add l G hb A T tl fx X cl dr Dc 0 (by omega) 0 ((c : Nat) : Int) 0 ((bNx bits q : Nat) : Int) ((bPt bits ((tl 7).toNat) (bNx bits q) : Nat) : Int) 0 0) cv_X1_96 cd_X4_addMessage rfl (st := []) rfl (iS_l hEa.1 (s := 0) (by decide)).1 (by decide) (by decide) rfl (Nat.zero_le _) (Nat.zero_le _) hEa (fun r14 w15 q16 => ?_)
            obtain ⟨q16r, q16e, q16f⟩ := q16
            rw [q16r]
            have hE13 : isEn G hb A T tl fx X cl dr (mPut 0 (rwM 0 ((c : Nat) : Int) 0 ((bNx bits q : Nat) : Int) ((bPt bits ((tl 7).toNat) (bNx bits q) : Nat) : Int) 0 0) Dc) w15 := q16e
            have hF13 : FrE A w w15 := FrE.tr hFa q16f
            refine M.run 4 (pc' := 10) (lv' := [some (vr (A 13)), some (vi ((c : Nat) : Int)), some (vi ((bits : Nat) : Int)), some (vi 1), some (vi (if bNx bits (bPt bits ((tl 7).toNat) (bNx bits q)) < 30 then ((bNx bits (bPt bits ((tl 7).toNat) (bNx bits q)) : Nat) : Int) else -1)), some (vi (((i : Nat) : Int) + 1)), some (vi ((bPt bits ((tl 7).toNat) (bNx bits q) : Nat) : Int)), some (vi (if bNx bits (bPt bits ((tl 7).toNat) (bNx bits q)) < 30 then ((bNx bits (bPt bits ((tl 7).toNat) (bNx bits q)) : Nat) : Int) else -1)), some (vi 0)]) (st' := []) rfl ?_
            refine M.fgt [false, false, false, false, false, false, true, true, true] ?_
            exact ih10 (if bNx bits (bPt bits ((tl 7).toNat) (bNx bits q)) < 30 then ((bNx bits (bPt bits ((tl 7).toNat) (bNx bits q)) : Nat) : Int) else -1) (i + 1) (bPt bits (tl 7).toNat (bNx bits q)) (mPut 0 (rwM 0 ((c : Nat) : Int) 0 ((bNx bits q : Nat) : Int) ((bPt bits ((tl 7).toNat) (bNx bits q) : Nat) : Int) 0 0) Dc) w15 hE13 hF13 hto (by have := bNx_ge 30 bits q (by omega); omega) rfl (by rw [← hpc, bPsF_s hz0 h5, cPc_more (fun e => by rw [bPsF_s hz0 h6] at e; cases e)]) (by omega)
          · skip
            have h6 : ¬ bNx bits (bPt bits (tl 7).toNat (bNx bits q)) < 30 := fun z => by rw [if_pos z] at h56; omega
            refine M.run 1 (pc' := 60) (lv' := [some (vr (A 13)), some (vi ((c : Nat) : Int)), some (vi ((bits : Nat) : Int)), some (vi 1), some (vi ((bNx bits q : Nat) : Int)), some (vi ((i : Nat) : Int)), some (vi ((bPt bits ((tl 7).toNat) (bNx bits q) : Nat) : Int)), some (vi (if bNx bits (bPt bits ((tl 7).toNat) (bNx bits q)) < 30 then ((bNx bits (bPt bits ((tl 7).toNat) (bNx bits q)) : Nat) : Int) else -1)), some (vi 0)]) (st' := [vr (A 13)]) rfl ?_
            refine M.get fl_X1_15 rfl hEa.2.2.1 (kf := 1) (v := vr (A 0)) rfl ?_
            refine M.get fl_X1_50 rfl hEa.1.1 (kf := 5) (v := vr (A 1)) rfl ?_
            refine M.run 3 (pc' := 69) (lv' := [some (vr (A 13)), some (vi ((c : Nat) : Int)), some (vi ((bits : Nat) : Int)), some (vi 1), some (vi ((bNx bits q : Nat) : Int)), some (vi ((i : Nat) : Int)), some (vi ((bPt bits ((tl 7).toNat) (bNx bits q) : Nat) : Int)), some (vi (if bNx bits (bPt bits ((tl 7).toNat) (bNx bits q)) < 30 then ((bNx bits (bPt bits ((tl 7).toNat) (bNx bits q)) : Nat) : Int) else -1)), some (vi 0)]) (st' := [vi 1, vi 4, vi ((c : Nat) : Int), vr (A 1)]) rfl ?_
            refine M.callV (qB_raise l G hb A T tl fx X cl dr Dc c 4 (by omega) (by omega) 1) cv_X1_135 cd_X4_raise rfl (st := []) rfl (iS_b hEa.1).1 (by decide) (by decide) rfl (Nat.zero_le _) (Nat.zero_le _) hEa (fun r19 w20 q21 => ?_)
            obtain ⟨q21r, q21e, q21f⟩ := q21
            rw [q21r]
            have hE18 : isEn G hb A T tl fx X cl dr (mS (40 + c) (Dc.1 (40 + c) + 1) Dc) w20 := q21e
            have hF18 : FrE A w w20 := FrE.tr hFa q21f
            refine M.run 1 (pc' := 73) (lv' := [some (vr (A 13)), some (vi ((c : Nat) : Int)), some (vi ((bits : Nat) : Int)), some (vi 1), some (vi ((bNx bits q : Nat) : Int)), some (vi ((i : Nat) : Int)), some (vi ((bPt bits ((tl 7).toNat) (bNx bits q) : Nat) : Int)), some (vi (if bNx bits (bPt bits ((tl 7).toNat) (bNx bits q)) < 30 then ((bNx bits (bPt bits ((tl 7).toNat) (bNx bits q)) : Nat) : Int) else -1)), some (vi 0)]) (st' := [vr (A 13)]) rfl ?_
            refine M.get fl_X1_15 rfl hE18.2.2.1 (kf := 1) (v := vr (A 0)) rfl ?_
            refine M.get fl_X1_50 rfl hE18.1.1 (kf := 5) (v := vr (A 1)) rfl ?_
            refine M.run 2 (pc' := 81) (lv' := [some (vr (A 13)), some (vi ((c : Nat) : Int)), some (vi ((bits : Nat) : Int)), some (vi 1), some (vi ((bNx bits q : Nat) : Int)), some (vi ((i : Nat) : Int)), some (vi ((bPt bits ((tl 7).toNat) (bNx bits q) : Nat) : Int)), some (vi (if bNx bits (bPt bits ((tl 7).toNat) (bNx bits q)) < 30 then ((bNx bits (bPt bits ((tl 7).toNat) (bNx bits q)) : Nat) : Int) else -1)), some (vi 0)]) (st' := [vi 4, vi ((c : Nat) : Int), vr (A 1)]) rfl ?_
            refine M.callV (qB_get l G hb A T tl fx X cl dr (mS (40 + c) (Dc.1 (40 + c) + 1) Dc) c 4 (by omega) (by decide)) cv_X1_88 cd_X4_get rfl (st := []) rfl (iS_b hE18.1).1 (by decide) (by decide) rfl (Nat.zero_le _) (Nat.zero_le _) hE18 (fun r23 w24 q25 => ?_)
            rw [q25.1, q25.2]
            rw [show (mS (40 + c) (Dc.1 (40 + c) + 1) Dc).1 (28 + 3 * 4 + c) = (mS (40 + c) (Dc.1 (40 + c) + 1) Dc).1 (40 + c) from rfl]
            rw [mS_s]
            refine M.run 2 (pc' := 87) (lv' := [some (vr (A 13)), some (vi ((c : Nat) : Int)), some (vi ((bits : Nat) : Int)), some (vi 1), some (vi ((bNx bits q : Nat) : Int)), some (vi ((i : Nat) : Int)), some (vi ((bPt bits ((tl 7).toNat) (bNx bits q) : Nat) : Int)), some (vi (if bNx bits (bPt bits ((tl 7).toNat) (bNx bits q)) < 30 then ((bNx bits (bPt bits ((tl 7).toNat) (bNx bits q)) : Nat) : Int) else -1)), some (vi ((Dc.1 (40 + c)) + 1))]) (st' := [vr (A 13)]) rfl ?_
            refine M.get fl_X1_15 rfl hE18.2.2.1 (kf := 1) (v := vr (A 0)) rfl ?_
            refine M.get fl_X1_138 rfl hE18.1.1 (kf := 6) (v := vr (A 3)) rfl ?_
            refine M.run 7 (pc' := 103) (lv' := [some (vr (A 13)), some (vi ((c : Nat) : Int)), some (vi ((bits : Nat) : Int)), some (vi 1), some (vi ((bNx bits q : Nat) : Int)), some (vi ((i : Nat) : Int)), some (vi ((bPt bits ((tl 7).toNat) (bNx bits q) : Nat) : Int)), some (vi (if bNx bits (bPt bits ((tl 7).toNat) (bNx bits q)) < 30 then ((bNx bits (bPt bits ((tl 7).toNat) (bNx bits q)) : Nat) : Int) else -1)), some (vi ((Dc.1 (40 + c)) + 1))]) (st' := [vi 0, vi 0, vi ((bPt bits ((tl 7).toNat) (bNx bits q) : Nat) : Int), vi ((bNx bits q : Nat) : Int), vi ((Dc.1 (40 + c)) + 1), vi ((c : Nat) : Int), vi 0, vr (A 3)]) rfl ?_
            refine M.callV (qL_add l G hb A T tl fx X cl dr (mS (40 + c) (Dc.1 (40 + c) + 1) Dc) 0 (by omega) 0 ((c : Nat) : Int) ((Dc.1 (40 + c)) + 1) ((bNx bits q : Nat) : Int) ((bPt bits ((tl 7).toNat) (bNx bits q) : Nat) : Int) 0 0) cv_X1_96 cd_X4_addMessage rfl (st := []) rfl (iS_l hE18.1 (s := 0) (by decide)).1 (by decide) (by decide) rfl (Nat.zero_le _) (Nat.zero_le _) hE18 (fun r28 w29 q30 => ?_)
            obtain ⟨q30r, q30e, q30f⟩ := q30
            rw [q30r]
            have hE27 : isEn G hb A T tl fx X cl dr (mPut 0 (rwM 0 ((c : Nat) : Int) ((Dc.1 (40 + c)) + 1) ((bNx bits q : Nat) : Int) ((bPt bits ((tl 7).toNat) (bNx bits q) : Nat) : Int) 0 0) (mS (40 + c) (Dc.1 (40 + c) + 1) Dc)) w29 := q30e
            have hF27 : FrE A w w29 := FrE.tr hF18 q30f
            refine M.run 4 (pc' := 10) (lv' := [some (vr (A 13)), some (vi ((c : Nat) : Int)), some (vi ((bits : Nat) : Int)), some (vi 1), some (vi (if bNx bits (bPt bits ((tl 7).toNat) (bNx bits q)) < 30 then ((bNx bits (bPt bits ((tl 7).toNat) (bNx bits q)) : Nat) : Int) else -1)), some (vi (((i : Nat) : Int) + 1)), some (vi ((bPt bits ((tl 7).toNat) (bNx bits q) : Nat) : Int)), some (vi (if bNx bits (bPt bits ((tl 7).toNat) (bNx bits q)) < 30 then ((bNx bits (bPt bits ((tl 7).toNat) (bNx bits q)) : Nat) : Int) else -1)), some (vi ((Dc.1 (40 + c)) + 1))]) (st' := []) rfl ?_
            refine M.fgt [false, false, false, false, false, false, true, true, true] ?_
            exact ih10 (if bNx bits (bPt bits ((tl 7).toNat) (bNx bits q)) < 30 then ((bNx bits (bPt bits ((tl 7).toNat) (bNx bits q)) : Nat) : Int) else -1) (i + 1) (bPt bits (tl 7).toNat (bNx bits q)) (mPut 0 (rwM 0 ((c : Nat) : Int) ((Dc.1 (40 + c)) + 1) ((bNx bits q : Nat) : Int) ((bPt bits ((tl 7).toNat) (bNx bits q) : Nat) : Int) 0 0) (mS (40 + c) (Dc.1 (40 + c) + 1) Dc)) w29 hE27 hF27 hto (by have := bNx_ge 30 bits q (by omega); omega) rfl (by rw [← hpc, bPsF_s hz0 h5, bPsF_e h6]; rfl) (by omega)
  exact Lp10 _ (if bNx bits 0 < 30 then ((bNx bits 0 : Nat) : Int) else -1) 0 0 D w hP (FrE.rf (A := A) (w := w)) (Nat.zero_le _) (Nat.le_refl _) rfl rfl (Nat.lt_succ_self _)
set_option maxHeartbeats 4000000 in
set_option maxRecDepth 100000 in
theorem nX1_putPieces0 (l : Launch) (G : GT) (hb : Nat) (A T : Nat → Nat) (tl fx : Nat → Int) (X : Nat → Int → Option Gn) (cl : Nat → Int) (dr : Int) (D : Dy) (hT : Tok tl) (n : Int) (hd : Dok n D) (hn : n ≤ 2000000000) (hJ : Jok D) (c : Nat) (hc : c < 3) (bits : Nat) (hbt : bits < 1073741824)  : Ctr l G yX1_putPieces cX1_putPieces 9 ((Option.none : Option Jvm.ClassFile.FieldType)) 3 0 0 [vr (A 13), vi ((c : Nat) : Int), vi ((bits : Nat) : Int), vi 0] (fun w => isEn G hb A T tl fx X cl dr D w) (fun w r w' => r = none ∧ isEn G hb A T tl fx X cl dr (cPc false c (bPs bits (tl 7).toNat) D) w' ∧ FrE A w w') := by
  refine Ctr.of (t := tX1_putPieces) (lv0 := [some (vr (A 13)), some (vi ((c : Nat) : Int)), some (vi ((bits : Nat) : Int)), some (vi 0), none, none, none, none, none]) (by decide +kernel) tX1_putPieces_ok rfl rfl (fun w g hP M => ?_)
  have hk7 := Tok_7 hT
  have hz0 : 0 < (tl 7).toNat := by omega
  refine M.run 2 (pc' := 2) (lv' := [some (vr (A 13)), some (vi ((c : Nat) : Int)), some (vi ((bits : Nat) : Int)), some (vi 0), none, none, none, none, none]) (st' := [vi 0, vi ((bits : Nat) : Int)]) rfl ?_
  refine M.callS (kX0_nextFrom l G bits (by omega) 0 (by omega)) cs_X1_125 cd_X0_nextFrom rfl (st := []) rfl (by decide) (by decide) rfl (Nat.zero_le _) (Nat.zero_le _) trivial (fun r1 w2 q3 => ?_)
  rw [q3.1, q3.2]
  refine M.run 3 (pc' := 10) (lv' := [some (vr (A 13)), some (vi ((c : Nat) : Int)), some (vi ((bits : Nat) : Int)), some (vi 0), some (vi (if bNx bits 0 < 30 then ((bNx bits 0 : Nat) : Int) else -1)), some (vi 0), none, none, none]) (st' := []) rfl ?_
  have Lp10 : ∀ (N : Nat) (fr : Int) (i : Nat) (q : Nat) (Dc : Dy) (wa : Wo), (isEn G hb A T tl fx X cl dr Dc wa) → (FrE A w wa) → (q ≤ 30) → (i ≤ q) → (fr = (if bNx bits q < 30 then ((bNx bits q : Nat) : Int) else -1)) → (cPc false c (bPsF bits (tl 7).toNat q) Dc = cPc false c (bPs bits (tl 7).toNat) D) → 30 - i < N → g 0 0 wa 10 [some (vr (A 13)), some (vi ((c : Nat) : Int)), some (vi ((bits : Nat) : Int)), some (vi 0), some (vi fr), some (vi ((i : Nat) : Int)), none, none, none] [] := by
    intro N
    induction N with
    | zero => intro fr i q Dc wa _ _ _ _ _ _ hN; exact absurd hN (Nat.not_lt_zero _)
    | succ N ih10 =>
      intro fr i q Dc wa hEa hFa hq hiq hfr hpc hN
      refine M.run 2 (pc' := 14) (lv' := [some (vr (A 13)), some (vi ((c : Nat) : Int)), some (vi ((bits : Nat) : Int)), some (vi 0), some (vi fr), some (vi ((i : Nat) : Int)), none, none, none]) (st' := [vi 30, vi ((i : Nat) : Int)]) rfl ?_
      refine M.icmp_ge (tgt := 116) rfl (qI (by omega)) (qI (by decide)) (by decide) (fun h14 => ?_) (fun h14 => ?_)
      · skip
        have h5 : ¬ bNx bits q < 30 := by rw [bNx_e (by omega)]; omega
        exact M.vret rfl (Nat.zero_le _) (Nat.zero_le _) ⟨rfl, (by rw [← hpc, bPsF_e h5]; exact hEa), hFa⟩
      · skip
        refine M.run 2 (pc' := 20) (lv' := [some (vr (A 13)), some (vi ((c : Nat) : Int)), some (vi ((bits : Nat) : Int)), some (vi 0), some (vi fr), some (vi ((i : Nat) : Int)), none, none, none]) (st' := [vi (-1), vi fr]) rfl ?_
        refine M.icmp_eq (tgt := 116) rfl (qI (by omega)) (qI (by decide)) (by decide) (fun h20 => ?_) (fun h20 => ?_)
        · skip
          have h5 : ¬ bNx bits q < 30 := fun z => by rw [if_pos z] at hfr; omega
          exact M.vret rfl (Nat.zero_le _) (Nat.zero_le _) ⟨rfl, (by rw [← hpc, bPsF_e h5]; exact hEa), hFa⟩
        · skip
          have h5 : bNx bits q < 30 := by by_cases z : bNx bits q < 30; exact z; rw [if_neg z] at hfr; omega
          have hfr2 : fr = ((bNx bits q : Nat) : Int) := by rw [hfr, if_pos h5]
          subst hfr2
          have hto : bPt bits (tl 7).toNat (bNx bits q) ≤ 30 := bPt_le (by omega)
          have hgt := bPt_gt h5 (bNx_bit 30 bits q (by omega) h5) hz0
          refine M.run 2 (pc' := 25) (lv' := [some (vr (A 13)), some (vi ((c : Nat) : Int)), some (vi ((bits : Nat) : Int)), some (vi 0), some (vi ((bNx bits q : Nat) : Int)), some (vi ((i : Nat) : Int)), none, none, none]) (st' := [vr (A 13), vi ((bits : Nat) : Int)]) rfl ?_
          refine M.get fl_X1_9 rfl hEa.2.2.1 (kf := 0) (v := vr (T 0)) rfl ?_
          refine M.get fl_X1_128 rfl hEa.2.1.1 (kf := 7) (v := vi (tl 7)) rfl ?_
          rw [show (tl 7) = (((tl 7).toNat : Nat) : Int) from (Int.toNat_of_nonneg (by omega)).symm]
          refine M.run 1 (pc' := 33) (lv' := [some (vr (A 13)), some (vi ((c : Nat) : Int)), some (vi ((bits : Nat) : Int)), some (vi 0), some (vi ((bNx bits q : Nat) : Int)), some (vi ((i : Nat) : Int)), none, none, none]) (st' := [vi ((bNx bits q : Nat) : Int), vi (((tl 7).toNat : Nat) : Int), vi ((bits : Nat) : Int)]) rfl ?_
          refine M.callS (kX0_pieceTo l G bits (by omega) ((tl 7).toNat) (by omega) (by omega) (bNx bits q) (by omega)) cs_X1_131 cd_X0_pieceTo rfl (st := []) rfl (by decide) (by decide) rfl (Nat.zero_le _) (Nat.zero_le _) trivial (fun r5 w6 q7 => ?_)
          rw [q7.1, q7.2]
          refine M.run 3 (pc' := 41) (lv' := [some (vr (A 13)), some (vi ((c : Nat) : Int)), some (vi ((bits : Nat) : Int)), some (vi 0), some (vi ((bNx bits q : Nat) : Int)), some (vi ((i : Nat) : Int)), some (vi ((bPt bits ((tl 7).toNat) (bNx bits q) : Nat) : Int)), none, none]) (st' := [vi ((bPt bits ((tl 7).toNat) (bNx bits q) : Nat) : Int), vi ((bits : Nat) : Int)]) rfl ?_
          refine M.callS (kX0_nextFrom l G bits (by omega) (bPt bits ((tl 7).toNat) (bNx bits q)) (by omega)) cs_X1_125 cd_X0_nextFrom rfl (st := []) rfl (by decide) (by decide) rfl (Nat.zero_le _) (Nat.zero_le _) trivial (fun r9 w10 q11 => ?_)
          rw [q11.1, q11.2]
          refine M.run 4 (pc' := 50) (lv' := [some (vr (A 13)), some (vi ((c : Nat) : Int)), some (vi ((bits : Nat) : Int)), some (vi 0), some (vi ((bNx bits q : Nat) : Int)), some (vi ((i : Nat) : Int)), some (vi ((bPt bits ((tl 7).toNat) (bNx bits q) : Nat) : Int)), some (vi (if bNx bits (bPt bits ((tl 7).toNat) (bNx bits q)) < 30 then ((bNx bits (bPt bits ((tl 7).toNat) (bNx bits q)) : Nat) : Int) else -1)), some (vi 0)]) (st' := [vi 0]) rfl ?_
          refine M.if_eq (tgt := 86) rfl (qI (by decide)) (by decide) (fun _ => ?_) (fun q => absurd q (by decide))
          refine M.run 1 (pc' := 87) (lv' := [some (vr (A 13)), some (vi ((c : Nat) : Int)), some (vi ((bits : Nat) : Int)), some (vi 0), some (vi ((bNx bits q : Nat) : Int)), some (vi ((i : Nat) : Int)), some (vi ((bPt bits ((tl 7).toNat) (bNx bits q) : Nat) : Int)), some (vi (if bNx bits (bPt bits ((tl 7).toNat) (bNx bits q)) < 30 then ((bNx bits (bPt bits ((tl 7).toNat) (bNx bits q)) : Nat) : Int) else -1)), some (vi 0)]) (st' := [vr (A 13)]) rfl ?_
          refine M.get fl_X1_15 rfl hEa.2.2.1 (kf := 1) (v := vr (A 0)) rfl ?_
          refine M.get fl_X1_138 rfl hEa.1.1 (kf := 6) (v := vr (A 3)) rfl ?_
          refine M.run 7 (pc' := 103) (lv' := [some (vr (A 13)), some (vi ((c : Nat) : Int)), some (vi ((bits : Nat) : Int)), some (vi 0), some (vi ((bNx bits q : Nat) : Int)), some (vi ((i : Nat) : Int)), some (vi ((bPt bits ((tl 7).toNat) (bNx bits q) : Nat) : Int)), some (vi (if bNx bits (bPt bits ((tl 7).toNat) (bNx bits q)) < 30 then ((bNx bits (bPt bits ((tl 7).toNat) (bNx bits q)) : Nat) : Int) else -1)), some (vi 0)]) (st' := [vi 0, vi 0, vi ((bPt bits ((tl 7).toNat) (bNx bits q) : Nat) : Int), vi ((bNx bits q : Nat) : Int), vi 0, vi ((c : Nat) : Int), vi 0, vr (A 3)]) rfl ?_
          refine M.callV (qL_add l G hb A T tl fx X cl dr Dc 0 (by omega) 0 ((c : Nat) : Int) 0 ((bNx bits q : Nat) : Int) ((bPt bits ((tl 7).toNat) (bNx bits q) : Nat) : Int) 0 0) cv_X1_96 cd_X4_addMessage rfl (st := []) rfl (iS_l hEa.1 (s := 0) (by decide)).1 (by decide) (by decide) rfl (Nat.zero_le _) (Nat.zero_le _) hEa (fun r14 w15 q16 => ?_)
          obtain ⟨q16r, q16e, q16f⟩ := q16
          rw [q16r]
          have hE13 : isEn G hb A T tl fx X cl dr (mPut 0 (rwM 0 ((c : Nat) : Int) 0 ((bNx bits q : Nat) : Int) ((bPt bits ((tl 7).toNat) (bNx bits q) : Nat) : Int) 0 0) Dc) w15 := q16e
          have hF13 : FrE A w w15 := FrE.tr hFa q16f
          refine M.run 4 (pc' := 10) (lv' := [some (vr (A 13)), some (vi ((c : Nat) : Int)), some (vi ((bits : Nat) : Int)), some (vi 0), some (vi (if bNx bits (bPt bits ((tl 7).toNat) (bNx bits q)) < 30 then ((bNx bits (bPt bits ((tl 7).toNat) (bNx bits q)) : Nat) : Int) else -1)), some (vi (((i : Nat) : Int) + 1)), some (vi ((bPt bits ((tl 7).toNat) (bNx bits q) : Nat) : Int)), some (vi (if bNx bits (bPt bits ((tl 7).toNat) (bNx bits q)) < 30 then ((bNx bits (bPt bits ((tl 7).toNat) (bNx bits q)) : Nat) : Int) else -1)), some (vi 0)]) (st' := []) rfl ?_
          refine M.fgt [false, false, false, false, false, false, true, true, true] ?_
          exact ih10 (if bNx bits (bPt bits ((tl 7).toNat) (bNx bits q)) < 30 then ((bNx bits (bPt bits ((tl 7).toNat) (bNx bits q)) : Nat) : Int) else -1) (i + 1) (bPt bits (tl 7).toNat (bNx bits q)) (mPut 0 (rwM 0 ((c : Nat) : Int) 0 ((bNx bits q : Nat) : Int) ((bPt bits ((tl 7).toNat) (bNx bits q) : Nat) : Int) 0 0) Dc) w15 hE13 hF13 hto (by have := bNx_ge 30 bits q (by omega); omega) rfl (by rw [← hpc, bPsF_s hz0 h5, cPc_0]) (by omega)
  exact Lp10 _ (if bNx bits 0 < 30 then ((bNx bits 0 : Nat) : Int) else -1) 0 0 D w hP (FrE.rf (A := A) (w := w)) (Nat.zero_le _) (Nat.le_refl _) rfl rfl (Nat.lt_succ_self _)
