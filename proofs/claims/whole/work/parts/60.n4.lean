theorem fly_eq {a0 : Nat → Int} {s : Nat} {D : Dy} {v z : Int} (hf : D.2.2.1.length < 40) (hv : v = D.1 18 + a0 6) (hz : z = 1 - (s : Int)) : ((D.1, D.2.1, (if D.2.2.1.length = 40 then D.2.2.1 else D.2.2.1 ++ [rwF (gR (D.2.1 s) 0) v z]), D.2.2.2) : Dy) = mFly a0 s D := by
  rw [if_neg (by omega), hv, hz]
  rfl
theorem tmr_eq {X : Nat → Int → Option Gn} {a0 : Nat → Int} {s : Nat} {D : Dy} {kd bl tr : Int} (h0 : kd = gR (D.2.1 s) 0 0) (h1 : bl = gR (D.2.1 s) 0 1) (h2 : tr = gR (D.2.1 s) 0 6) : ((D.1, D.2.1, D.2.2.1, (if D.2.2.2.1.length = 16 then D.2.2.2.1 else D.2.2.2.1 ++ [rwF (gR (D.2.1 s) 0) (D.1 20 + mWaitA X (stA a0 D) kd bl tr) (s : Int)]), D.2.2.2.2) : Dy) = mTimer X a0 s D := by
  subst h0 h1 h2
  unfold mTimer
  split <;> rfl
theorem mTimer_2 {X : Nat → Int → Option Gn} {a0 : Nat → Int} {s : Nat} {D : Dy} : (mTimer X a0 s D).2.1 = D.2.1 := by unfold mTimer; split <;> rfl
theorem mBy_0 {r : Rw} (h : r 0 = 0) : r 4 - r 3 = mBy r := (if_pos h).symm
theorem mBy_n {r : Rw} (h : ¬ r 0 = 0) : 0 = mBy r := (if_neg h).symm
theorem mDue_0 {sun : Int} {L : List Rw} {i : Nat} (hi : i < L.length) (h : gR L i 7 ≤ sun) : mDue sun (L.drop i) = 0 := by
  rw [gR_drop hi]
  exact if_pos h
theorem mDue_1 {sun : Int} {L : List Rw} {i : Nat} (hi : i < L.length) (h : ¬ gR L i 7 ≤ sun) : mDue sun (L.drop i) = mDue sun (L.drop (i + 1)) + 1 := by
  rw [gR_drop hi]
  exact if_neg h
theorem mS1_k {s : Nat} {D : Dy} {k : Nat} (h : k < 46) (h2 : ¬ k = 21) : (mS1 s D).1 k = D.1 k := by unfold mS1; rw [mS_o (by omega), mS_o h2]

set_option maxHeartbeats 4000000 in
set_option maxRecDepth 100000 in
theorem nX1_send (l : Launch) (G : GT) (hb : Nat) (A T : Nat → Nat) (tl fx : Nat → Int) (X : Nat → Int → Option Gn) (cl : Nat → Int) (dr : Int) (D : Dy) (hT : Tok tl) (n : Int) (hd : Dok n D) (hn : n ≤ 1900000000) (hJ : Jok D) (hZ : Tz tl) (hru : -1 ≤ tl 2 ∧ tl 2 < tl 1) (hdr : dr = 0 ∨ dr = 1) (s : Nat) (hs : s < 2) (hf : D.2.2.1.length < 40)  : Ctr l G yX1_send cX1_send 8 ((Option.none : Option Jvm.ClassFile.FieldType)) 5 0 0 [vr (A 13), vi ((s : Nat) : Int)] (fun w => isEn G hb A T tl fx X cl dr D w) (fun w r w' => r = none ∧ isEn G hb A T tl fx X cl dr (mSnd X tl (1 - dr) s D) w' ∧ FrE A w w') := by
  refine Ctr.of (t := tX1_send) (lv0 := [some (vr (A 13)), some (vi ((s : Nat) : Int)), none, none, none, none, none, none]) (by decide +kernel) tX1_send_ok rfl rfl (fun w g hP M => ?_)
  have hl := Dok_l hd hs
  refine M.run 1 (pc' := 1) (lv' := [some (vr (A 13)), some (vi ((s : Nat) : Int)), none, none, none, none, none, none]) (st' := [vr (A 13)]) rfl ?_
  refine M.get fl_X1_15 rfl hP.2.2.1 (kf := 1) (v := vr (A 0)) rfl ?_
  refine M.run 1 (pc' := 5) (lv' := [some (vr (A 13)), some (vi ((s : Nat) : Int)), none, none, none, none, none, none]) (st' := [vi ((s : Nat) : Int), vr (A 0)]) rfl ?_
  refine M.callV (qS_line l G hb A T tl fx X cl dr D s (by omega)) cv_X1_32 cd_X6_line rfl (st := []) rfl hP.1.1 (by decide) (by decide) rfl (Nat.zero_le _) (Nat.zero_le _) hP (fun r1 w2 q3 => ?_)
  rw [q3.1, q3.2]
  refine M.run 2 (pc' := 10) (lv' := [some (vr (A 13)), some (vi ((s : Nat) : Int)), some (vr (A (3 + 2 * s))), none, none, none, none, none]) (st' := [vr (A (3 + 2 * s))]) rfl ?_
  refine M.get fl_X1_38 rfl (iS_l hP.1 (s := s) (by omega)).1 (kf := 2) (v := vi (((D.2.1 s).length : Nat) : Int)) rfl ?_
  refine M.if_ne (tgt := 17) rfl (qI (by omega)) (by decide) (fun h13 => ?_) (fun h13 => ?_)
  · skip
    have h0 : 0 < (D.2.1 s).length := by omega
    have hrow := Dok_lr hd hs h0
    obtain ⟨hr0, hr1, hr2, hr3, hr4, hr5, hr6, hr7, hr8, hr9⟩ := Dok_lr hd hs h0
    have hby := mBy_b hrow
    have hn0 := Dok_n0 hd
    have hx19 := Dok_x hd
    have h22 := Dok_lost hd
    have hd1 : Dok (n + 31) (mS1 s D) := Dok_s1 hd ⟨hs, h0⟩
    have hda : Dok (n + 31) (mAnew (mS1 s D)) := Dok_anew hd1
    have h22b : (mS1 s D).1 22 = D.1 22 := mS1_22
    have hd2 : Dok (n + 31) (mS2 X tl (1 - dr) s (gR (D.2.1 s) 0) (mS1 s D)) := Dok_s2 hT hd1 ⟨hs, h0⟩ hf (by rw [h22b]; omega) (rowOk_mono (by omega) hrow)
    have hx1 : (mS1 s D).1 19 = D.1 19 := mS1_k (by decide) (by decide)
    have htm := tm_b (x := (mS1 s D).1 19) (m := 10) (by omega) (by decide)
    refine M.run 3 (pc' := 20) (lv' := [some (vr (A 13)), some (vi ((s : Nat) : Int)), some (vr (A (3 + 2 * s))), none, none, none, none, none]) (st' := [vi 0, vi 0, vr (A (3 + 2 * s))]) rfl ?_
    refine M.callV (qL_get l G hb A T tl fx X cl dr D s (by omega) 0 0 (by omega) (by decide)) cv_X1_88 cd_X4_get rfl (st := []) rfl (iS_l hP.1 (s := s) (by omega)).1 (by decide) (by decide) rfl (Nat.zero_le _) (Nat.zero_le _) hP (fun r5 w6 q7 => ?_)
    rw [q7.1, q7.2]
    refine M.run 4 (pc' := 27) (lv' := [some (vr (A 13)), some (vi ((s : Nat) : Int)), some (vr (A (3 + 2 * s))), some (vi (gR (D.2.1 s) 0 0)), none, none, none, none]) (st' := [vi 1, vi 0, vr (A (3 + 2 * s))]) rfl ?_
    refine M.callV (qL_get l G hb A T tl fx X cl dr D s (by omega) 0 1 (by omega) (by decide)) cv_X1_88 cd_X4_get rfl (st := []) rfl (iS_l hP.1 (s := s) (by omega)).1 (by decide) (by decide) rfl (Nat.zero_le _) (Nat.zero_le _) hP (fun r9 w10 q11 => ?_)
    rw [q11.1, q11.2]
    refine M.run 2 (pc' := 33) (lv' := [some (vr (A 13)), some (vi ((s : Nat) : Int)), some (vr (A (3 + 2 * s))), some (vi (gR (D.2.1 s) 0 0)), some (vi (gR (D.2.1 s) 0 1)), none, none, none]) (st' := [vi (gR (D.2.1 s) 0 0)]) rfl ?_
    refine M.if_ne (tgt := 52) rfl (qI (by omega)) (by decide) (fun h33 => ?_) (fun h33 => ?_)
    · skip
      refine M.run 1 (pc' := 53) (lv' := [some (vr (A 13)), some (vi ((s : Nat) : Int)), some (vr (A (3 + 2 * s))), some (vi (gR (D.2.1 s) 0 0)), some (vi (gR (D.2.1 s) 0 1)), none, none, none]) (st' := [vi 0]) rfl ?_
      rw [show 0 = mBy (gR (D.2.1 s) 0) from mBy_n h33]
      refine M.run 1 (pc' := 55) (lv' := [some (vr (A 13)), some (vi ((s : Nat) : Int)), some (vr (A (3 + 2 * s))), some (vi (gR (D.2.1 s) 0 0)), some (vi (gR (D.2.1 s) 0 1)), some (vi (mBy (gR (D.2.1 s) 0))), none, none]) (st' := []) rfl ?_
      rw [show gR (D.2.1 s) 0 1 = (((gR (D.2.1 s) 0 1).toNat : Nat) : Int) from (Int.toNat_of_nonneg hr1.1).symm]
      refine M.run 1 (pc' := 56) (lv' := [some (vr (A 13)), some (vi ((s : Nat) : Int)), some (vr (A (3 + 2 * s))), some (vi (gR (D.2.1 s) 0 0)), some (vi (((gR (D.2.1 s) 0 1).toNat : Nat) : Int)), some (vi (mBy (gR (D.2.1 s) 0))), none, none]) (st' := [vr (A 13)]) rfl ?_
      refine M.get fl_X1_15 rfl hP.2.2.1 (kf := 1) (v := vr (A 0)) rfl ?_
      refine M.run 1 (pc' := 60) (lv' := [some (vr (A 13)), some (vi ((s : Nat) : Int)), some (vr (A (3 + 2 * s))), some (vi (gR (D.2.1 s) 0 0)), some (vi (((gR (D.2.1 s) 0 1).toNat : Nat) : Int)), some (vi (mBy (gR (D.2.1 s) 0))), none, none]) (st' := [vr (A 0), vr (A 0)]) rfl ?_
      refine M.get fl_X1_161 rfl hP.1.1 (kf := 3) (v := vi (D.1 21)) rfl ?_
      refine M.run 2 (pc' := 65) (lv' := [some (vr (A 13)), some (vi ((s : Nat) : Int)), some (vr (A (3 + 2 * s))), some (vi (gR (D.2.1 s) 0 0)), some (vi (((gR (D.2.1 s) 0 1).toNat : Nat) : Int)), some (vi (mBy (gR (D.2.1 s) 0))), none, none]) (st' := [vi ((D.1 21) + 1), vr (A 0)]) rfl ?_
      refine M.put fl_X1_161 rfl (hP.1.1) rfl rfl (Nat.le_of_ble_eq_true rfl) ?_
      obtain ⟨hE13, hFf13⟩ := isEn_n (k := 21) (kf := 3) (v := (D.1 21) + 1) hP (by decide)
      have hF13 : FrE A w (up w (A 0) (Ob 5 ([vi (D.1 18), vi (D.1 20), vi (D.1 19), vi (D.1 21), vi (D.1 22), vr (A 1), vr (A 3), vr (A 5), vr (A 7), vr (A 9), vr (A 11)].set 3 (vi ((D.1 21) + 1))))) := FrE.tr (FrE.rf (A := A) (w := w)) hFf13
      generalize up w (A 0) (Ob 5 ([vi (D.1 18), vi (D.1 20), vi (D.1 19), vi (D.1 21), vi (D.1 22), vr (A 1), vr (A 3), vr (A 5), vr (A 7), vr (A 9), vr (A 11)].set 3 (vi ((D.1 21) + 1)))) = w13 at hE13 hF13 ⊢
      refine M.run 1 (pc' := 69) (lv' := [some (vr (A 13)), some (vi ((s : Nat) : Int)), some (vr (A (3 + 2 * s))), some (vi (gR (D.2.1 s) 0 0)), some (vi (((gR (D.2.1 s) 0 1).toNat : Nat) : Int)), some (vi (mBy (gR (D.2.1 s) 0))), none, none]) (st' := [vr (A 13)]) rfl ?_
      refine M.get fl_X1_15 rfl hE13.2.2.1 (kf := 1) (v := vr (A 0)) rfl ?_
      refine M.get fl_X1_50 rfl hE13.1.1 (kf := 5) (v := vr (A 1)) rfl ?_
      refine M.run 3 (pc' := 81) (lv' := [some (vr (A 13)), some (vi ((s : Nat) : Int)), some (vr (A (3 + 2 * s))), some (vi (gR (D.2.1 s) 0 0)), some (vi (((gR (D.2.1 s) 0 1).toNat : Nat) : Int)), some (vi (mBy (gR (D.2.1 s) 0))), none, none]) (st' := [vi (mBy (gR (D.2.1 s) 0)), vi 6, vi (((gR (D.2.1 s) 0 1).toNat : Nat) : Int), vr (A 1)]) rfl ?_
      refine M.callV (qB_raise l G hb A T tl fx X cl dr (mS 21 ((D.1 21) + 1) D) ((gR (D.2.1 s) 0 1).toNat) 6 (by omega) (by omega) (mBy (gR (D.2.1 s) 0))) cv_X1_135 cd_X4_raise rfl (st := []) rfl (iS_b hE13.1).1 (by decide) (by decide) rfl (Nat.zero_le _) (Nat.zero_le _) hE13 (fun r15 w16 q17 => ?_)
      obtain ⟨q17r, q17e, q17f⟩ := q17
      rw [q17r]
      have hE14 : isEn G hb A T tl fx X cl dr (mS1 s D) w16 := by unfold mS1; rw [show D.1 (46 + (gR (D.2.1 s) 0 1).toNat) = (mS 21 (D.1 21 + 1) D).1 (46 + (gR (D.2.1 s) 0 1).toNat) from (mS_o (by omega)).symm]; exact q17e
      have hF14 : FrE A w w16 := FrE.tr hF13 q17f
      refine M.run 1 (pc' := 85) (lv' := [some (vr (A 13)), some (vi ((s : Nat) : Int)), some (vr (A (3 + 2 * s))), some (vi (gR (D.2.1 s) 0 0)), some (vi (((gR (D.2.1 s) 0 1).toNat : Nat) : Int)), some (vi (mBy (gR (D.2.1 s) 0))), none, none]) (st' := [vr (A 13)]) rfl ?_
      refine M.get fl_X1_28 rfl hE14.2.2.1 (kf := 3) (v := vi dr) rfl ?_
      refine M.if_eq (tgt := 157) rfl (qI (by omega)) (by decide) (fun h88 => ?_) (fun h88 => ?_)
      · skip
        refine M.run 1 (pc' := 158) (lv' := [some (vr (A 13)), some (vi ((s : Nat) : Int)), some (vr (A (3 + 2 * s))), some (vi (gR (D.2.1 s) 0 0)), some (vi (((gR (D.2.1 s) 0 1).toNat : Nat) : Int)), some (vi (mBy (gR (D.2.1 s) 0))), none, none]) (st' := [vr (A 13)]) rfl ?_
        refine M.get fl_X1_15 rfl hE14.2.2.1 (kf := 1) (v := vr (A 0)) rfl ?_
        refine M.get fl_X1_100 rfl hE14.1.1 (kf := 8) (v := vr (A 7)) rfl ?_
        refine M.run 2 (pc' := 166) (lv' := [some (vr (A 13)), some (vi ((s : Nat) : Int)), some (vr (A (3 + 2 * s))), some (vi (gR (D.2.1 s) 0 0)), some (vi (((gR (D.2.1 s) 0 1).toNat : Nat) : Int)), some (vi (mBy (gR (D.2.1 s) 0))), none, none]) (st' := [vr (A 13), vr (A (3 + 2 * s)), vr (A 7)]) rfl ?_
        refine M.get fl_X1_15 rfl hE14.2.2.1 (kf := 1) (v := vr (A 0)) rfl ?_
        refine M.get fl_X1_61 rfl hE14.1.1 (kf := 0) (v := vi ((mS1 s D).1 18)) rfl ?_
        refine M.run 1 (pc' := 173) (lv' := [some (vr (A 13)), some (vi ((s : Nat) : Int)), some (vr (A (3 + 2 * s))), some (vi (gR (D.2.1 s) 0 0)), some (vi (((gR (D.2.1 s) 0 1).toNat : Nat) : Int)), some (vi (mBy (gR (D.2.1 s) 0))), none, none]) (st' := [vr (A 13), vi ((mS1 s D).1 18), vr (A (3 + 2 * s)), vr (A 7)]) rfl ?_
        refine M.get fl_X1_9 rfl hE14.2.2.1 (kf := 0) (v := vr (T 0)) rfl ?_
        refine M.get fl_X1_179 rfl hE14.2.1.1 (kf := 6) (v := vi (tl 6)) rfl ?_
        refine M.run 4 (pc' := 183) (lv' := [some (vr (A 13)), some (vi ((s : Nat) : Int)), some (vr (A (3 + 2 * s))), some (vi (gR (D.2.1 s) 0 0)), some (vi (((gR (D.2.1 s) 0 1).toNat : Nat) : Int)), some (vi (mBy (gR (D.2.1 s) 0))), none, none]) (st' := [vi (1 - ((s : Nat) : Int)), vi (((mS1 s D).1 18) + (tl 6)), vr (A (3 + 2 * s)), vr (A 7)]) rfl ?_
        refine M.callV (qF_add l G hb A T tl fx X cl dr (mS1 s D) s (by omega) h0 (((mS1 s D).1 18) + (tl 6)) (1 - ((s : Nat) : Int))) cv_X1_182 cd_X4_addFirstOf rfl (st := []) rfl (iS_f hE14.1).1 (by decide) (by decide) rfl (Nat.zero_le _) (Nat.zero_le _) hE14 (fun r20 w21 q22 => ?_)
        obtain ⟨q22r, q22e, q22f⟩ := q22
        rw [q22r]
        have hE19 : isEn G hb A T tl fx X cl dr (mS2 X tl (1 - dr) s (gR (D.2.1 s) 0) (mS1 s D)) w21 := by unfold mS2; rw [if_neg (by omega), ← fly_eq (a0 := tl) (v := (mS1 s D).1 18 + tl 6) (z := 1 - (s : Int)) (show (mS1 s D).2.2.1.length < 40 from hf) rfl rfl]; exact q22e
        have hF19 : FrE A w w21 := FrE.tr hF14 q22f
        have hd24 : Dok (n + 31) (mS2 X tl (1 - dr) s (gR (D.2.1 s) 0) (mS1 s D)) := hd2
        refine M.run 1 (pc' := 187) (lv' := [some (vr (A 13)), some (vi ((s : Nat) : Int)), some (vr (A (3 + 2 * s))), some (vi (gR (D.2.1 s) 0 0)), some (vi (((gR (D.2.1 s) 0 1).toNat : Nat) : Int)), some (vi (mBy (gR (D.2.1 s) 0))), none, none]) (st' := [vi (gR (D.2.1 s) 0 0)]) rfl ?_
        refine M.if_ne (tgt := 203) rfl (qI (by omega)) (by decide) (fun h187 => ?_) (fun h187 => ?_)
        · skip
          refine M.run 3 (pc' := 208) (lv' := [some (vr (A 13)), some (vi ((s : Nat) : Int)), some (vr (A (3 + 2 * s))), some (vi (gR (D.2.1 s) 0 0)), some (vi (((gR (D.2.1 s) 0 1).toNat : Nat) : Int)), some (vi (mBy (gR (D.2.1 s) 0))), some (vi 0), none]) (st' := [vi 0]) rfl ?_
          refine M.if_ne (tgt := 221) rfl (qI (by decide)) (by decide) (fun q => absurd q (by decide)) (fun _ => ?_)
          refine M.run 2 (pc' := 213) (lv' := [some (vr (A 13)), some (vi ((s : Nat) : Int)), some (vr (A (3 + 2 * s))), some (vi (gR (D.2.1 s) 0 0)), some (vi (((gR (D.2.1 s) 0 1).toNat : Nat) : Int)), some (vi (mBy (gR (D.2.1 s) 0))), some (vi 0), none]) (st' := [vi 1, vi (gR (D.2.1 s) 0 0)]) rfl ?_
          refine M.icmp_eq (tgt := 221) rfl (qI (by omega)) (qI (by decide)) (by decide) (fun h213 => ?_) (fun h213 => ?_)
          · skip
            have hcd : ((gR (D.2.1 s) 0) 0 = 0 ∧ 0 < (gR (D.2.1 s) 0) 2) ∨ (gR (D.2.1 s) 0) 0 = 1 ∨ (gR (D.2.1 s) 0) 0 = 3 := Or.inr (Or.inl (by omega))
            refine M.run 1 (pc' := 222) (lv' := [some (vr (A 13)), some (vi ((s : Nat) : Int)), some (vr (A (3 + 2 * s))), some (vi (gR (D.2.1 s) 0 0)), some (vi (((gR (D.2.1 s) 0 1).toNat : Nat) : Int)), some (vi (mBy (gR (D.2.1 s) 0))), some (vi 0), none]) (st' := [vr (A 13)]) rfl ?_
            refine M.get fl_X1_24 rfl hE19.2.2.1 (kf := 2) (v := vr (A 14)) rfl ?_
            refine M.run 1 (pc' := 226) (lv' := [some (vr (A 13)), some (vi ((s : Nat) : Int)), some (vr (A (3 + 2 * s))), some (vi (gR (D.2.1 s) 0 0)), some (vi (((gR (D.2.1 s) 0 1).toNat : Nat) : Int)), some (vi (mBy (gR (D.2.1 s) 0))), some (vi 0), none]) (st' := [vr (A 13), vr (A 14)]) rfl ?_
            refine M.get fl_X1_9 rfl hE19.2.2.1 (kf := 0) (v := vr (T 0)) rfl ?_
            refine M.callV (qO_rul l G hb A T tl fx X cl dr (mS2 X tl (1 - dr) s (gR (D.2.1 s) 0) (mS1 s D)) hT) cv_X1_168 cd_X9_rulingText rfl (st := [vr (A 14)]) rfl hE19.2.1.1 (by decide) (by decide) rfl (Nat.zero_le _) (Nat.zero_le _) hE19 (fun r25 w26 q27 => ?_)
            rw [q27.1, q27.2]
            refine M.run 5 (pc' := 239) (lv' := [some (vr (A 13)), some (vi ((s : Nat) : Int)), some (vr (A (3 + 2 * s))), some (vi (gR (D.2.1 s) 0 0)), some (vi (((gR (D.2.1 s) 0 1).toNat : Nat) : Int)), some (vi (mBy (gR (D.2.1 s) 0))), some (vi 0), none]) (st' := [vi 6, vi 0, vr (A (3 + 2 * s)), vi (((gR (D.2.1 s) 0 1).toNat : Nat) : Int), vi (gR (D.2.1 s) 0 0), .inr (.inr (if 0 ≤ tl 2 ∧ tl 2 < tl 1 then rfO (fx (tl 2).toNat) else none)), vr (A 14)]) rfl ?_
            refine M.callV (qL_get l G hb A T tl fx X cl dr (mS2 X tl (1 - dr) s (gR (D.2.1 s) 0) (mS1 s D)) s (by omega) 0 6 (by rw [mS2_2]; exact h0) (by decide)) cv_X1_88 cd_X4_get rfl (st := [vi (((gR (D.2.1 s) 0 1).toNat : Nat) : Int), vi (gR (D.2.1 s) 0 0), .inr (.inr (if 0 ≤ tl 2 ∧ tl 2 < tl 1 then rfO (fx (tl 2).toNat) else none)), vr (A 14)]) rfl (iS_l hE19.1 (s := s) (by omega)).1 (by decide) (by decide) rfl (Nat.zero_le _) (Nat.zero_le _) hE19 (fun r29 w30 q31 => ?_)
            rw [q31.1, q31.2]
            rw [show gR ((mS2 X tl (1 - dr) s (gR (D.2.1 s) 0) (mS1 s D)).2.1 s) 0 6 = gR (D.2.1 s) 0 6 from by rw [mS2_2]; rfl]
            obtain ⟨_, _, _, _, _, hLa33⟩ := hE19.2.2.2.1
            refine M.callV (qW_wai l G hb A T tl fx X cl dr (mS2 X tl (1 - dr) s (gR (D.2.1 s) 0) (mS1 s D)) hT (n + 31) hd24 (gR (D.2.1 s) 0 0) (((gR (D.2.1 s) 0 1).toNat : Nat) : Int) (gR (D.2.1 s) 0 6) (by omega) (by omega) (by omega) (tl 2) (by omega)) cv_X1_186 cd_X2_waiting rfl (st := []) rfl hLa33.1 (by decide) (by decide) rfl (Nat.zero_le _) (Nat.zero_le _) hE19 (fun r35 w36 q37 => ?_)
            obtain ⟨q37r, q37e, q37f⟩ := q37
            rw [q37r, show sayV (X (tl 2).toNat 1) (tl 2) (2 * tl 6 + 2) 1 60 (enA (stA tl (mS2 X tl (1 - dr) s (gR (D.2.1 s) 0) (mS1 s D))) (gR (D.2.1 s) 0 0) (((gR (D.2.1 s) 0 1).toNat : Nat) : Int) (gR (D.2.1 s) 0 6)) (ofA (stA tl (mS2 X tl (1 - dr) s (gR (D.2.1 s) 0) (mS1 s D)))) = mWaitA X (stA tl (mS2 X tl (1 - dr) s (gR (D.2.1 s) 0) (mS1 s D))) (gR (D.2.1 s) 0 0) (((gR (D.2.1 s) 0 1).toNat : Nat) : Int) (gR (D.2.1 s) 0 6) from rfl]
            have hE34 : isEn G hb A T tl fx X cl dr (mS2 X tl (1 - dr) s (gR (D.2.1 s) 0) (mS1 s D)) w36 := q37e
            have hF34 : FrE A w w36 := FrE.tr hF19 q37f
            refine M.run 2 (pc' := 248) (lv' := [some (vr (A 13)), some (vi ((s : Nat) : Int)), some (vr (A (3 + 2 * s))), some (vi (gR (D.2.1 s) 0 0)), some (vi (((gR (D.2.1 s) 0 1).toNat : Nat) : Int)), some (vi (mBy (gR (D.2.1 s) 0))), some (vi 0), some (vi (mWaitA X (stA tl (mS2 X tl (1 - dr) s (gR (D.2.1 s) 0) (mS1 s D))) (gR (D.2.1 s) 0 0) (((gR (D.2.1 s) 0 1).toNat : Nat) : Int) (gR (D.2.1 s) 0 6)))]) (st' := [vr (A 13)]) rfl ?_
            refine M.get fl_X1_15 rfl hE34.2.2.1 (kf := 1) (v := vr (A 0)) rfl ?_
            refine M.get fl_X1_145 rfl hE34.1.1 (kf := 9) (v := vr (A 9)) rfl ?_
            refine M.run 2 (pc' := 256) (lv' := [some (vr (A 13)), some (vi ((s : Nat) : Int)), some (vr (A (3 + 2 * s))), some (vi (gR (D.2.1 s) 0 0)), some (vi (((gR (D.2.1 s) 0 1).toNat : Nat) : Int)), some (vi (mBy (gR (D.2.1 s) 0))), some (vi 0), some (vi (mWaitA X (stA tl (mS2 X tl (1 - dr) s (gR (D.2.1 s) 0) (mS1 s D))) (gR (D.2.1 s) 0 0) (((gR (D.2.1 s) 0 1).toNat : Nat) : Int) (gR (D.2.1 s) 0 6)))]) (st' := [vr (A 13), vr (A (3 + 2 * s)), vr (A 9)]) rfl ?_
            refine M.get fl_X1_15 rfl hE34.2.2.1 (kf := 1) (v := vr (A 0)) rfl ?_
            refine M.get fl_X1_116 rfl hE34.1.1 (kf := 1) (v := vi ((mS2 X tl (1 - dr) s (gR (D.2.1 s) 0) (mS1 s D)).1 20)) rfl ?_
            refine M.run 3 (pc' := 266) (lv' := [some (vr (A 13)), some (vi ((s : Nat) : Int)), some (vr (A (3 + 2 * s))), some (vi (gR (D.2.1 s) 0 0)), some (vi (((gR (D.2.1 s) 0 1).toNat : Nat) : Int)), some (vi (mBy (gR (D.2.1 s) 0))), some (vi 0), some (vi (mWaitA X (stA tl (mS2 X tl (1 - dr) s (gR (D.2.1 s) 0) (mS1 s D))) (gR (D.2.1 s) 0 0) (((gR (D.2.1 s) 0 1).toNat : Nat) : Int) (gR (D.2.1 s) 0 6)))]) (st' := [vi ((s : Nat) : Int), vi (((mS2 X tl (1 - dr) s (gR (D.2.1 s) 0) (mS1 s D)).1 20) + (mWaitA X (stA tl (mS2 X tl (1 - dr) s (gR (D.2.1 s) 0) (mS1 s D))) (gR (D.2.1 s) 0 0) (((gR (D.2.1 s) 0 1).toNat : Nat) : Int) (gR (D.2.1 s) 0 6))), vr (A (3 + 2 * s)), vr (A 9)]) rfl ?_
            refine M.callV (qT_add l G hb A T tl fx X cl dr (mS2 X tl (1 - dr) s (gR (D.2.1 s) 0) (mS1 s D)) s (by omega) (by rw [mS2_2]; exact h0) (((mS2 X tl (1 - dr) s (gR (D.2.1 s) 0) (mS1 s D)).1 20) + (mWaitA X (stA tl (mS2 X tl (1 - dr) s (gR (D.2.1 s) 0) (mS1 s D))) (gR (D.2.1 s) 0 0) (((gR (D.2.1 s) 0 1).toNat : Nat) : Int) (gR (D.2.1 s) 0 6))) ((s : Nat) : Int)) cv_X1_182 cd_X4_addFirstOf rfl (st := []) rfl (iS_t hE34.1).1 (by decide) (by decide) rfl (Nat.zero_le _) (Nat.zero_le _) hE34 (fun r40 w41 q42 => ?_)
            obtain ⟨q42r, q42e, q42f⟩ := q42
            rw [q42r]
            have hE39 : isEn G hb A T tl fx X cl dr (mTimer X tl s (mS2 X tl (1 - dr) s (gR (D.2.1 s) 0) (mS1 s D))) w41 := by rw [← tmr_eq (X := X) (a0 := tl) (s := s) (D := (mS2 X tl (1 - dr) s (gR (D.2.1 s) 0) (mS1 s D))) (kd := (gR (D.2.1 s) 0) 0) (bl := (((gR (D.2.1 s) 0 1).toNat : Nat) : Int)) (tr := (gR (D.2.1 s) 0) 6) (by rw [mS2_2]; rfl) (by rw [mS2_2]; exact Int.toNat_of_nonneg hr1.1) (by rw [mS2_2]; rfl)]; exact q42e
            have hF39 : FrE A w w41 := FrE.tr hF34 q42f
            refine M.run 2 (pc' := 271) (lv' := [some (vr (A 13)), some (vi ((s : Nat) : Int)), some (vr (A (3 + 2 * s))), some (vi (gR (D.2.1 s) 0 0)), some (vi (((gR (D.2.1 s) 0 1).toNat : Nat) : Int)), some (vi (mBy (gR (D.2.1 s) 0))), some (vi 0), some (vi (mWaitA X (stA tl (mS2 X tl (1 - dr) s (gR (D.2.1 s) 0) (mS1 s D))) (gR (D.2.1 s) 0 0) (((gR (D.2.1 s) 0 1).toNat : Nat) : Int) (gR (D.2.1 s) 0 6)))]) (st' := [vi 0, vr (A (3 + 2 * s))]) rfl ?_
            refine M.callV (qL_rem l G hb A T tl fx X cl dr (mTimer X tl s (mS2 X tl (1 - dr) s (gR (D.2.1 s) 0) (mS1 s D))) s (by omega) 0 (by rw [mTimer_2, mS2_2]; exact h0)) cv_X1_106 cd_X4_remove rfl (st := []) rfl (iS_l hE39.1 (s := s) (by omega)).1 (by decide) (by decide) rfl (Nat.zero_le _) (Nat.zero_le _) hE39 (fun r45 w46 q47 => ?_)
            obtain ⟨q47r, q47e, q47f⟩ := q47
            rw [q47r]
            have hE44 : isEn G hb A T tl fx X cl dr (mSend X tl (1 - dr) s D) w46 := by unfold mSend mS3; rw [if_pos hcd]; exact q47e
            have hF44 : FrE A w w46 := FrE.tr hF39 q47f
            exact M.vret rfl (Nat.zero_le _) (Nat.zero_le _) ⟨rfl, (by unfold mSnd; rw [if_pos h0]; exact hE44), hF44⟩
          · skip
            refine M.run 2 (pc' := 218) (lv' := [some (vr (A 13)), some (vi ((s : Nat) : Int)), some (vr (A (3 + 2 * s))), some (vi (gR (D.2.1 s) 0 0)), some (vi (((gR (D.2.1 s) 0 1).toNat : Nat) : Int)), some (vi (mBy (gR (D.2.1 s) 0))), some (vi 0), none]) (st' := [vi 3, vi (gR (D.2.1 s) 0 0)]) rfl ?_
            refine M.icmp_ne (tgt := 269) rfl (qI (by omega)) (qI (by decide)) (by decide) (fun h218 => ?_) (fun h218 => ?_)
            · skip
              have hcd : ¬ (((gR (D.2.1 s) 0) 0 = 0 ∧ 0 < (gR (D.2.1 s) 0) 2) ∨ (gR (D.2.1 s) 0) 0 = 1 ∨ (gR (D.2.1 s) 0) 0 = 3) := by omega
              refine M.run 2 (pc' := 271) (lv' := [some (vr (A 13)), some (vi ((s : Nat) : Int)), some (vr (A (3 + 2 * s))), some (vi (gR (D.2.1 s) 0 0)), some (vi (((gR (D.2.1 s) 0 1).toNat : Nat) : Int)), some (vi (mBy (gR (D.2.1 s) 0))), some (vi 0), none]) (st' := [vi 0, vr (A (3 + 2 * s))]) rfl ?_
              refine M.callV (qL_rem l G hb A T tl fx X cl dr (mS2 X tl (1 - dr) s (gR (D.2.1 s) 0) (mS1 s D)) s (by omega) 0 (by rw [mS2_2]; exact h0)) cv_X1_106 cd_X4_remove rfl (st := []) rfl (iS_l hE19.1 (s := s) (by omega)).1 (by decide) (by decide) rfl (Nat.zero_le _) (Nat.zero_le _) hE19 (fun r50 w51 q52 => ?_)
              obtain ⟨q52r, q52e, q52f⟩ := q52
              rw [q52r]
              have hE49 : isEn G hb A T tl fx X cl dr (mSend X tl (1 - dr) s D) w51 := by unfold mSend mS3; rw [if_neg hcd]; exact q52e
              have hF49 : FrE A w w51 := FrE.tr hF19 q52f
              exact M.vret rfl (Nat.zero_le _) (Nat.zero_le _) ⟨rfl, (by unfold mSnd; rw [if_pos h0]; exact hE49), hF49⟩
            · skip
              have hcd : ((gR (D.2.1 s) 0) 0 = 0 ∧ 0 < (gR (D.2.1 s) 0) 2) ∨ (gR (D.2.1 s) 0) 0 = 1 ∨ (gR (D.2.1 s) 0) 0 = 3 := Or.inr (Or.inr (by omega))
              refine M.run 1 (pc' := 222) (lv' := [some (vr (A 13)), some (vi ((s : Nat) : Int)), some (vr (A (3 + 2 * s))), some (vi (gR (D.2.1 s) 0 0)), some (vi (((gR (D.2.1 s) 0 1).toNat : Nat) : Int)), some (vi (mBy (gR (D.2.1 s) 0))), some (vi 0), none]) (st' := [vr (A 13)]) rfl ?_
              refine M.get fl_X1_24 rfl hE19.2.2.1 (kf := 2) (v := vr (A 14)) rfl ?_
              refine M.run 1 (pc' := 226) (lv' := [some (vr (A 13)), some (vi ((s : Nat) : Int)), some (vr (A (3 + 2 * s))), some (vi (gR (D.2.1 s) 0 0)), some (vi (((gR (D.2.1 s) 0 1).toNat : Nat) : Int)), some (vi (mBy (gR (D.2.1 s) 0))), some (vi 0), none]) (st' := [vr (A 13), vr (A 14)]) rfl ?_
              refine M.get fl_X1_9 rfl hE19.2.2.1 (kf := 0) (v := vr (T 0)) rfl ?_
              refine M.callV (qO_rul l G hb A T tl fx X cl dr (mS2 X tl (1 - dr) s (gR (D.2.1 s) 0) (mS1 s D)) hT) cv_X1_168 cd_X9_rulingText rfl (st := [vr (A 14)]) rfl hE19.2.1.1 (by decide) (by decide) rfl (Nat.zero_le _) (Nat.zero_le _) hE19 (fun r54 w55 q56 => ?_)
              rw [q56.1, q56.2]
              refine M.run 5 (pc' := 239) (lv' := [some (vr (A 13)), some (vi ((s : Nat) : Int)), some (vr (A (3 + 2 * s))), some (vi (gR (D.2.1 s) 0 0)), some (vi (((gR (D.2.1 s) 0 1).toNat : Nat) : Int)), some (vi (mBy (gR (D.2.1 s) 0))), some (vi 0), none]) (st' := [vi 6, vi 0, vr (A (3 + 2 * s)), vi (((gR (D.2.1 s) 0 1).toNat : Nat) : Int), vi (gR (D.2.1 s) 0 0), .inr (.inr (if 0 ≤ tl 2 ∧ tl 2 < tl 1 then rfO (fx (tl 2).toNat) else none)), vr (A 14)]) rfl ?_
              refine M.callV (qL_get l G hb A T tl fx X cl dr (mS2 X tl (1 - dr) s (gR (D.2.1 s) 0) (mS1 s D)) s (by omega) 0 6 (by rw [mS2_2]; exact h0) (by decide)) cv_X1_88 cd_X4_get rfl (st := [vi (((gR (D.2.1 s) 0 1).toNat : Nat) : Int), vi (gR (D.2.1 s) 0 0), .inr (.inr (if 0 ≤ tl 2 ∧ tl 2 < tl 1 then rfO (fx (tl 2).toNat) else none)), vr (A 14)]) rfl (iS_l hE19.1 (s := s) (by omega)).1 (by decide) (by decide) rfl (Nat.zero_le _) (Nat.zero_le _) hE19 (fun r58 w59 q60 => ?_)
              rw [q60.1, q60.2]
              rw [show gR ((mS2 X tl (1 - dr) s (gR (D.2.1 s) 0) (mS1 s D)).2.1 s) 0 6 = gR (D.2.1 s) 0 6 from by rw [mS2_2]; rfl]
              obtain ⟨_, _, _, _, _, hLa62⟩ := hE19.2.2.2.1
              refine M.callV (qW_wai l G hb A T tl fx X cl dr (mS2 X tl (1 - dr) s (gR (D.2.1 s) 0) (mS1 s D)) hT (n + 31) hd24 (gR (D.2.1 s) 0 0) (((gR (D.2.1 s) 0 1).toNat : Nat) : Int) (gR (D.2.1 s) 0 6) (by omega) (by omega) (by omega) (tl 2) (by omega)) cv_X1_186 cd_X2_waiting rfl (st := []) rfl hLa62.1 (by decide) (by decide) rfl (Nat.zero_le _) (Nat.zero_le _) hE19 (fun r64 w65 q66 => ?_)
              obtain ⟨q66r, q66e, q66f⟩ := q66
              rw [q66r, show sayV (X (tl 2).toNat 1) (tl 2) (2 * tl 6 + 2) 1 60 (enA (stA tl (mS2 X tl (1 - dr) s (gR (D.2.1 s) 0) (mS1 s D))) (gR (D.2.1 s) 0 0) (((gR (D.2.1 s) 0 1).toNat : Nat) : Int) (gR (D.2.1 s) 0 6)) (ofA (stA tl (mS2 X tl (1 - dr) s (gR (D.2.1 s) 0) (mS1 s D)))) = mWaitA X (stA tl (mS2 X tl (1 - dr) s (gR (D.2.1 s) 0) (mS1 s D))) (gR (D.2.1 s) 0 0) (((gR (D.2.1 s) 0 1).toNat : Nat) : Int) (gR (D.2.1 s) 0 6) from rfl]
              have hE63 : isEn G hb A T tl fx X cl dr (mS2 X tl (1 - dr) s (gR (D.2.1 s) 0) (mS1 s D)) w65 := q66e
              have hF63 : FrE A w w65 := FrE.tr hF19 q66f
              refine M.run 2 (pc' := 248) (lv' := [some (vr (A 13)), some (vi ((s : Nat) : Int)), some (vr (A (3 + 2 * s))), some (vi (gR (D.2.1 s) 0 0)), some (vi (((gR (D.2.1 s) 0 1).toNat : Nat) : Int)), some (vi (mBy (gR (D.2.1 s) 0))), some (vi 0), some (vi (mWaitA X (stA tl (mS2 X tl (1 - dr) s (gR (D.2.1 s) 0) (mS1 s D))) (gR (D.2.1 s) 0 0) (((gR (D.2.1 s) 0 1).toNat : Nat) : Int) (gR (D.2.1 s) 0 6)))]) (st' := [vr (A 13)]) rfl ?_
              refine M.get fl_X1_15 rfl hE63.2.2.1 (kf := 1) (v := vr (A 0)) rfl ?_
              refine M.get fl_X1_145 rfl hE63.1.1 (kf := 9) (v := vr (A 9)) rfl ?_
              refine M.run 2 (pc' := 256) (lv' := [some (vr (A 13)), some (vi ((s : Nat) : Int)), some (vr (A (3 + 2 * s))), some (vi (gR (D.2.1 s) 0 0)), some (vi (((gR (D.2.1 s) 0 1).toNat : Nat) : Int)), some (vi (mBy (gR (D.2.1 s) 0))), some (vi 0), some (vi (mWaitA X (stA tl (mS2 X tl (1 - dr) s (gR (D.2.1 s) 0) (mS1 s D))) (gR (D.2.1 s) 0 0) (((gR (D.2.1 s) 0 1).toNat : Nat) : Int) (gR (D.2.1 s) 0 6)))]) (st' := [vr (A 13), vr (A (3 + 2 * s)), vr (A 9)]) rfl ?_
              refine M.get fl_X1_15 rfl hE63.2.2.1 (kf := 1) (v := vr (A 0)) rfl ?_
              refine M.get fl_X1_116 rfl hE63.1.1 (kf := 1) (v := vi ((mS2 X tl (1 - dr) s (gR (D.2.1 s) 0) (mS1 s D)).1 20)) rfl ?_
              refine M.run 3 (pc' := 266) (lv' := [some (vr (A 13)), some (vi ((s : Nat) : Int)), some (vr (A (3 + 2 * s))), some (vi (gR (D.2.1 s) 0 0)), some (vi (((gR (D.2.1 s) 0 1).toNat : Nat) : Int)), some (vi (mBy (gR (D.2.1 s) 0))), some (vi 0), some (vi (mWaitA X (stA tl (mS2 X tl (1 - dr) s (gR (D.2.1 s) 0) (mS1 s D))) (gR (D.2.1 s) 0 0) (((gR (D.2.1 s) 0 1).toNat : Nat) : Int) (gR (D.2.1 s) 0 6)))]) (st' := [vi ((s : Nat) : Int), vi (((mS2 X tl (1 - dr) s (gR (D.2.1 s) 0) (mS1 s D)).1 20) + (mWaitA X (stA tl (mS2 X tl (1 - dr) s (gR (D.2.1 s) 0) (mS1 s D))) (gR (D.2.1 s) 0 0) (((gR (D.2.1 s) 0 1).toNat : Nat) : Int) (gR (D.2.1 s) 0 6))), vr (A (3 + 2 * s)), vr (A 9)]) rfl ?_
              refine M.callV (qT_add l G hb A T tl fx X cl dr (mS2 X tl (1 - dr) s (gR (D.2.1 s) 0) (mS1 s D)) s (by omega) (by rw [mS2_2]; exact h0) (((mS2 X tl (1 - dr) s (gR (D.2.1 s) 0) (mS1 s D)).1 20) + (mWaitA X (stA tl (mS2 X tl (1 - dr) s (gR (D.2.1 s) 0) (mS1 s D))) (gR (D.2.1 s) 0 0) (((gR (D.2.1 s) 0 1).toNat : Nat) : Int) (gR (D.2.1 s) 0 6))) ((s : Nat) : Int)) cv_X1_182 cd_X4_addFirstOf rfl (st := []) rfl (iS_t hE63.1).1 (by decide) (by decide) rfl (Nat.zero_le _) (Nat.zero_le _) hE63 (fun r69 w70 q71 => ?_)
              obtain ⟨q71r, q71e, q71f⟩ := q71
              rw [q71r]
              have hE68 : isEn G hb A T tl fx X cl dr (mTimer X tl s (mS2 X tl (1 - dr) s (gR (D.2.1 s) 0) (mS1 s D))) w70 := by rw [← tmr_eq (X := X) (a0 := tl) (s := s) (D := (mS2 X tl (1 - dr) s (gR (D.2.1 s) 0) (mS1 s D))) (kd := (gR (D.2.1 s) 0) 0) (bl := (((gR (D.2.1 s) 0 1).toNat : Nat) : Int)) (tr := (gR (D.2.1 s) 0) 6) (by rw [mS2_2]; rfl) (by rw [mS2_2]; exact Int.toNat_of_nonneg hr1.1) (by rw [mS2_2]; rfl)]; exact q71e
              have hF68 : FrE A w w70 := FrE.tr hF63 q71f
              refine M.run 2 (pc' := 271) (lv' := [some (vr (A 13)), some (vi ((s : Nat) : Int)), some (vr (A (3 + 2 * s))), some (vi (gR (D.2.1 s) 0 0)), some (vi (((gR (D.2.1 s) 0 1).toNat : Nat) : Int)), some (vi (mBy (gR (D.2.1 s) 0))), some (vi 0), some (vi (mWaitA X (stA tl (mS2 X tl (1 - dr) s (gR (D.2.1 s) 0) (mS1 s D))) (gR (D.2.1 s) 0 0) (((gR (D.2.1 s) 0 1).toNat : Nat) : Int) (gR (D.2.1 s) 0 6)))]) (st' := [vi 0, vr (A (3 + 2 * s))]) rfl ?_
              refine M.callV (qL_rem l G hb A T tl fx X cl dr (mTimer X tl s (mS2 X tl (1 - dr) s (gR (D.2.1 s) 0) (mS1 s D))) s (by omega) 0 (by rw [mTimer_2, mS2_2]; exact h0)) cv_X1_106 cd_X4_remove rfl (st := []) rfl (iS_l hE68.1 (s := s) (by omega)).1 (by decide) (by decide) rfl (Nat.zero_le _) (Nat.zero_le _) hE68 (fun r74 w75 q76 => ?_)
              obtain ⟨q76r, q76e, q76f⟩ := q76
              rw [q76r]
              have hE73 : isEn G hb A T tl fx X cl dr (mSend X tl (1 - dr) s D) w75 := by unfold mSend mS3; rw [if_pos hcd]; exact q76e
              have hF73 : FrE A w w75 := FrE.tr hF68 q76f
              exact M.vret rfl (Nat.zero_le _) (Nat.zero_le _) ⟨rfl, (by unfold mSnd; rw [if_pos h0]; exact hE73), hF73⟩
        · skip
          refine M.run 3 (pc' := 193) (lv' := [some (vr (A 13)), some (vi ((s : Nat) : Int)), some (vr (A (3 + 2 * s))), some (vi (gR (D.2.1 s) 0 0)), some (vi (((gR (D.2.1 s) 0 1).toNat : Nat) : Int)), some (vi (mBy (gR (D.2.1 s) 0))), none, none]) (st' := [vi 2, vi 0, vr (A (3 + 2 * s))]) rfl ?_
          refine M.callV (qL_get l G hb A T tl fx X cl dr (mS2 X tl (1 - dr) s (gR (D.2.1 s) 0) (mS1 s D)) s (by omega) 0 2 (by rw [mS2_2]; exact h0) (by decide)) cv_X1_88 cd_X4_get rfl (st := []) rfl (iS_l hE19.1 (s := s) (by omega)).1 (by decide) (by decide) rfl (Nat.zero_le _) (Nat.zero_le _) hE19 (fun r78 w79 q80 => ?_)
          rw [q80.1, q80.2]
          rw [show gR ((mS2 X tl (1 - dr) s (gR (D.2.1 s) 0) (mS1 s D)).2.1 s) 0 2 = gR (D.2.1 s) 0 2 from by rw [mS2_2]; rfl]
          refine M.if_le (tgt := 203) rfl (qI (by omega)) (by decide) (fun h196 => ?_) (fun h196 => ?_)
          · skip
            refine M.run 3 (pc' := 208) (lv' := [some (vr (A 13)), some (vi ((s : Nat) : Int)), some (vr (A (3 + 2 * s))), some (vi (gR (D.2.1 s) 0 0)), some (vi (((gR (D.2.1 s) 0 1).toNat : Nat) : Int)), some (vi (mBy (gR (D.2.1 s) 0))), some (vi 0), none]) (st' := [vi 0]) rfl ?_
            refine M.if_ne (tgt := 221) rfl (qI (by decide)) (by decide) (fun q => absurd q (by decide)) (fun _ => ?_)
            refine M.run 2 (pc' := 213) (lv' := [some (vr (A 13)), some (vi ((s : Nat) : Int)), some (vr (A (3 + 2 * s))), some (vi (gR (D.2.1 s) 0 0)), some (vi (((gR (D.2.1 s) 0 1).toNat : Nat) : Int)), some (vi (mBy (gR (D.2.1 s) 0))), some (vi 0), none]) (st' := [vi 1, vi (gR (D.2.1 s) 0 0)]) rfl ?_
            refine M.icmp_eq (tgt := 221) rfl (qI (by omega)) (qI (by decide)) (by decide) (fun h213 => ?_) (fun h213 => ?_)
            · skip
              have hcd : ((gR (D.2.1 s) 0) 0 = 0 ∧ 0 < (gR (D.2.1 s) 0) 2) ∨ (gR (D.2.1 s) 0) 0 = 1 ∨ (gR (D.2.1 s) 0) 0 = 3 := Or.inr (Or.inl (by omega))
              refine M.run 1 (pc' := 222) (lv' := [some (vr (A 13)), some (vi ((s : Nat) : Int)), some (vr (A (3 + 2 * s))), some (vi (gR (D.2.1 s) 0 0)), some (vi (((gR (D.2.1 s) 0 1).toNat : Nat) : Int)), some (vi (mBy (gR (D.2.1 s) 0))), some (vi 0), none]) (st' := [vr (A 13)]) rfl ?_
              refine M.get fl_X1_24 rfl hE19.2.2.1 (kf := 2) (v := vr (A 14)) rfl ?_
              refine M.run 1 (pc' := 226) (lv' := [some (vr (A 13)), some (vi ((s : Nat) : Int)), some (vr (A (3 + 2 * s))), some (vi (gR (D.2.1 s) 0 0)), some (vi (((gR (D.2.1 s) 0 1).toNat : Nat) : Int)), some (vi (mBy (gR (D.2.1 s) 0))), some (vi 0), none]) (st' := [vr (A 13), vr (A 14)]) rfl ?_
              refine M.get fl_X1_9 rfl hE19.2.2.1 (kf := 0) (v := vr (T 0)) rfl ?_
              refine M.callV (qO_rul l G hb A T tl fx X cl dr (mS2 X tl (1 - dr) s (gR (D.2.1 s) 0) (mS1 s D)) hT) cv_X1_168 cd_X9_rulingText rfl (st := [vr (A 14)]) rfl hE19.2.1.1 (by decide) (by decide) rfl (Nat.zero_le _) (Nat.zero_le _) hE19 (fun r82 w83 q84 => ?_)
              rw [q84.1, q84.2]
              refine M.run 5 (pc' := 239) (lv' := [some (vr (A 13)), some (vi ((s : Nat) : Int)), some (vr (A (3 + 2 * s))), some (vi (gR (D.2.1 s) 0 0)), some (vi (((gR (D.2.1 s) 0 1).toNat : Nat) : Int)), some (vi (mBy (gR (D.2.1 s) 0))), some (vi 0), none]) (st' := [vi 6, vi 0, vr (A (3 + 2 * s)), vi (((gR (D.2.1 s) 0 1).toNat : Nat) : Int), vi (gR (D.2.1 s) 0 0), .inr (.inr (if 0 ≤ tl 2 ∧ tl 2 < tl 1 then rfO (fx (tl 2).toNat) else none)), vr (A 14)]) rfl ?_
              refine M.callV (qL_get l G hb A T tl fx X cl dr (mS2 X tl (1 - dr) s (gR (D.2.1 s) 0) (mS1 s D)) s (by omega) 0 6 (by rw [mS2_2]; exact h0) (by decide)) cv_X1_88 cd_X4_get rfl (st := [vi (((gR (D.2.1 s) 0 1).toNat : Nat) : Int), vi (gR (D.2.1 s) 0 0), .inr (.inr (if 0 ≤ tl 2 ∧ tl 2 < tl 1 then rfO (fx (tl 2).toNat) else none)), vr (A 14)]) rfl (iS_l hE19.1 (s := s) (by omega)).1 (by decide) (by decide) rfl (Nat.zero_le _) (Nat.zero_le _) hE19 (fun r86 w87 q88 => ?_)
              rw [q88.1, q88.2]
              rw [show gR ((mS2 X tl (1 - dr) s (gR (D.2.1 s) 0) (mS1 s D)).2.1 s) 0 6 = gR (D.2.1 s) 0 6 from by rw [mS2_2]; rfl]
              obtain ⟨_, _, _, _, _, hLa90⟩ := hE19.2.2.2.1
              refine M.callV (qW_wai l G hb A T tl fx X cl dr (mS2 X tl (1 - dr) s (gR (D.2.1 s) 0) (mS1 s D)) hT (n + 31) hd24 (gR (D.2.1 s) 0 0) (((gR (D.2.1 s) 0 1).toNat : Nat) : Int) (gR (D.2.1 s) 0 6) (by omega) (by omega) (by omega) (tl 2) (by omega)) cv_X1_186 cd_X2_waiting rfl (st := []) rfl hLa90.1 (by decide) (by decide) rfl (Nat.zero_le _) (Nat.zero_le _) hE19 (fun r92 w93 q94 => ?_)
              obtain ⟨q94r, q94e, q94f⟩ := q94
              rw [q94r, show sayV (X (tl 2).toNat 1) (tl 2) (2 * tl 6 + 2) 1 60 (enA (stA tl (mS2 X tl (1 - dr) s (gR (D.2.1 s) 0) (mS1 s D))) (gR (D.2.1 s) 0 0) (((gR (D.2.1 s) 0 1).toNat : Nat) : Int) (gR (D.2.1 s) 0 6)) (ofA (stA tl (mS2 X tl (1 - dr) s (gR (D.2.1 s) 0) (mS1 s D)))) = mWaitA X (stA tl (mS2 X tl (1 - dr) s (gR (D.2.1 s) 0) (mS1 s D))) (gR (D.2.1 s) 0 0) (((gR (D.2.1 s) 0 1).toNat : Nat) : Int) (gR (D.2.1 s) 0 6) from rfl]
              have hE91 : isEn G hb A T tl fx X cl dr (mS2 X tl (1 - dr) s (gR (D.2.1 s) 0) (mS1 s D)) w93 := q94e
              have hF91 : FrE A w w93 := FrE.tr hF19 q94f
              refine M.run 2 (pc' := 248) (lv' := [some (vr (A 13)), some (vi ((s : Nat) : Int)), some (vr (A (3 + 2 * s))), some (vi (gR (D.2.1 s) 0 0)), some (vi (((gR (D.2.1 s) 0 1).toNat : Nat) : Int)), some (vi (mBy (gR (D.2.1 s) 0))), some (vi 0), some (vi (mWaitA X (stA tl (mS2 X tl (1 - dr) s (gR (D.2.1 s) 0) (mS1 s D))) (gR (D.2.1 s) 0 0) (((gR (D.2.1 s) 0 1).toNat : Nat) : Int) (gR (D.2.1 s) 0 6)))]) (st' := [vr (A 13)]) rfl ?_
              refine M.get fl_X1_15 rfl hE91.2.2.1 (kf := 1) (v := vr (A 0)) rfl ?_
              refine M.get fl_X1_145 rfl hE91.1.1 (kf := 9) (v := vr (A 9)) rfl ?_
              refine M.run 2 (pc' := 256) (lv' := [some (vr (A 13)), some (vi ((s : Nat) : Int)), some (vr (A (3 + 2 * s))), some (vi (gR (D.2.1 s) 0 0)), some (vi (((gR (D.2.1 s) 0 1).toNat : Nat) : Int)), some (vi (mBy (gR (D.2.1 s) 0))), some (vi 0), some (vi (mWaitA X (stA tl (mS2 X tl (1 - dr) s (gR (D.2.1 s) 0) (mS1 s D))) (gR (D.2.1 s) 0 0) (((gR (D.2.1 s) 0 1).toNat : Nat) : Int) (gR (D.2.1 s) 0 6)))]) (st' := [vr (A 13), vr (A (3 + 2 * s)), vr (A 9)]) rfl ?_
              refine M.get fl_X1_15 rfl hE91.2.2.1 (kf := 1) (v := vr (A 0)) rfl ?_
              refine M.get fl_X1_116 rfl hE91.1.1 (kf := 1) (v := vi ((mS2 X tl (1 - dr) s (gR (D.2.1 s) 0) (mS1 s D)).1 20)) rfl ?_
              refine M.run 3 (pc' := 266) (lv' := [some (vr (A 13)), some (vi ((s : Nat) : Int)), some (vr (A (3 + 2 * s))), some (vi (gR (D.2.1 s) 0 0)), some (vi (((gR (D.2.1 s) 0 1).toNat : Nat) : Int)), some (vi (mBy (gR (D.2.1 s) 0))), some (vi 0), some (vi (mWaitA X (stA tl (mS2 X tl (1 - dr) s (gR (D.2.1 s) 0) (mS1 s D))) (gR (D.2.1 s) 0 0) (((gR (D.2.1 s) 0 1).toNat : Nat) : Int) (gR (D.2.1 s) 0 6)))]) (st' := [vi ((s : Nat) : Int), vi (((mS2 X tl (1 - dr) s (gR (D.2.1 s) 0) (mS1 s D)).1 20) + (mWaitA X (stA tl (mS2 X tl (1 - dr) s (gR (D.2.1 s) 0) (mS1 s D))) (gR (D.2.1 s) 0 0) (((gR (D.2.1 s) 0 1).toNat : Nat) : Int) (gR (D.2.1 s) 0 6))), vr (A (3 + 2 * s)), vr (A 9)]) rfl ?_
              refine M.callV (qT_add l G hb A T tl fx X cl dr (mS2 X tl (1 - dr) s (gR (D.2.1 s) 0) (mS1 s D)) s (by omega) (by rw [mS2_2]; exact h0) (((mS2 X tl (1 - dr) s (gR (D.2.1 s) 0) (mS1 s D)).1 20) + (mWaitA X (stA tl (mS2 X tl (1 - dr) s (gR (D.2.1 s) 0) (mS1 s D))) (gR (D.2.1 s) 0 0) (((gR (D.2.1 s) 0 1).toNat : Nat) : Int) (gR (D.2.1 s) 0 6))) ((s : Nat) : Int)) cv_X1_182 cd_X4_addFirstOf rfl (st := []) rfl (iS_t hE91.1).1 (by decide) (by decide) rfl (Nat.zero_le _) (Nat.zero_le _) hE91 (fun r97 w98 q99 => ?_)
              obtain ⟨q99r, q99e, q99f⟩ := q99
              rw [q99r]
              have hE96 : isEn G hb A T tl fx X cl dr (mTimer X tl s (mS2 X tl (1 - dr) s (gR (D.2.1 s) 0) (mS1 s D))) w98 := by rw [← tmr_eq (X := X) (a0 := tl) (s := s) (D := (mS2 X tl (1 - dr) s (gR (D.2.1 s) 0) (mS1 s D))) (kd := (gR (D.2.1 s) 0) 0) (bl := (((gR (D.2.1 s) 0 1).toNat : Nat) : Int)) (tr := (gR (D.2.1 s) 0) 6) (by rw [mS2_2]; rfl) (by rw [mS2_2]; exact Int.toNat_of_nonneg hr1.1) (by rw [mS2_2]; rfl)]; exact q99e
              have hF96 : FrE A w w98 := FrE.tr hF91 q99f
              refine M.run 2 (pc' := 271) (lv' := [some (vr (A 13)), some (vi ((s : Nat) : Int)), some (vr (A (3 + 2 * s))), some (vi (gR (D.2.1 s) 0 0)), some (vi (((gR (D.2.1 s) 0 1).toNat : Nat) : Int)), some (vi (mBy (gR (D.2.1 s) 0))), some (vi 0), some (vi (mWaitA X (stA tl (mS2 X tl (1 - dr) s (gR (D.2.1 s) 0) (mS1 s D))) (gR (D.2.1 s) 0 0) (((gR (D.2.1 s) 0 1).toNat : Nat) : Int) (gR (D.2.1 s) 0 6)))]) (st' := [vi 0, vr (A (3 + 2 * s))]) rfl ?_
              refine M.callV (qL_rem l G hb A T tl fx X cl dr (mTimer X tl s (mS2 X tl (1 - dr) s (gR (D.2.1 s) 0) (mS1 s D))) s (by omega) 0 (by rw [mTimer_2, mS2_2]; exact h0)) cv_X1_106 cd_X4_remove rfl (st := []) rfl (iS_l hE96.1 (s := s) (by omega)).1 (by decide) (by decide) rfl (Nat.zero_le _) (Nat.zero_le _) hE96 (fun r102 w103 q104 => ?_)
              obtain ⟨q104r, q104e, q104f⟩ := q104
              rw [q104r]
              have hE101 : isEn G hb A T tl fx X cl dr (mSend X tl (1 - dr) s D) w103 := by unfold mSend mS3; rw [if_pos hcd]; exact q104e
              have hF101 : FrE A w w103 := FrE.tr hF96 q104f
              exact M.vret rfl (Nat.zero_le _) (Nat.zero_le _) ⟨rfl, (by unfold mSnd; rw [if_pos h0]; exact hE101), hF101⟩
            · skip
              refine M.run 2 (pc' := 218) (lv' := [some (vr (A 13)), some (vi ((s : Nat) : Int)), some (vr (A (3 + 2 * s))), some (vi (gR (D.2.1 s) 0 0)), some (vi (((gR (D.2.1 s) 0 1).toNat : Nat) : Int)), some (vi (mBy (gR (D.2.1 s) 0))), some (vi 0), none]) (st' := [vi 3, vi (gR (D.2.1 s) 0 0)]) rfl ?_
              refine M.icmp_ne (tgt := 269) rfl (qI (by omega)) (qI (by decide)) (by decide) (fun h218 => ?_) (fun h218 => ?_)
              · skip
                have hcd : ¬ (((gR (D.2.1 s) 0) 0 = 0 ∧ 0 < (gR (D.2.1 s) 0) 2) ∨ (gR (D.2.1 s) 0) 0 = 1 ∨ (gR (D.2.1 s) 0) 0 = 3) := by omega
                refine M.run 2 (pc' := 271) (lv' := [some (vr (A 13)), some (vi ((s : Nat) : Int)), some (vr (A (3 + 2 * s))), some (vi (gR (D.2.1 s) 0 0)), some (vi (((gR (D.2.1 s) 0 1).toNat : Nat) : Int)), some (vi (mBy (gR (D.2.1 s) 0))), some (vi 0), none]) (st' := [vi 0, vr (A (3 + 2 * s))]) rfl ?_
                refine M.callV (qL_rem l G hb A T tl fx X cl dr (mS2 X tl (1 - dr) s (gR (D.2.1 s) 0) (mS1 s D)) s (by omega) 0 (by rw [mS2_2]; exact h0)) cv_X1_106 cd_X4_remove rfl (st := []) rfl (iS_l hE19.1 (s := s) (by omega)).1 (by decide) (by decide) rfl (Nat.zero_le _) (Nat.zero_le _) hE19 (fun r107 w108 q109 => ?_)
                obtain ⟨q109r, q109e, q109f⟩ := q109
                rw [q109r]
                have hE106 : isEn G hb A T tl fx X cl dr (mSend X tl (1 - dr) s D) w108 := by unfold mSend mS3; rw [if_neg hcd]; exact q109e
                have hF106 : FrE A w w108 := FrE.tr hF19 q109f
                exact M.vret rfl (Nat.zero_le _) (Nat.zero_le _) ⟨rfl, (by unfold mSnd; rw [if_pos h0]; exact hE106), hF106⟩
              · skip
                have hcd : ((gR (D.2.1 s) 0) 0 = 0 ∧ 0 < (gR (D.2.1 s) 0) 2) ∨ (gR (D.2.1 s) 0) 0 = 1 ∨ (gR (D.2.1 s) 0) 0 = 3 := Or.inr (Or.inr (by omega))
                refine M.run 1 (pc' := 222) (lv' := [some (vr (A 13)), some (vi ((s : Nat) : Int)), some (vr (A (3 + 2 * s))), some (vi (gR (D.2.1 s) 0 0)), some (vi (((gR (D.2.1 s) 0 1).toNat : Nat) : Int)), some (vi (mBy (gR (D.2.1 s) 0))), some (vi 0), none]) (st' := [vr (A 13)]) rfl ?_
                refine M.get fl_X1_24 rfl hE19.2.2.1 (kf := 2) (v := vr (A 14)) rfl ?_
                refine M.run 1 (pc' := 226) (lv' := [some (vr (A 13)), some (vi ((s : Nat) : Int)), some (vr (A (3 + 2 * s))), some (vi (gR (D.2.1 s) 0 0)), some (vi (((gR (D.2.1 s) 0 1).toNat : Nat) : Int)), some (vi (mBy (gR (D.2.1 s) 0))), some (vi 0), none]) (st' := [vr (A 13), vr (A 14)]) rfl ?_
                refine M.get fl_X1_9 rfl hE19.2.2.1 (kf := 0) (v := vr (T 0)) rfl ?_
                refine M.callV (qO_rul l G hb A T tl fx X cl dr (mS2 X tl (1 - dr) s (gR (D.2.1 s) 0) (mS1 s D)) hT) cv_X1_168 cd_X9_rulingText rfl (st := [vr (A 14)]) rfl hE19.2.1.1 (by decide) (by decide) rfl (Nat.zero_le _) (Nat.zero_le _) hE19 (fun r111 w112 q113 => ?_)
                rw [q113.1, q113.2]
                refine M.run 5 (pc' := 239) (lv' := [some (vr (A 13)), some (vi ((s : Nat) : Int)), some (vr (A (3 + 2 * s))), some (vi (gR (D.2.1 s) 0 0)), some (vi (((gR (D.2.1 s) 0 1).toNat : Nat) : Int)), some (vi (mBy (gR (D.2.1 s) 0))), some (vi 0), none]) (st' := [vi 6, vi 0, vr (A (3 + 2 * s)), vi (((gR (D.2.1 s) 0 1).toNat : Nat) : Int), vi (gR (D.2.1 s) 0 0), .inr (.inr (if 0 ≤ tl 2 ∧ tl 2 < tl 1 then rfO (fx (tl 2).toNat) else none)), vr (A 14)]) rfl ?_
                refine M.callV (qL_get l G hb A T tl fx X cl dr (mS2 X tl (1 - dr) s (gR (D.2.1 s) 0) (mS1 s D)) s (by omega) 0 6 (by rw [mS2_2]; exact h0) (by decide)) cv_X1_88 cd_X4_get rfl (st := [vi (((gR (D.2.1 s) 0 1).toNat : Nat) : Int), vi (gR (D.2.1 s) 0 0), .inr (.inr (if 0 ≤ tl 2 ∧ tl 2 < tl 1 then rfO (fx (tl 2).toNat) else none)), vr (A 14)]) rfl (iS_l hE19.1 (s := s) (by omega)).1 (by decide) (by decide) rfl (Nat.zero_le _) (Nat.zero_le _) hE19 (fun r115 w116 q117 => ?_)
                rw [q117.1, q117.2]
                rw [show gR ((mS2 X tl (1 - dr) s (gR (D.2.1 s) 0) (mS1 s D)).2.1 s) 0 6 = gR (D.2.1 s) 0 6 from by rw [mS2_2]; rfl]
                obtain ⟨_, _, _, _, _, hLa119⟩ := hE19.2.2.2.1
                refine M.callV (qW_wai l G hb A T tl fx X cl dr (mS2 X tl (1 - dr) s (gR (D.2.1 s) 0) (mS1 s D)) hT (n + 31) hd24 (gR (D.2.1 s) 0 0) (((gR (D.2.1 s) 0 1).toNat : Nat) : Int) (gR (D.2.1 s) 0 6) (by omega) (by omega) (by omega) (tl 2) (by omega)) cv_X1_186 cd_X2_waiting rfl (st := []) rfl hLa119.1 (by decide) (by decide) rfl (Nat.zero_le _) (Nat.zero_le _) hE19 (fun r121 w122 q123 => ?_)
                obtain ⟨q123r, q123e, q123f⟩ := q123
                rw [q123r, show sayV (X (tl 2).toNat 1) (tl 2) (2 * tl 6 + 2) 1 60 (enA (stA tl (mS2 X tl (1 - dr) s (gR (D.2.1 s) 0) (mS1 s D))) (gR (D.2.1 s) 0 0) (((gR (D.2.1 s) 0 1).toNat : Nat) : Int) (gR (D.2.1 s) 0 6)) (ofA (stA tl (mS2 X tl (1 - dr) s (gR (D.2.1 s) 0) (mS1 s D)))) = mWaitA X (stA tl (mS2 X tl (1 - dr) s (gR (D.2.1 s) 0) (mS1 s D))) (gR (D.2.1 s) 0 0) (((gR (D.2.1 s) 0 1).toNat : Nat) : Int) (gR (D.2.1 s) 0 6) from rfl]
                have hE120 : isEn G hb A T tl fx X cl dr (mS2 X tl (1 - dr) s (gR (D.2.1 s) 0) (mS1 s D)) w122 := q123e
                have hF120 : FrE A w w122 := FrE.tr hF19 q123f
                refine M.run 2 (pc' := 248) (lv' := [some (vr (A 13)), some (vi ((s : Nat) : Int)), some (vr (A (3 + 2 * s))), some (vi (gR (D.2.1 s) 0 0)), some (vi (((gR (D.2.1 s) 0 1).toNat : Nat) : Int)), some (vi (mBy (gR (D.2.1 s) 0))), some (vi 0), some (vi (mWaitA X (stA tl (mS2 X tl (1 - dr) s (gR (D.2.1 s) 0) (mS1 s D))) (gR (D.2.1 s) 0 0) (((gR (D.2.1 s) 0 1).toNat : Nat) : Int) (gR (D.2.1 s) 0 6)))]) (st' := [vr (A 13)]) rfl ?_
                refine M.get fl_X1_15 rfl hE120.2.2.1 (kf := 1) (v := vr (A 0)) rfl ?_
                refine M.get fl_X1_145 rfl hE120.1.1 (kf := 9) (v := vr (A 9)) rfl ?_
                refine M.run 2 (pc' := 256) (lv' := [some (vr (A 13)), some (vi ((s : Nat) : Int)), some (vr (A (3 + 2 * s))), some (vi (gR (D.2.1 s) 0 0)), some (vi (((gR (D.2.1 s) 0 1).toNat : Nat) : Int)), some (vi (mBy (gR (D.2.1 s) 0))), some (vi 0), some (vi (mWaitA X (stA tl (mS2 X tl (1 - dr) s (gR (D.2.1 s) 0) (mS1 s D))) (gR (D.2.1 s) 0 0) (((gR (D.2.1 s) 0 1).toNat : Nat) : Int) (gR (D.2.1 s) 0 6)))]) (st' := [vr (A 13), vr (A (3 + 2 * s)), vr (A 9)]) rfl ?_
                refine M.get fl_X1_15 rfl hE120.2.2.1 (kf := 1) (v := vr (A 0)) rfl ?_
                refine M.get fl_X1_116 rfl hE120.1.1 (kf := 1) (v := vi ((mS2 X tl (1 - dr) s (gR (D.2.1 s) 0) (mS1 s D)).1 20)) rfl ?_
                refine M.run 3 (pc' := 266) (lv' := [some (vr (A 13)), some (vi ((s : Nat) : Int)), some (vr (A (3 + 2 * s))), some (vi (gR (D.2.1 s) 0 0)), some (vi (((gR (D.2.1 s) 0 1).toNat : Nat) : Int)), some (vi (mBy (gR (D.2.1 s) 0))), some (vi 0), some (vi (mWaitA X (stA tl (mS2 X tl (1 - dr) s (gR (D.2.1 s) 0) (mS1 s D))) (gR (D.2.1 s) 0 0) (((gR (D.2.1 s) 0 1).toNat : Nat) : Int) (gR (D.2.1 s) 0 6)))]) (st' := [vi ((s : Nat) : Int), vi (((mS2 X tl (1 - dr) s (gR (D.2.1 s) 0) (mS1 s D)).1 20) + (mWaitA X (stA tl (mS2 X tl (1 - dr) s (gR (D.2.1 s) 0) (mS1 s D))) (gR (D.2.1 s) 0 0) (((gR (D.2.1 s) 0 1).toNat : Nat) : Int) (gR (D.2.1 s) 0 6))), vr (A (3 + 2 * s)), vr (A 9)]) rfl ?_
                refine M.callV (qT_add l G hb A T tl fx X cl dr (mS2 X tl (1 - dr) s (gR (D.2.1 s) 0) (mS1 s D)) s (by omega) (by rw [mS2_2]; exact h0) (((mS2 X tl (1 - dr) s (gR (D.2.1 s) 0) (mS1 s D)).1 20) + (mWaitA X (stA tl (mS2 X tl (1 - dr) s (gR (D.2.1 s) 0) (mS1 s D))) (gR (D.2.1 s) 0 0) (((gR (D.2.1 s) 0 1).toNat : Nat) : Int) (gR (D.2.1 s) 0 6))) ((s : Nat) : Int)) cv_X1_182 cd_X4_addFirstOf rfl (st := []) rfl (iS_t hE120.1).1 (by decide) (by decide) rfl (Nat.zero_le _) (Nat.zero_le _) hE120 (fun r126 w127 q128 => ?_)
                obtain ⟨q128r, q128e, q128f⟩ := q128
                rw [q128r]
                have hE125 : isEn G hb A T tl fx X cl dr (mTimer X tl s (mS2 X tl (1 - dr) s (gR (D.2.1 s) 0) (mS1 s D))) w127 := by rw [← tmr_eq (X := X) (a0 := tl) (s := s) (D := (mS2 X tl (1 - dr) s (gR (D.2.1 s) 0) (mS1 s D))) (kd := (gR (D.2.1 s) 0) 0) (bl := (((gR (D.2.1 s) 0 1).toNat : Nat) : Int)) (tr := (gR (D.2.1 s) 0) 6) (by rw [mS2_2]; rfl) (by rw [mS2_2]; exact Int.toNat_of_nonneg hr1.1) (by rw [mS2_2]; rfl)]; exact q128e
                have hF125 : FrE A w w127 := FrE.tr hF120 q128f
                refine M.run 2 (pc' := 271) (lv' := [some (vr (A 13)), some (vi ((s : Nat) : Int)), some (vr (A (3 + 2 * s))), some (vi (gR (D.2.1 s) 0 0)), some (vi (((gR (D.2.1 s) 0 1).toNat : Nat) : Int)), some (vi (mBy (gR (D.2.1 s) 0))), some (vi 0), some (vi (mWaitA X (stA tl (mS2 X tl (1 - dr) s (gR (D.2.1 s) 0) (mS1 s D))) (gR (D.2.1 s) 0 0) (((gR (D.2.1 s) 0 1).toNat : Nat) : Int) (gR (D.2.1 s) 0 6)))]) (st' := [vi 0, vr (A (3 + 2 * s))]) rfl ?_
                refine M.callV (qL_rem l G hb A T tl fx X cl dr (mTimer X tl s (mS2 X tl (1 - dr) s (gR (D.2.1 s) 0) (mS1 s D))) s (by omega) 0 (by rw [mTimer_2, mS2_2]; exact h0)) cv_X1_106 cd_X4_remove rfl (st := []) rfl (iS_l hE125.1 (s := s) (by omega)).1 (by decide) (by decide) rfl (Nat.zero_le _) (Nat.zero_le _) hE125 (fun r131 w132 q133 => ?_)
                obtain ⟨q133r, q133e, q133f⟩ := q133
                rw [q133r]
                have hE130 : isEn G hb A T tl fx X cl dr (mSend X tl (1 - dr) s D) w132 := by unfold mSend mS3; rw [if_pos hcd]; exact q133e
                have hF130 : FrE A w w132 := FrE.tr hF125 q133f
                exact M.vret rfl (Nat.zero_le _) (Nat.zero_le _) ⟨rfl, (by unfold mSnd; rw [if_pos h0]; exact hE130), hF130⟩
          · skip
            refine M.run 4 (pc' := 208) (lv' := [some (vr (A 13)), some (vi ((s : Nat) : Int)), some (vr (A (3 + 2 * s))), some (vi (gR (D.2.1 s) 0 0)), some (vi (((gR (D.2.1 s) 0 1).toNat : Nat) : Int)), some (vi (mBy (gR (D.2.1 s) 0))), some (vi 1), none]) (st' := [vi 1]) rfl ?_
            refine M.if_ne (tgt := 221) rfl (qI (by decide)) (by decide) (fun _ => ?_) (fun q => absurd q (by decide))
            have hcd : ((gR (D.2.1 s) 0) 0 = 0 ∧ 0 < (gR (D.2.1 s) 0) 2) ∨ (gR (D.2.1 s) 0) 0 = 1 ∨ (gR (D.2.1 s) 0) 0 = 3 := Or.inl ⟨by omega, by omega⟩
            refine M.run 1 (pc' := 222) (lv' := [some (vr (A 13)), some (vi ((s : Nat) : Int)), some (vr (A (3 + 2 * s))), some (vi (gR (D.2.1 s) 0 0)), some (vi (((gR (D.2.1 s) 0 1).toNat : Nat) : Int)), some (vi (mBy (gR (D.2.1 s) 0))), some (vi 1), none]) (st' := [vr (A 13)]) rfl ?_
            refine M.get fl_X1_24 rfl hE19.2.2.1 (kf := 2) (v := vr (A 14)) rfl ?_
            refine M.run 1 (pc' := 226) (lv' := [some (vr (A 13)), some (vi ((s : Nat) : Int)), some (vr (A (3 + 2 * s))), some (vi (gR (D.2.1 s) 0 0)), some (vi (((gR (D.2.1 s) 0 1).toNat : Nat) : Int)), some (vi (mBy (gR (D.2.1 s) 0))), some (vi 1), none]) (st' := [vr (A 13), vr (A 14)]) rfl ?_
            refine M.get fl_X1_9 rfl hE19.2.2.1 (kf := 0) (v := vr (T 0)) rfl ?_
            refine M.callV (qO_rul l G hb A T tl fx X cl dr (mS2 X tl (1 - dr) s (gR (D.2.1 s) 0) (mS1 s D)) hT) cv_X1_168 cd_X9_rulingText rfl (st := [vr (A 14)]) rfl hE19.2.1.1 (by decide) (by decide) rfl (Nat.zero_le _) (Nat.zero_le _) hE19 (fun r135 w136 q137 => ?_)
            rw [q137.1, q137.2]
            refine M.run 5 (pc' := 239) (lv' := [some (vr (A 13)), some (vi ((s : Nat) : Int)), some (vr (A (3 + 2 * s))), some (vi (gR (D.2.1 s) 0 0)), some (vi (((gR (D.2.1 s) 0 1).toNat : Nat) : Int)), some (vi (mBy (gR (D.2.1 s) 0))), some (vi 1), none]) (st' := [vi 6, vi 0, vr (A (3 + 2 * s)), vi (((gR (D.2.1 s) 0 1).toNat : Nat) : Int), vi (gR (D.2.1 s) 0 0), .inr (.inr (if 0 ≤ tl 2 ∧ tl 2 < tl 1 then rfO (fx (tl 2).toNat) else none)), vr (A 14)]) rfl ?_
            refine M.callV (qL_get l G hb A T tl fx X cl dr (mS2 X tl (1 - dr) s (gR (D.2.1 s) 0) (mS1 s D)) s (by omega) 0 6 (by rw [mS2_2]; exact h0) (by decide)) cv_X1_88 cd_X4_get rfl (st := [vi (((gR (D.2.1 s) 0 1).toNat : Nat) : Int), vi (gR (D.2.1 s) 0 0), .inr (.inr (if 0 ≤ tl 2 ∧ tl 2 < tl 1 then rfO (fx (tl 2).toNat) else none)), vr (A 14)]) rfl (iS_l hE19.1 (s := s) (by omega)).1 (by decide) (by decide) rfl (Nat.zero_le _) (Nat.zero_le _) hE19 (fun r139 w140 q141 => ?_)
            rw [q141.1, q141.2]
            rw [show gR ((mS2 X tl (1 - dr) s (gR (D.2.1 s) 0) (mS1 s D)).2.1 s) 0 6 = gR (D.2.1 s) 0 6 from by rw [mS2_2]; rfl]
            obtain ⟨_, _, _, _, _, hLa143⟩ := hE19.2.2.2.1
            refine M.callV (qW_wai l G hb A T tl fx X cl dr (mS2 X tl (1 - dr) s (gR (D.2.1 s) 0) (mS1 s D)) hT (n + 31) hd24 (gR (D.2.1 s) 0 0) (((gR (D.2.1 s) 0 1).toNat : Nat) : Int) (gR (D.2.1 s) 0 6) (by omega) (by omega) (by omega) (tl 2) (by omega)) cv_X1_186 cd_X2_waiting rfl (st := []) rfl hLa143.1 (by decide) (by decide) rfl (Nat.zero_le _) (Nat.zero_le _) hE19 (fun r145 w146 q147 => ?_)
            obtain ⟨q147r, q147e, q147f⟩ := q147
            rw [q147r, show sayV (X (tl 2).toNat 1) (tl 2) (2 * tl 6 + 2) 1 60 (enA (stA tl (mS2 X tl (1 - dr) s (gR (D.2.1 s) 0) (mS1 s D))) (gR (D.2.1 s) 0 0) (((gR (D.2.1 s) 0 1).toNat : Nat) : Int) (gR (D.2.1 s) 0 6)) (ofA (stA tl (mS2 X tl (1 - dr) s (gR (D.2.1 s) 0) (mS1 s D)))) = mWaitA X (stA tl (mS2 X tl (1 - dr) s (gR (D.2.1 s) 0) (mS1 s D))) (gR (D.2.1 s) 0 0) (((gR (D.2.1 s) 0 1).toNat : Nat) : Int) (gR (D.2.1 s) 0 6) from rfl]
            have hE144 : isEn G hb A T tl fx X cl dr (mS2 X tl (1 - dr) s (gR (D.2.1 s) 0) (mS1 s D)) w146 := q147e
            have hF144 : FrE A w w146 := FrE.tr hF19 q147f
            refine M.run 2 (pc' := 248) (lv' := [some (vr (A 13)), some (vi ((s : Nat) : Int)), some (vr (A (3 + 2 * s))), some (vi (gR (D.2.1 s) 0 0)), some (vi (((gR (D.2.1 s) 0 1).toNat : Nat) : Int)), some (vi (mBy (gR (D.2.1 s) 0))), some (vi 1), some (vi (mWaitA X (stA tl (mS2 X tl (1 - dr) s (gR (D.2.1 s) 0) (mS1 s D))) (gR (D.2.1 s) 0 0) (((gR (D.2.1 s) 0 1).toNat : Nat) : Int) (gR (D.2.1 s) 0 6)))]) (st' := [vr (A 13)]) rfl ?_
            refine M.get fl_X1_15 rfl hE144.2.2.1 (kf := 1) (v := vr (A 0)) rfl ?_
            refine M.get fl_X1_145 rfl hE144.1.1 (kf := 9) (v := vr (A 9)) rfl ?_
            refine M.run 2 (pc' := 256) (lv' := [some (vr (A 13)), some (vi ((s : Nat) : Int)), some (vr (A (3 + 2 * s))), some (vi (gR (D.2.1 s) 0 0)), some (vi (((gR (D.2.1 s) 0 1).toNat : Nat) : Int)), some (vi (mBy (gR (D.2.1 s) 0))), some (vi 1), some (vi (mWaitA X (stA tl (mS2 X tl (1 - dr) s (gR (D.2.1 s) 0) (mS1 s D))) (gR (D.2.1 s) 0 0) (((gR (D.2.1 s) 0 1).toNat : Nat) : Int) (gR (D.2.1 s) 0 6)))]) (st' := [vr (A 13), vr (A (3 + 2 * s)), vr (A 9)]) rfl ?_
            refine M.get fl_X1_15 rfl hE144.2.2.1 (kf := 1) (v := vr (A 0)) rfl ?_
            refine M.get fl_X1_116 rfl hE144.1.1 (kf := 1) (v := vi ((mS2 X tl (1 - dr) s (gR (D.2.1 s) 0) (mS1 s D)).1 20)) rfl ?_
            refine M.run 3 (pc' := 266) (lv' := [some (vr (A 13)), some (vi ((s : Nat) : Int)), some (vr (A (3 + 2 * s))), some (vi (gR (D.2.1 s) 0 0)), some (vi (((gR (D.2.1 s) 0 1).toNat : Nat) : Int)), some (vi (mBy (gR (D.2.1 s) 0))), some (vi 1), some (vi (mWaitA X (stA tl (mS2 X tl (1 - dr) s (gR (D.2.1 s) 0) (mS1 s D))) (gR (D.2.1 s) 0 0) (((gR (D.2.1 s) 0 1).toNat : Nat) : Int) (gR (D.2.1 s) 0 6)))]) (st' := [vi ((s : Nat) : Int), vi (((mS2 X tl (1 - dr) s (gR (D.2.1 s) 0) (mS1 s D)).1 20) + (mWaitA X (stA tl (mS2 X tl (1 - dr) s (gR (D.2.1 s) 0) (mS1 s D))) (gR (D.2.1 s) 0 0) (((gR (D.2.1 s) 0 1).toNat : Nat) : Int) (gR (D.2.1 s) 0 6))), vr (A (3 + 2 * s)), vr (A 9)]) rfl ?_
            refine M.callV (qT_add l G hb A T tl fx X cl dr (mS2 X tl (1 - dr) s (gR (D.2.1 s) 0) (mS1 s D)) s (by omega) (by rw [mS2_2]; exact h0) (((mS2 X tl (1 - dr) s (gR (D.2.1 s) 0) (mS1 s D)).1 20) + (mWaitA X (stA tl (mS2 X tl (1 - dr) s (gR (D.2.1 s) 0) (mS1 s D))) (gR (D.2.1 s) 0 0) (((gR (D.2.1 s) 0 1).toNat : Nat) : Int) (gR (D.2.1 s) 0 6))) ((s : Nat) : Int)) cv_X1_182 cd_X4_addFirstOf rfl (st := []) rfl (iS_t hE144.1).1 (by decide) (by decide) rfl (Nat.zero_le _) (Nat.zero_le _) hE144 (fun r150 w151 q152 => ?_)
            obtain ⟨q152r, q152e, q152f⟩ := q152
            rw [q152r]
            have hE149 : isEn G hb A T tl fx X cl dr (mTimer X tl s (mS2 X tl (1 - dr) s (gR (D.2.1 s) 0) (mS1 s D))) w151 := by rw [← tmr_eq (X := X) (a0 := tl) (s := s) (D := (mS2 X tl (1 - dr) s (gR (D.2.1 s) 0) (mS1 s D))) (kd := (gR (D.2.1 s) 0) 0) (bl := (((gR (D.2.1 s) 0 1).toNat : Nat) : Int)) (tr := (gR (D.2.1 s) 0) 6) (by rw [mS2_2]; rfl) (by rw [mS2_2]; exact Int.toNat_of_nonneg hr1.1) (by rw [mS2_2]; rfl)]; exact q152e
            have hF149 : FrE A w w151 := FrE.tr hF144 q152f
            refine M.run 2 (pc' := 271) (lv' := [some (vr (A 13)), some (vi ((s : Nat) : Int)), some (vr (A (3 + 2 * s))), some (vi (gR (D.2.1 s) 0 0)), some (vi (((gR (D.2.1 s) 0 1).toNat : Nat) : Int)), some (vi (mBy (gR (D.2.1 s) 0))), some (vi 1), some (vi (mWaitA X (stA tl (mS2 X tl (1 - dr) s (gR (D.2.1 s) 0) (mS1 s D))) (gR (D.2.1 s) 0 0) (((gR (D.2.1 s) 0 1).toNat : Nat) : Int) (gR (D.2.1 s) 0 6)))]) (st' := [vi 0, vr (A (3 + 2 * s))]) rfl ?_
            refine M.callV (qL_rem l G hb A T tl fx X cl dr (mTimer X tl s (mS2 X tl (1 - dr) s (gR (D.2.1 s) 0) (mS1 s D))) s (by omega) 0 (by rw [mTimer_2, mS2_2]; exact h0)) cv_X1_106 cd_X4_remove rfl (st := []) rfl (iS_l hE149.1 (s := s) (by omega)).1 (by decide) (by decide) rfl (Nat.zero_le _) (Nat.zero_le _) hE149 (fun r155 w156 q157 => ?_)
            obtain ⟨q157r, q157e, q157f⟩ := q157
            rw [q157r]
            have hE154 : isEn G hb A T tl fx X cl dr (mSend X tl (1 - dr) s D) w156 := by unfold mSend mS3; rw [if_pos hcd]; exact q157e
            have hF154 : FrE A w w156 := FrE.tr hF149 q157f
            exact M.vret rfl (Nat.zero_le _) (Nat.zero_le _) ⟨rfl, (by unfold mSnd; rw [if_pos h0]; exact hE154), hF154⟩
      · skip
        have hd159 : Dok (n + 31) (mS1 s D) := hd1
        refine M.run 1 (pc' := 92) (lv' := [some (vr (A 13)), some (vi ((s : Nat) : Int)), some (vr (A (3 + 2 * s))), some (vi (gR (D.2.1 s) 0 0)), some (vi (((gR (D.2.1 s) 0 1).toNat : Nat) : Int)), some (vi (mBy (gR (D.2.1 s) 0))), none, none]) (st' := [vr (A 13)]) rfl ?_
        refine M.get fl_X1_15 rfl hE14.2.2.1 (kf := 1) (v := vr (A 0)) rfl ?_
        refine M.callV (qS_drawn l G hb A T tl fx X cl dr (mS1 s D) ⟨by omega, by omega⟩) cv_X1_164 cd_X6_drawn rfl (st := []) rfl hE14.1.1 (by decide) (by decide) rfl (Nat.zero_le _) (Nat.zero_le _) hE14 (fun r161 w162 q163 => ?_)
        obtain ⟨q163r, q163e, q163f⟩ := q163
        rw [q163r]
        have hE160 : isEn G hb A T tl fx X cl dr (mAnew (mS1 s D)) w162 := q163e
        have hF160 : FrE A w w162 := FrE.tr hF14 q163f
        have hd165 : Dok (n + 31) (mAnew (mS1 s D)) := hda
        refine M.run 1 (pc' := 99) (lv' := [some (vr (A 13)), some (vi ((s : Nat) : Int)), some (vr (A (3 + 2 * s))), some (vi (gR (D.2.1 s) 0 0)), some (vi (((gR (D.2.1 s) 0 1).toNat : Nat) : Int)), some (vi (mBy (gR (D.2.1 s) 0))), none, none]) (st' := [vr (A 13), vi (((mS1 s D).1 19).tmod 10)]) rfl ?_
        refine M.get fl_X1_24 rfl hE160.2.2.1 (kf := 2) (v := vr (A 14)) rfl ?_
        refine M.run 1 (pc' := 103) (lv' := [some (vr (A 13)), some (vi ((s : Nat) : Int)), some (vr (A (3 + 2 * s))), some (vi (gR (D.2.1 s) 0 0)), some (vi (((gR (D.2.1 s) 0 1).toNat : Nat) : Int)), some (vi (mBy (gR (D.2.1 s) 0))), none, none]) (st' := [vr (A 13), vr (A 14), vi (((mS1 s D).1 19).tmod 10)]) rfl ?_
        refine M.get fl_X1_9 rfl hE160.2.2.1 (kf := 0) (v := vr (T 0)) rfl ?_
        refine M.callV (qO_rul l G hb A T tl fx X cl dr (mAnew (mS1 s D)) hT) cv_X1_168 cd_X9_rulingText rfl (st := [vr (A 14), vi (((mS1 s D).1 19).tmod 10)]) rfl hE160.2.1.1 (by decide) (by decide) rfl (Nat.zero_le _) (Nat.zero_le _) hE160 (fun r166 w167 q168 => ?_)
        rw [q168.1, q168.2]
        refine M.run 3 (pc' := 114) (lv' := [some (vr (A 13)), some (vi ((s : Nat) : Int)), some (vr (A (3 + 2 * s))), some (vi (gR (D.2.1 s) 0 0)), some (vi (((gR (D.2.1 s) 0 1).toNat : Nat) : Int)), some (vi (mBy (gR (D.2.1 s) 0))), none, none]) (st' := [vi (mBy (gR (D.2.1 s) 0)), vi (((gR (D.2.1 s) 0 1).toNat : Nat) : Int), vi (gR (D.2.1 s) 0 0), .inr (.inr (if 0 ≤ tl 2 ∧ tl 2 < tl 1 then rfO (fx (tl 2).toNat) else none)), vr (A 14), vi (((mS1 s D).1 19).tmod 10)]) rfl ?_
        obtain ⟨_, _, _, _, _, hLa170⟩ := hE160.2.2.2.1
        refine M.callV (qW_los l G hb A T tl fx X cl dr (mAnew (mS1 s D)) hT (n + 31) hd165 (gR (D.2.1 s) 0 0) (((gR (D.2.1 s) 0 1).toNat : Nat) : Int) (mBy (gR (D.2.1 s) 0)) (by omega) (by omega) (by omega) (tl 2) (by omega)) cv_X1_172 cd_X2_losing rfl (st := [vi (((mS1 s D).1 19).tmod 10)]) rfl hLa170.1 (by decide) (by decide) rfl (Nat.zero_le _) (Nat.zero_le _) hE160 (fun r172 w173 q174 => ?_)
        obtain ⟨q174r, q174e, q174f⟩ := q174
        rw [q174r, show sayV (X (tl 2).toNat 0) (tl 2) 2 0 10 (enA (stA tl (mAnew (mS1 s D))) (gR (D.2.1 s) 0 0) (((gR (D.2.1 s) 0 1).toNat : Nat) : Int) (mBy (gR (D.2.1 s) 0))) (ofA (stA tl (mAnew (mS1 s D)))) = mLossA X (stA tl (mAnew (mS1 s D))) (tl 2) (gR (D.2.1 s) 0 0) (((gR (D.2.1 s) 0 1).toNat : Nat) : Int) (mBy (gR (D.2.1 s) 0)) from rfl]
        have hE171 : isEn G hb A T tl fx X cl dr (mAnew (mS1 s D)) w173 := q174e
        have hF171 : FrE A w w173 := FrE.tr hF160 q174f
        have hlb := mLossA_b (X := X) (a := stA tl (mAnew (mS1 s D))) (z := tl 2) (kind := (gR (D.2.1 s) 0) 0) (c := (((gR (D.2.1 s) 0 1).toNat : Nat) : Int)) (x := mBy (gR (D.2.1 s) 0))
        refine M.icmp_ge (tgt := 157) rfl (qI (by omega)) (qI (by omega)) (by decide) (fun h117 => ?_) (fun h117 => ?_)
        · skip
          refine M.run 1 (pc' := 158) (lv' := [some (vr (A 13)), some (vi ((s : Nat) : Int)), some (vr (A (3 + 2 * s))), some (vi (gR (D.2.1 s) 0 0)), some (vi (((gR (D.2.1 s) 0 1).toNat : Nat) : Int)), some (vi (mBy (gR (D.2.1 s) 0))), none, none]) (st' := [vr (A 13)]) rfl ?_
          refine M.get fl_X1_15 rfl hE171.2.2.1 (kf := 1) (v := vr (A 0)) rfl ?_
          refine M.get fl_X1_100 rfl hE171.1.1 (kf := 8) (v := vr (A 7)) rfl ?_
          refine M.run 2 (pc' := 166) (lv' := [some (vr (A 13)), some (vi ((s : Nat) : Int)), some (vr (A (3 + 2 * s))), some (vi (gR (D.2.1 s) 0 0)), some (vi (((gR (D.2.1 s) 0 1).toNat : Nat) : Int)), some (vi (mBy (gR (D.2.1 s) 0))), none, none]) (st' := [vr (A 13), vr (A (3 + 2 * s)), vr (A 7)]) rfl ?_
          refine M.get fl_X1_15 rfl hE171.2.2.1 (kf := 1) (v := vr (A 0)) rfl ?_
          refine M.get fl_X1_61 rfl hE171.1.1 (kf := 0) (v := vi ((mAnew (mS1 s D)).1 18)) rfl ?_
          refine M.run 1 (pc' := 173) (lv' := [some (vr (A 13)), some (vi ((s : Nat) : Int)), some (vr (A (3 + 2 * s))), some (vi (gR (D.2.1 s) 0 0)), some (vi (((gR (D.2.1 s) 0 1).toNat : Nat) : Int)), some (vi (mBy (gR (D.2.1 s) 0))), none, none]) (st' := [vr (A 13), vi ((mAnew (mS1 s D)).1 18), vr (A (3 + 2 * s)), vr (A 7)]) rfl ?_
          refine M.get fl_X1_9 rfl hE171.2.2.1 (kf := 0) (v := vr (T 0)) rfl ?_
          refine M.get fl_X1_179 rfl hE171.2.1.1 (kf := 6) (v := vi (tl 6)) rfl ?_
          refine M.run 4 (pc' := 183) (lv' := [some (vr (A 13)), some (vi ((s : Nat) : Int)), some (vr (A (3 + 2 * s))), some (vi (gR (D.2.1 s) 0 0)), some (vi (((gR (D.2.1 s) 0 1).toNat : Nat) : Int)), some (vi (mBy (gR (D.2.1 s) 0))), none, none]) (st' := [vi (1 - ((s : Nat) : Int)), vi (((mAnew (mS1 s D)).1 18) + (tl 6)), vr (A (3 + 2 * s)), vr (A 7)]) rfl ?_
          refine M.callV (qF_add l G hb A T tl fx X cl dr (mAnew (mS1 s D)) s (by omega) h0 (((mAnew (mS1 s D)).1 18) + (tl 6)) (1 - ((s : Nat) : Int))) cv_X1_182 cd_X4_addFirstOf rfl (st := []) rfl (iS_f hE171.1).1 (by decide) (by decide) rfl (Nat.zero_le _) (Nat.zero_le _) hE171 (fun r177 w178 q179 => ?_)
          obtain ⟨q179r, q179e, q179f⟩ := q179
          rw [q179r]
          have hE176 : isEn G hb A T tl fx X cl dr (mS2 X tl (1 - dr) s (gR (D.2.1 s) 0) (mS1 s D)) w178 := by unfold mS2; rw [if_pos (by omega), if_neg (by omega), ← fly_eq (a0 := tl) (v := (mAnew (mS1 s D)).1 18 + tl 6) (z := 1 - (s : Int)) (show (mAnew (mS1 s D)).2.2.1.length < 40 from hf) rfl rfl]; exact q179e
          have hF176 : FrE A w w178 := FrE.tr hF171 q179f
          have hd181 : Dok (n + 31) (mS2 X tl (1 - dr) s (gR (D.2.1 s) 0) (mS1 s D)) := hd2
          refine M.run 1 (pc' := 187) (lv' := [some (vr (A 13)), some (vi ((s : Nat) : Int)), some (vr (A (3 + 2 * s))), some (vi (gR (D.2.1 s) 0 0)), some (vi (((gR (D.2.1 s) 0 1).toNat : Nat) : Int)), some (vi (mBy (gR (D.2.1 s) 0))), none, none]) (st' := [vi (gR (D.2.1 s) 0 0)]) rfl ?_
          refine M.if_ne (tgt := 203) rfl (qI (by omega)) (by decide) (fun h187 => ?_) (fun h187 => ?_)
          · skip
            refine M.run 3 (pc' := 208) (lv' := [some (vr (A 13)), some (vi ((s : Nat) : Int)), some (vr (A (3 + 2 * s))), some (vi (gR (D.2.1 s) 0 0)), some (vi (((gR (D.2.1 s) 0 1).toNat : Nat) : Int)), some (vi (mBy (gR (D.2.1 s) 0))), some (vi 0), none]) (st' := [vi 0]) rfl ?_
            refine M.if_ne (tgt := 221) rfl (qI (by decide)) (by decide) (fun q => absurd q (by decide)) (fun _ => ?_)
            refine M.run 2 (pc' := 213) (lv' := [some (vr (A 13)), some (vi ((s : Nat) : Int)), some (vr (A (3 + 2 * s))), some (vi (gR (D.2.1 s) 0 0)), some (vi (((gR (D.2.1 s) 0 1).toNat : Nat) : Int)), some (vi (mBy (gR (D.2.1 s) 0))), some (vi 0), none]) (st' := [vi 1, vi (gR (D.2.1 s) 0 0)]) rfl ?_
            refine M.icmp_eq (tgt := 221) rfl (qI (by omega)) (qI (by decide)) (by decide) (fun h213 => ?_) (fun h213 => ?_)
            · skip
              have hcd : ((gR (D.2.1 s) 0) 0 = 0 ∧ 0 < (gR (D.2.1 s) 0) 2) ∨ (gR (D.2.1 s) 0) 0 = 1 ∨ (gR (D.2.1 s) 0) 0 = 3 := Or.inr (Or.inl (by omega))
              refine M.run 1 (pc' := 222) (lv' := [some (vr (A 13)), some (vi ((s : Nat) : Int)), some (vr (A (3 + 2 * s))), some (vi (gR (D.2.1 s) 0 0)), some (vi (((gR (D.2.1 s) 0 1).toNat : Nat) : Int)), some (vi (mBy (gR (D.2.1 s) 0))), some (vi 0), none]) (st' := [vr (A 13)]) rfl ?_
              refine M.get fl_X1_24 rfl hE176.2.2.1 (kf := 2) (v := vr (A 14)) rfl ?_
              refine M.run 1 (pc' := 226) (lv' := [some (vr (A 13)), some (vi ((s : Nat) : Int)), some (vr (A (3 + 2 * s))), some (vi (gR (D.2.1 s) 0 0)), some (vi (((gR (D.2.1 s) 0 1).toNat : Nat) : Int)), some (vi (mBy (gR (D.2.1 s) 0))), some (vi 0), none]) (st' := [vr (A 13), vr (A 14)]) rfl ?_
              refine M.get fl_X1_9 rfl hE176.2.2.1 (kf := 0) (v := vr (T 0)) rfl ?_
              refine M.callV (qO_rul l G hb A T tl fx X cl dr (mS2 X tl (1 - dr) s (gR (D.2.1 s) 0) (mS1 s D)) hT) cv_X1_168 cd_X9_rulingText rfl (st := [vr (A 14)]) rfl hE176.2.1.1 (by decide) (by decide) rfl (Nat.zero_le _) (Nat.zero_le _) hE176 (fun r182 w183 q184 => ?_)
              rw [q184.1, q184.2]
              refine M.run 5 (pc' := 239) (lv' := [some (vr (A 13)), some (vi ((s : Nat) : Int)), some (vr (A (3 + 2 * s))), some (vi (gR (D.2.1 s) 0 0)), some (vi (((gR (D.2.1 s) 0 1).toNat : Nat) : Int)), some (vi (mBy (gR (D.2.1 s) 0))), some (vi 0), none]) (st' := [vi 6, vi 0, vr (A (3 + 2 * s)), vi (((gR (D.2.1 s) 0 1).toNat : Nat) : Int), vi (gR (D.2.1 s) 0 0), .inr (.inr (if 0 ≤ tl 2 ∧ tl 2 < tl 1 then rfO (fx (tl 2).toNat) else none)), vr (A 14)]) rfl ?_
              refine M.callV (qL_get l G hb A T tl fx X cl dr (mS2 X tl (1 - dr) s (gR (D.2.1 s) 0) (mS1 s D)) s (by omega) 0 6 (by rw [mS2_2]; exact h0) (by decide)) cv_X1_88 cd_X4_get rfl (st := [vi (((gR (D.2.1 s) 0 1).toNat : Nat) : Int), vi (gR (D.2.1 s) 0 0), .inr (.inr (if 0 ≤ tl 2 ∧ tl 2 < tl 1 then rfO (fx (tl 2).toNat) else none)), vr (A 14)]) rfl (iS_l hE176.1 (s := s) (by omega)).1 (by decide) (by decide) rfl (Nat.zero_le _) (Nat.zero_le _) hE176 (fun r186 w187 q188 => ?_)
              rw [q188.1, q188.2]
              rw [show gR ((mS2 X tl (1 - dr) s (gR (D.2.1 s) 0) (mS1 s D)).2.1 s) 0 6 = gR (D.2.1 s) 0 6 from by rw [mS2_2]; rfl]
              obtain ⟨_, _, _, _, _, hLa190⟩ := hE176.2.2.2.1
              refine M.callV (qW_wai l G hb A T tl fx X cl dr (mS2 X tl (1 - dr) s (gR (D.2.1 s) 0) (mS1 s D)) hT (n + 31) hd181 (gR (D.2.1 s) 0 0) (((gR (D.2.1 s) 0 1).toNat : Nat) : Int) (gR (D.2.1 s) 0 6) (by omega) (by omega) (by omega) (tl 2) (by omega)) cv_X1_186 cd_X2_waiting rfl (st := []) rfl hLa190.1 (by decide) (by decide) rfl (Nat.zero_le _) (Nat.zero_le _) hE176 (fun r192 w193 q194 => ?_)
              obtain ⟨q194r, q194e, q194f⟩ := q194
              rw [q194r, show sayV (X (tl 2).toNat 1) (tl 2) (2 * tl 6 + 2) 1 60 (enA (stA tl (mS2 X tl (1 - dr) s (gR (D.2.1 s) 0) (mS1 s D))) (gR (D.2.1 s) 0 0) (((gR (D.2.1 s) 0 1).toNat : Nat) : Int) (gR (D.2.1 s) 0 6)) (ofA (stA tl (mS2 X tl (1 - dr) s (gR (D.2.1 s) 0) (mS1 s D)))) = mWaitA X (stA tl (mS2 X tl (1 - dr) s (gR (D.2.1 s) 0) (mS1 s D))) (gR (D.2.1 s) 0 0) (((gR (D.2.1 s) 0 1).toNat : Nat) : Int) (gR (D.2.1 s) 0 6) from rfl]
              have hE191 : isEn G hb A T tl fx X cl dr (mS2 X tl (1 - dr) s (gR (D.2.1 s) 0) (mS1 s D)) w193 := q194e
              have hF191 : FrE A w w193 := FrE.tr hF176 q194f
              refine M.run 2 (pc' := 248) (lv' := [some (vr (A 13)), some (vi ((s : Nat) : Int)), some (vr (A (3 + 2 * s))), some (vi (gR (D.2.1 s) 0 0)), some (vi (((gR (D.2.1 s) 0 1).toNat : Nat) : Int)), some (vi (mBy (gR (D.2.1 s) 0))), some (vi 0), some (vi (mWaitA X (stA tl (mS2 X tl (1 - dr) s (gR (D.2.1 s) 0) (mS1 s D))) (gR (D.2.1 s) 0 0) (((gR (D.2.1 s) 0 1).toNat : Nat) : Int) (gR (D.2.1 s) 0 6)))]) (st' := [vr (A 13)]) rfl ?_
              refine M.get fl_X1_15 rfl hE191.2.2.1 (kf := 1) (v := vr (A 0)) rfl ?_
              refine M.get fl_X1_145 rfl hE191.1.1 (kf := 9) (v := vr (A 9)) rfl ?_
              refine M.run 2 (pc' := 256) (lv' := [some (vr (A 13)), some (vi ((s : Nat) : Int)), some (vr (A (3 + 2 * s))), some (vi (gR (D.2.1 s) 0 0)), some (vi (((gR (D.2.1 s) 0 1).toNat : Nat) : Int)), some (vi (mBy (gR (D.2.1 s) 0))), some (vi 0), some (vi (mWaitA X (stA tl (mS2 X tl (1 - dr) s (gR (D.2.1 s) 0) (mS1 s D))) (gR (D.2.1 s) 0 0) (((gR (D.2.1 s) 0 1).toNat : Nat) : Int) (gR (D.2.1 s) 0 6)))]) (st' := [vr (A 13), vr (A (3 + 2 * s)), vr (A 9)]) rfl ?_
              refine M.get fl_X1_15 rfl hE191.2.2.1 (kf := 1) (v := vr (A 0)) rfl ?_
              refine M.get fl_X1_116 rfl hE191.1.1 (kf := 1) (v := vi ((mS2 X tl (1 - dr) s (gR (D.2.1 s) 0) (mS1 s D)).1 20)) rfl ?_
              refine M.run 3 (pc' := 266) (lv' := [some (vr (A 13)), some (vi ((s : Nat) : Int)), some (vr (A (3 + 2 * s))), some (vi (gR (D.2.1 s) 0 0)), some (vi (((gR (D.2.1 s) 0 1).toNat : Nat) : Int)), some (vi (mBy (gR (D.2.1 s) 0))), some (vi 0), some (vi (mWaitA X (stA tl (mS2 X tl (1 - dr) s (gR (D.2.1 s) 0) (mS1 s D))) (gR (D.2.1 s) 0 0) (((gR (D.2.1 s) 0 1).toNat : Nat) : Int) (gR (D.2.1 s) 0 6)))]) (st' := [vi ((s : Nat) : Int), vi (((mS2 X tl (1 - dr) s (gR (D.2.1 s) 0) (mS1 s D)).1 20) + (mWaitA X (stA tl (mS2 X tl (1 - dr) s (gR (D.2.1 s) 0) (mS1 s D))) (gR (D.2.1 s) 0 0) (((gR (D.2.1 s) 0 1).toNat : Nat) : Int) (gR (D.2.1 s) 0 6))), vr (A (3 + 2 * s)), vr (A 9)]) rfl ?_
              refine M.callV (qT_add l G hb A T tl fx X cl dr (mS2 X tl (1 - dr) s (gR (D.2.1 s) 0) (mS1 s D)) s (by omega) (by rw [mS2_2]; exact h0) (((mS2 X tl (1 - dr) s (gR (D.2.1 s) 0) (mS1 s D)).1 20) + (mWaitA X (stA tl (mS2 X tl (1 - dr) s (gR (D.2.1 s) 0) (mS1 s D))) (gR (D.2.1 s) 0 0) (((gR (D.2.1 s) 0 1).toNat : Nat) : Int) (gR (D.2.1 s) 0 6))) ((s : Nat) : Int)) cv_X1_182 cd_X4_addFirstOf rfl (st := []) rfl (iS_t hE191.1).1 (by decide) (by decide) rfl (Nat.zero_le _) (Nat.zero_le _) hE191 (fun r197 w198 q199 => ?_)
              obtain ⟨q199r, q199e, q199f⟩ := q199
              rw [q199r]
              have hE196 : isEn G hb A T tl fx X cl dr (mTimer X tl s (mS2 X tl (1 - dr) s (gR (D.2.1 s) 0) (mS1 s D))) w198 := by rw [← tmr_eq (X := X) (a0 := tl) (s := s) (D := (mS2 X tl (1 - dr) s (gR (D.2.1 s) 0) (mS1 s D))) (kd := (gR (D.2.1 s) 0) 0) (bl := (((gR (D.2.1 s) 0 1).toNat : Nat) : Int)) (tr := (gR (D.2.1 s) 0) 6) (by rw [mS2_2]; rfl) (by rw [mS2_2]; exact Int.toNat_of_nonneg hr1.1) (by rw [mS2_2]; rfl)]; exact q199e
              have hF196 : FrE A w w198 := FrE.tr hF191 q199f
              refine M.run 2 (pc' := 271) (lv' := [some (vr (A 13)), some (vi ((s : Nat) : Int)), some (vr (A (3 + 2 * s))), some (vi (gR (D.2.1 s) 0 0)), some (vi (((gR (D.2.1 s) 0 1).toNat : Nat) : Int)), some (vi (mBy (gR (D.2.1 s) 0))), some (vi 0), some (vi (mWaitA X (stA tl (mS2 X tl (1 - dr) s (gR (D.2.1 s) 0) (mS1 s D))) (gR (D.2.1 s) 0 0) (((gR (D.2.1 s) 0 1).toNat : Nat) : Int) (gR (D.2.1 s) 0 6)))]) (st' := [vi 0, vr (A (3 + 2 * s))]) rfl ?_
              refine M.callV (qL_rem l G hb A T tl fx X cl dr (mTimer X tl s (mS2 X tl (1 - dr) s (gR (D.2.1 s) 0) (mS1 s D))) s (by omega) 0 (by rw [mTimer_2, mS2_2]; exact h0)) cv_X1_106 cd_X4_remove rfl (st := []) rfl (iS_l hE196.1 (s := s) (by omega)).1 (by decide) (by decide) rfl (Nat.zero_le _) (Nat.zero_le _) hE196 (fun r202 w203 q204 => ?_)
              obtain ⟨q204r, q204e, q204f⟩ := q204
              rw [q204r]
              have hE201 : isEn G hb A T tl fx X cl dr (mSend X tl (1 - dr) s D) w203 := by unfold mSend mS3; rw [if_pos hcd]; exact q204e
              have hF201 : FrE A w w203 := FrE.tr hF196 q204f
              exact M.vret rfl (Nat.zero_le _) (Nat.zero_le _) ⟨rfl, (by unfold mSnd; rw [if_pos h0]; exact hE201), hF201⟩
            · skip
              refine M.run 2 (pc' := 218) (lv' := [some (vr (A 13)), some (vi ((s : Nat) : Int)), some (vr (A (3 + 2 * s))), some (vi (gR (D.2.1 s) 0 0)), some (vi (((gR (D.2.1 s) 0 1).toNat : Nat) : Int)), some (vi (mBy (gR (D.2.1 s) 0))), some (vi 0), none]) (st' := [vi 3, vi (gR (D.2.1 s) 0 0)]) rfl ?_
              refine M.icmp_ne (tgt := 269) rfl (qI (by omega)) (qI (by decide)) (by decide) (fun h218 => ?_) (fun h218 => ?_)
              · skip
                have hcd : ¬ (((gR (D.2.1 s) 0) 0 = 0 ∧ 0 < (gR (D.2.1 s) 0) 2) ∨ (gR (D.2.1 s) 0) 0 = 1 ∨ (gR (D.2.1 s) 0) 0 = 3) := by omega
                refine M.run 2 (pc' := 271) (lv' := [some (vr (A 13)), some (vi ((s : Nat) : Int)), some (vr (A (3 + 2 * s))), some (vi (gR (D.2.1 s) 0 0)), some (vi (((gR (D.2.1 s) 0 1).toNat : Nat) : Int)), some (vi (mBy (gR (D.2.1 s) 0))), some (vi 0), none]) (st' := [vi 0, vr (A (3 + 2 * s))]) rfl ?_
                refine M.callV (qL_rem l G hb A T tl fx X cl dr (mS2 X tl (1 - dr) s (gR (D.2.1 s) 0) (mS1 s D)) s (by omega) 0 (by rw [mS2_2]; exact h0)) cv_X1_106 cd_X4_remove rfl (st := []) rfl (iS_l hE176.1 (s := s) (by omega)).1 (by decide) (by decide) rfl (Nat.zero_le _) (Nat.zero_le _) hE176 (fun r207 w208 q209 => ?_)
                obtain ⟨q209r, q209e, q209f⟩ := q209
                rw [q209r]
                have hE206 : isEn G hb A T tl fx X cl dr (mSend X tl (1 - dr) s D) w208 := by unfold mSend mS3; rw [if_neg hcd]; exact q209e
                have hF206 : FrE A w w208 := FrE.tr hF176 q209f
                exact M.vret rfl (Nat.zero_le _) (Nat.zero_le _) ⟨rfl, (by unfold mSnd; rw [if_pos h0]; exact hE206), hF206⟩
              · skip
                have hcd : ((gR (D.2.1 s) 0) 0 = 0 ∧ 0 < (gR (D.2.1 s) 0) 2) ∨ (gR (D.2.1 s) 0) 0 = 1 ∨ (gR (D.2.1 s) 0) 0 = 3 := Or.inr (Or.inr (by omega))
                refine M.run 1 (pc' := 222) (lv' := [some (vr (A 13)), some (vi ((s : Nat) : Int)), some (vr (A (3 + 2 * s))), some (vi (gR (D.2.1 s) 0 0)), some (vi (((gR (D.2.1 s) 0 1).toNat : Nat) : Int)), some (vi (mBy (gR (D.2.1 s) 0))), some (vi 0), none]) (st' := [vr (A 13)]) rfl ?_
                refine M.get fl_X1_24 rfl hE176.2.2.1 (kf := 2) (v := vr (A 14)) rfl ?_
                refine M.run 1 (pc' := 226) (lv' := [some (vr (A 13)), some (vi ((s : Nat) : Int)), some (vr (A (3 + 2 * s))), some (vi (gR (D.2.1 s) 0 0)), some (vi (((gR (D.2.1 s) 0 1).toNat : Nat) : Int)), some (vi (mBy (gR (D.2.1 s) 0))), some (vi 0), none]) (st' := [vr (A 13), vr (A 14)]) rfl ?_
                refine M.get fl_X1_9 rfl hE176.2.2.1 (kf := 0) (v := vr (T 0)) rfl ?_
                refine M.callV (qO_rul l G hb A T tl fx X cl dr (mS2 X tl (1 - dr) s (gR (D.2.1 s) 0) (mS1 s D)) hT) cv_X1_168 cd_X9_rulingText rfl (st := [vr (A 14)]) rfl hE176.2.1.1 (by decide) (by decide) rfl (Nat.zero_le _) (Nat.zero_le _) hE176 (fun r211 w212 q213 => ?_)
                rw [q213.1, q213.2]
                refine M.run 5 (pc' := 239) (lv' := [some (vr (A 13)), some (vi ((s : Nat) : Int)), some (vr (A (3 + 2 * s))), some (vi (gR (D.2.1 s) 0 0)), some (vi (((gR (D.2.1 s) 0 1).toNat : Nat) : Int)), some (vi (mBy (gR (D.2.1 s) 0))), some (vi 0), none]) (st' := [vi 6, vi 0, vr (A (3 + 2 * s)), vi (((gR (D.2.1 s) 0 1).toNat : Nat) : Int), vi (gR (D.2.1 s) 0 0), .inr (.inr (if 0 ≤ tl 2 ∧ tl 2 < tl 1 then rfO (fx (tl 2).toNat) else none)), vr (A 14)]) rfl ?_
                refine M.callV (qL_get l G hb A T tl fx X cl dr (mS2 X tl (1 - dr) s (gR (D.2.1 s) 0) (mS1 s D)) s (by omega) 0 6 (by rw [mS2_2]; exact h0) (by decide)) cv_X1_88 cd_X4_get rfl (st := [vi (((gR (D.2.1 s) 0 1).toNat : Nat) : Int), vi (gR (D.2.1 s) 0 0), .inr (.inr (if 0 ≤ tl 2 ∧ tl 2 < tl 1 then rfO (fx (tl 2).toNat) else none)), vr (A 14)]) rfl (iS_l hE176.1 (s := s) (by omega)).1 (by decide) (by decide) rfl (Nat.zero_le _) (Nat.zero_le _) hE176 (fun r215 w216 q217 => ?_)
                rw [q217.1, q217.2]
                rw [show gR ((mS2 X tl (1 - dr) s (gR (D.2.1 s) 0) (mS1 s D)).2.1 s) 0 6 = gR (D.2.1 s) 0 6 from by rw [mS2_2]; rfl]
                obtain ⟨_, _, _, _, _, hLa219⟩ := hE176.2.2.2.1
                refine M.callV (qW_wai l G hb A T tl fx X cl dr (mS2 X tl (1 - dr) s (gR (D.2.1 s) 0) (mS1 s D)) hT (n + 31) hd181 (gR (D.2.1 s) 0 0) (((gR (D.2.1 s) 0 1).toNat : Nat) : Int) (gR (D.2.1 s) 0 6) (by omega) (by omega) (by omega) (tl 2) (by omega)) cv_X1_186 cd_X2_waiting rfl (st := []) rfl hLa219.1 (by decide) (by decide) rfl (Nat.zero_le _) (Nat.zero_le _) hE176 (fun r221 w222 q223 => ?_)
                obtain ⟨q223r, q223e, q223f⟩ := q223
                rw [q223r, show sayV (X (tl 2).toNat 1) (tl 2) (2 * tl 6 + 2) 1 60 (enA (stA tl (mS2 X tl (1 - dr) s (gR (D.2.1 s) 0) (mS1 s D))) (gR (D.2.1 s) 0 0) (((gR (D.2.1 s) 0 1).toNat : Nat) : Int) (gR (D.2.1 s) 0 6)) (ofA (stA tl (mS2 X tl (1 - dr) s (gR (D.2.1 s) 0) (mS1 s D)))) = mWaitA X (stA tl (mS2 X tl (1 - dr) s (gR (D.2.1 s) 0) (mS1 s D))) (gR (D.2.1 s) 0 0) (((gR (D.2.1 s) 0 1).toNat : Nat) : Int) (gR (D.2.1 s) 0 6) from rfl]
                have hE220 : isEn G hb A T tl fx X cl dr (mS2 X tl (1 - dr) s (gR (D.2.1 s) 0) (mS1 s D)) w222 := q223e
                have hF220 : FrE A w w222 := FrE.tr hF176 q223f
                refine M.run 2 (pc' := 248) (lv' := [some (vr (A 13)), some (vi ((s : Nat) : Int)), some (vr (A (3 + 2 * s))), some (vi (gR (D.2.1 s) 0 0)), some (vi (((gR (D.2.1 s) 0 1).toNat : Nat) : Int)), some (vi (mBy (gR (D.2.1 s) 0))), some (vi 0), some (vi (mWaitA X (stA tl (mS2 X tl (1 - dr) s (gR (D.2.1 s) 0) (mS1 s D))) (gR (D.2.1 s) 0 0) (((gR (D.2.1 s) 0 1).toNat : Nat) : Int) (gR (D.2.1 s) 0 6)))]) (st' := [vr (A 13)]) rfl ?_
                refine M.get fl_X1_15 rfl hE220.2.2.1 (kf := 1) (v := vr (A 0)) rfl ?_
                refine M.get fl_X1_145 rfl hE220.1.1 (kf := 9) (v := vr (A 9)) rfl ?_
                refine M.run 2 (pc' := 256) (lv' := [some (vr (A 13)), some (vi ((s : Nat) : Int)), some (vr (A (3 + 2 * s))), some (vi (gR (D.2.1 s) 0 0)), some (vi (((gR (D.2.1 s) 0 1).toNat : Nat) : Int)), some (vi (mBy (gR (D.2.1 s) 0))), some (vi 0), some (vi (mWaitA X (stA tl (mS2 X tl (1 - dr) s (gR (D.2.1 s) 0) (mS1 s D))) (gR (D.2.1 s) 0 0) (((gR (D.2.1 s) 0 1).toNat : Nat) : Int) (gR (D.2.1 s) 0 6)))]) (st' := [vr (A 13), vr (A (3 + 2 * s)), vr (A 9)]) rfl ?_
                refine M.get fl_X1_15 rfl hE220.2.2.1 (kf := 1) (v := vr (A 0)) rfl ?_
                refine M.get fl_X1_116 rfl hE220.1.1 (kf := 1) (v := vi ((mS2 X tl (1 - dr) s (gR (D.2.1 s) 0) (mS1 s D)).1 20)) rfl ?_
                refine M.run 3 (pc' := 266) (lv' := [some (vr (A 13)), some (vi ((s : Nat) : Int)), some (vr (A (3 + 2 * s))), some (vi (gR (D.2.1 s) 0 0)), some (vi (((gR (D.2.1 s) 0 1).toNat : Nat) : Int)), some (vi (mBy (gR (D.2.1 s) 0))), some (vi 0), some (vi (mWaitA X (stA tl (mS2 X tl (1 - dr) s (gR (D.2.1 s) 0) (mS1 s D))) (gR (D.2.1 s) 0 0) (((gR (D.2.1 s) 0 1).toNat : Nat) : Int) (gR (D.2.1 s) 0 6)))]) (st' := [vi ((s : Nat) : Int), vi (((mS2 X tl (1 - dr) s (gR (D.2.1 s) 0) (mS1 s D)).1 20) + (mWaitA X (stA tl (mS2 X tl (1 - dr) s (gR (D.2.1 s) 0) (mS1 s D))) (gR (D.2.1 s) 0 0) (((gR (D.2.1 s) 0 1).toNat : Nat) : Int) (gR (D.2.1 s) 0 6))), vr (A (3 + 2 * s)), vr (A 9)]) rfl ?_
                refine M.callV (qT_add l G hb A T tl fx X cl dr (mS2 X tl (1 - dr) s (gR (D.2.1 s) 0) (mS1 s D)) s (by omega) (by rw [mS2_2]; exact h0) (((mS2 X tl (1 - dr) s (gR (D.2.1 s) 0) (mS1 s D)).1 20) + (mWaitA X (stA tl (mS2 X tl (1 - dr) s (gR (D.2.1 s) 0) (mS1 s D))) (gR (D.2.1 s) 0 0) (((gR (D.2.1 s) 0 1).toNat : Nat) : Int) (gR (D.2.1 s) 0 6))) ((s : Nat) : Int)) cv_X1_182 cd_X4_addFirstOf rfl (st := []) rfl (iS_t hE220.1).1 (by decide) (by decide) rfl (Nat.zero_le _) (Nat.zero_le _) hE220 (fun r226 w227 q228 => ?_)
                obtain ⟨q228r, q228e, q228f⟩ := q228
                rw [q228r]
                have hE225 : isEn G hb A T tl fx X cl dr (mTimer X tl s (mS2 X tl (1 - dr) s (gR (D.2.1 s) 0) (mS1 s D))) w227 := by rw [← tmr_eq (X := X) (a0 := tl) (s := s) (D := (mS2 X tl (1 - dr) s (gR (D.2.1 s) 0) (mS1 s D))) (kd := (gR (D.2.1 s) 0) 0) (bl := (((gR (D.2.1 s) 0 1).toNat : Nat) : Int)) (tr := (gR (D.2.1 s) 0) 6) (by rw [mS2_2]; rfl) (by rw [mS2_2]; exact Int.toNat_of_nonneg hr1.1) (by rw [mS2_2]; rfl)]; exact q228e
                have hF225 : FrE A w w227 := FrE.tr hF220 q228f
                refine M.run 2 (pc' := 271) (lv' := [some (vr (A 13)), some (vi ((s : Nat) : Int)), some (vr (A (3 + 2 * s))), some (vi (gR (D.2.1 s) 0 0)), some (vi (((gR (D.2.1 s) 0 1).toNat : Nat) : Int)), some (vi (mBy (gR (D.2.1 s) 0))), some (vi 0), some (vi (mWaitA X (stA tl (mS2 X tl (1 - dr) s (gR (D.2.1 s) 0) (mS1 s D))) (gR (D.2.1 s) 0 0) (((gR (D.2.1 s) 0 1).toNat : Nat) : Int) (gR (D.2.1 s) 0 6)))]) (st' := [vi 0, vr (A (3 + 2 * s))]) rfl ?_
                refine M.callV (qL_rem l G hb A T tl fx X cl dr (mTimer X tl s (mS2 X tl (1 - dr) s (gR (D.2.1 s) 0) (mS1 s D))) s (by omega) 0 (by rw [mTimer_2, mS2_2]; exact h0)) cv_X1_106 cd_X4_remove rfl (st := []) rfl (iS_l hE225.1 (s := s) (by omega)).1 (by decide) (by decide) rfl (Nat.zero_le _) (Nat.zero_le _) hE225 (fun r231 w232 q233 => ?_)
                obtain ⟨q233r, q233e, q233f⟩ := q233
                rw [q233r]
                have hE230 : isEn G hb A T tl fx X cl dr (mSend X tl (1 - dr) s D) w232 := by unfold mSend mS3; rw [if_pos hcd]; exact q233e
                have hF230 : FrE A w w232 := FrE.tr hF225 q233f
                exact M.vret rfl (Nat.zero_le _) (Nat.zero_le _) ⟨rfl, (by unfold mSnd; rw [if_pos h0]; exact hE230), hF230⟩
          · skip
            refine M.run 3 (pc' := 193) (lv' := [some (vr (A 13)), some (vi ((s : Nat) : Int)), some (vr (A (3 + 2 * s))), some (vi (gR (D.2.1 s) 0 0)), some (vi (((gR (D.2.1 s) 0 1).toNat : Nat) : Int)), some (vi (mBy (gR (D.2.1 s) 0))), none, none]) (st' := [vi 2, vi 0, vr (A (3 + 2 * s))]) rfl ?_
            refine M.callV (qL_get l G hb A T tl fx X cl dr (mS2 X tl (1 - dr) s (gR (D.2.1 s) 0) (mS1 s D)) s (by omega) 0 2 (by rw [mS2_2]; exact h0) (by decide)) cv_X1_88 cd_X4_get rfl (st := []) rfl (iS_l hE176.1 (s := s) (by omega)).1 (by decide) (by decide) rfl (Nat.zero_le _) (Nat.zero_le _) hE176 (fun r235 w236 q237 => ?_)
            rw [q237.1, q237.2]
            rw [show gR ((mS2 X tl (1 - dr) s (gR (D.2.1 s) 0) (mS1 s D)).2.1 s) 0 2 = gR (D.2.1 s) 0 2 from by rw [mS2_2]; rfl]
            refine M.if_le (tgt := 203) rfl (qI (by omega)) (by decide) (fun h196 => ?_) (fun h196 => ?_)
            · skip
              refine M.run 3 (pc' := 208) (lv' := [some (vr (A 13)), some (vi ((s : Nat) : Int)), some (vr (A (3 + 2 * s))), some (vi (gR (D.2.1 s) 0 0)), some (vi (((gR (D.2.1 s) 0 1).toNat : Nat) : Int)), some (vi (mBy (gR (D.2.1 s) 0))), some (vi 0), none]) (st' := [vi 0]) rfl ?_
              refine M.if_ne (tgt := 221) rfl (qI (by decide)) (by decide) (fun q => absurd q (by decide)) (fun _ => ?_)
              refine M.run 2 (pc' := 213) (lv' := [some (vr (A 13)), some (vi ((s : Nat) : Int)), some (vr (A (3 + 2 * s))), some (vi (gR (D.2.1 s) 0 0)), some (vi (((gR (D.2.1 s) 0 1).toNat : Nat) : Int)), some (vi (mBy (gR (D.2.1 s) 0))), some (vi 0), none]) (st' := [vi 1, vi (gR (D.2.1 s) 0 0)]) rfl ?_
              refine M.icmp_eq (tgt := 221) rfl (qI (by omega)) (qI (by decide)) (by decide) (fun h213 => ?_) (fun h213 => ?_)
              · skip
                have hcd : ((gR (D.2.1 s) 0) 0 = 0 ∧ 0 < (gR (D.2.1 s) 0) 2) ∨ (gR (D.2.1 s) 0) 0 = 1 ∨ (gR (D.2.1 s) 0) 0 = 3 := Or.inr (Or.inl (by omega))
                refine M.run 1 (pc' := 222) (lv' := [some (vr (A 13)), some (vi ((s : Nat) : Int)), some (vr (A (3 + 2 * s))), some (vi (gR (D.2.1 s) 0 0)), some (vi (((gR (D.2.1 s) 0 1).toNat : Nat) : Int)), some (vi (mBy (gR (D.2.1 s) 0))), some (vi 0), none]) (st' := [vr (A 13)]) rfl ?_
                refine M.get fl_X1_24 rfl hE176.2.2.1 (kf := 2) (v := vr (A 14)) rfl ?_
                refine M.run 1 (pc' := 226) (lv' := [some (vr (A 13)), some (vi ((s : Nat) : Int)), some (vr (A (3 + 2 * s))), some (vi (gR (D.2.1 s) 0 0)), some (vi (((gR (D.2.1 s) 0 1).toNat : Nat) : Int)), some (vi (mBy (gR (D.2.1 s) 0))), some (vi 0), none]) (st' := [vr (A 13), vr (A 14)]) rfl ?_
                refine M.get fl_X1_9 rfl hE176.2.2.1 (kf := 0) (v := vr (T 0)) rfl ?_
                refine M.callV (qO_rul l G hb A T tl fx X cl dr (mS2 X tl (1 - dr) s (gR (D.2.1 s) 0) (mS1 s D)) hT) cv_X1_168 cd_X9_rulingText rfl (st := [vr (A 14)]) rfl hE176.2.1.1 (by decide) (by decide) rfl (Nat.zero_le _) (Nat.zero_le _) hE176 (fun r239 w240 q241 => ?_)
                rw [q241.1, q241.2]
                refine M.run 5 (pc' := 239) (lv' := [some (vr (A 13)), some (vi ((s : Nat) : Int)), some (vr (A (3 + 2 * s))), some (vi (gR (D.2.1 s) 0 0)), some (vi (((gR (D.2.1 s) 0 1).toNat : Nat) : Int)), some (vi (mBy (gR (D.2.1 s) 0))), some (vi 0), none]) (st' := [vi 6, vi 0, vr (A (3 + 2 * s)), vi (((gR (D.2.1 s) 0 1).toNat : Nat) : Int), vi (gR (D.2.1 s) 0 0), .inr (.inr (if 0 ≤ tl 2 ∧ tl 2 < tl 1 then rfO (fx (tl 2).toNat) else none)), vr (A 14)]) rfl ?_
                refine M.callV (qL_get l G hb A T tl fx X cl dr (mS2 X tl (1 - dr) s (gR (D.2.1 s) 0) (mS1 s D)) s (by omega) 0 6 (by rw [mS2_2]; exact h0) (by decide)) cv_X1_88 cd_X4_get rfl (st := [vi (((gR (D.2.1 s) 0 1).toNat : Nat) : Int), vi (gR (D.2.1 s) 0 0), .inr (.inr (if 0 ≤ tl 2 ∧ tl 2 < tl 1 then rfO (fx (tl 2).toNat) else none)), vr (A 14)]) rfl (iS_l hE176.1 (s := s) (by omega)).1 (by decide) (by decide) rfl (Nat.zero_le _) (Nat.zero_le _) hE176 (fun r243 w244 q245 => ?_)
                rw [q245.1, q245.2]
                rw [show gR ((mS2 X tl (1 - dr) s (gR (D.2.1 s) 0) (mS1 s D)).2.1 s) 0 6 = gR (D.2.1 s) 0 6 from by rw [mS2_2]; rfl]
                obtain ⟨_, _, _, _, _, hLa247⟩ := hE176.2.2.2.1
                refine M.callV (qW_wai l G hb A T tl fx X cl dr (mS2 X tl (1 - dr) s (gR (D.2.1 s) 0) (mS1 s D)) hT (n + 31) hd181 (gR (D.2.1 s) 0 0) (((gR (D.2.1 s) 0 1).toNat : Nat) : Int) (gR (D.2.1 s) 0 6) (by omega) (by omega) (by omega) (tl 2) (by omega)) cv_X1_186 cd_X2_waiting rfl (st := []) rfl hLa247.1 (by decide) (by decide) rfl (Nat.zero_le _) (Nat.zero_le _) hE176 (fun r249 w250 q251 => ?_)
                obtain ⟨q251r, q251e, q251f⟩ := q251
                rw [q251r, show sayV (X (tl 2).toNat 1) (tl 2) (2 * tl 6 + 2) 1 60 (enA (stA tl (mS2 X tl (1 - dr) s (gR (D.2.1 s) 0) (mS1 s D))) (gR (D.2.1 s) 0 0) (((gR (D.2.1 s) 0 1).toNat : Nat) : Int) (gR (D.2.1 s) 0 6)) (ofA (stA tl (mS2 X tl (1 - dr) s (gR (D.2.1 s) 0) (mS1 s D)))) = mWaitA X (stA tl (mS2 X tl (1 - dr) s (gR (D.2.1 s) 0) (mS1 s D))) (gR (D.2.1 s) 0 0) (((gR (D.2.1 s) 0 1).toNat : Nat) : Int) (gR (D.2.1 s) 0 6) from rfl]
                have hE248 : isEn G hb A T tl fx X cl dr (mS2 X tl (1 - dr) s (gR (D.2.1 s) 0) (mS1 s D)) w250 := q251e
                have hF248 : FrE A w w250 := FrE.tr hF176 q251f
                refine M.run 2 (pc' := 248) (lv' := [some (vr (A 13)), some (vi ((s : Nat) : Int)), some (vr (A (3 + 2 * s))), some (vi (gR (D.2.1 s) 0 0)), some (vi (((gR (D.2.1 s) 0 1).toNat : Nat) : Int)), some (vi (mBy (gR (D.2.1 s) 0))), some (vi 0), some (vi (mWaitA X (stA tl (mS2 X tl (1 - dr) s (gR (D.2.1 s) 0) (mS1 s D))) (gR (D.2.1 s) 0 0) (((gR (D.2.1 s) 0 1).toNat : Nat) : Int) (gR (D.2.1 s) 0 6)))]) (st' := [vr (A 13)]) rfl ?_
                refine M.get fl_X1_15 rfl hE248.2.2.1 (kf := 1) (v := vr (A 0)) rfl ?_
                refine M.get fl_X1_145 rfl hE248.1.1 (kf := 9) (v := vr (A 9)) rfl ?_
                refine M.run 2 (pc' := 256) (lv' := [some (vr (A 13)), some (vi ((s : Nat) : Int)), some (vr (A (3 + 2 * s))), some (vi (gR (D.2.1 s) 0 0)), some (vi (((gR (D.2.1 s) 0 1).toNat : Nat) : Int)), some (vi (mBy (gR (D.2.1 s) 0))), some (vi 0), some (vi (mWaitA X (stA tl (mS2 X tl (1 - dr) s (gR (D.2.1 s) 0) (mS1 s D))) (gR (D.2.1 s) 0 0) (((gR (D.2.1 s) 0 1).toNat : Nat) : Int) (gR (D.2.1 s) 0 6)))]) (st' := [vr (A 13), vr (A (3 + 2 * s)), vr (A 9)]) rfl ?_
                refine M.get fl_X1_15 rfl hE248.2.2.1 (kf := 1) (v := vr (A 0)) rfl ?_
                refine M.get fl_X1_116 rfl hE248.1.1 (kf := 1) (v := vi ((mS2 X tl (1 - dr) s (gR (D.2.1 s) 0) (mS1 s D)).1 20)) rfl ?_
                refine M.run 3 (pc' := 266) (lv' := [some (vr (A 13)), some (vi ((s : Nat) : Int)), some (vr (A (3 + 2 * s))), some (vi (gR (D.2.1 s) 0 0)), some (vi (((gR (D.2.1 s) 0 1).toNat : Nat) : Int)), some (vi (mBy (gR (D.2.1 s) 0))), some (vi 0), some (vi (mWaitA X (stA tl (mS2 X tl (1 - dr) s (gR (D.2.1 s) 0) (mS1 s D))) (gR (D.2.1 s) 0 0) (((gR (D.2.1 s) 0 1).toNat : Nat) : Int) (gR (D.2.1 s) 0 6)))]) (st' := [vi ((s : Nat) : Int), vi (((mS2 X tl (1 - dr) s (gR (D.2.1 s) 0) (mS1 s D)).1 20) + (mWaitA X (stA tl (mS2 X tl (1 - dr) s (gR (D.2.1 s) 0) (mS1 s D))) (gR (D.2.1 s) 0 0) (((gR (D.2.1 s) 0 1).toNat : Nat) : Int) (gR (D.2.1 s) 0 6))), vr (A (3 + 2 * s)), vr (A 9)]) rfl ?_
                refine M.callV (qT_add l G hb A T tl fx X cl dr (mS2 X tl (1 - dr) s (gR (D.2.1 s) 0) (mS1 s D)) s (by omega) (by rw [mS2_2]; exact h0) (((mS2 X tl (1 - dr) s (gR (D.2.1 s) 0) (mS1 s D)).1 20) + (mWaitA X (stA tl (mS2 X tl (1 - dr) s (gR (D.2.1 s) 0) (mS1 s D))) (gR (D.2.1 s) 0 0) (((gR (D.2.1 s) 0 1).toNat : Nat) : Int) (gR (D.2.1 s) 0 6))) ((s : Nat) : Int)) cv_X1_182 cd_X4_addFirstOf rfl (st := []) rfl (iS_t hE248.1).1 (by decide) (by decide) rfl (Nat.zero_le _) (Nat.zero_le _) hE248 (fun r254 w255 q256 => ?_)
                obtain ⟨q256r, q256e, q256f⟩ := q256
                rw [q256r]
                have hE253 : isEn G hb A T tl fx X cl dr (mTimer X tl s (mS2 X tl (1 - dr) s (gR (D.2.1 s) 0) (mS1 s D))) w255 := by rw [← tmr_eq (X := X) (a0 := tl) (s := s) (D := (mS2 X tl (1 - dr) s (gR (D.2.1 s) 0) (mS1 s D))) (kd := (gR (D.2.1 s) 0) 0) (bl := (((gR (D.2.1 s) 0 1).toNat : Nat) : Int)) (tr := (gR (D.2.1 s) 0) 6) (by rw [mS2_2]; rfl) (by rw [mS2_2]; exact Int.toNat_of_nonneg hr1.1) (by rw [mS2_2]; rfl)]; exact q256e
                have hF253 : FrE A w w255 := FrE.tr hF248 q256f
                refine M.run 2 (pc' := 271) (lv' := [some (vr (A 13)), some (vi ((s : Nat) : Int)), some (vr (A (3 + 2 * s))), some (vi (gR (D.2.1 s) 0 0)), some (vi (((gR (D.2.1 s) 0 1).toNat : Nat) : Int)), some (vi (mBy (gR (D.2.1 s) 0))), some (vi 0), some (vi (mWaitA X (stA tl (mS2 X tl (1 - dr) s (gR (D.2.1 s) 0) (mS1 s D))) (gR (D.2.1 s) 0 0) (((gR (D.2.1 s) 0 1).toNat : Nat) : Int) (gR (D.2.1 s) 0 6)))]) (st' := [vi 0, vr (A (3 + 2 * s))]) rfl ?_
                refine M.callV (qL_rem l G hb A T tl fx X cl dr (mTimer X tl s (mS2 X tl (1 - dr) s (gR (D.2.1 s) 0) (mS1 s D))) s (by omega) 0 (by rw [mTimer_2, mS2_2]; exact h0)) cv_X1_106 cd_X4_remove rfl (st := []) rfl (iS_l hE253.1 (s := s) (by omega)).1 (by decide) (by decide) rfl (Nat.zero_le _) (Nat.zero_le _) hE253 (fun r259 w260 q261 => ?_)
                obtain ⟨q261r, q261e, q261f⟩ := q261
                rw [q261r]
                have hE258 : isEn G hb A T tl fx X cl dr (mSend X tl (1 - dr) s D) w260 := by unfold mSend mS3; rw [if_pos hcd]; exact q261e
                have hF258 : FrE A w w260 := FrE.tr hF253 q261f
                exact M.vret rfl (Nat.zero_le _) (Nat.zero_le _) ⟨rfl, (by unfold mSnd; rw [if_pos h0]; exact hE258), hF258⟩
              · skip
                refine M.run 2 (pc' := 218) (lv' := [some (vr (A 13)), some (vi ((s : Nat) : Int)), some (vr (A (3 + 2 * s))), some (vi (gR (D.2.1 s) 0 0)), some (vi (((gR (D.2.1 s) 0 1).toNat : Nat) : Int)), some (vi (mBy (gR (D.2.1 s) 0))), some (vi 0), none]) (st' := [vi 3, vi (gR (D.2.1 s) 0 0)]) rfl ?_
                refine M.icmp_ne (tgt := 269) rfl (qI (by omega)) (qI (by decide)) (by decide) (fun h218 => ?_) (fun h218 => ?_)
                · skip
                  have hcd : ¬ (((gR (D.2.1 s) 0) 0 = 0 ∧ 0 < (gR (D.2.1 s) 0) 2) ∨ (gR (D.2.1 s) 0) 0 = 1 ∨ (gR (D.2.1 s) 0) 0 = 3) := by omega
                  refine M.run 2 (pc' := 271) (lv' := [some (vr (A 13)), some (vi ((s : Nat) : Int)), some (vr (A (3 + 2 * s))), some (vi (gR (D.2.1 s) 0 0)), some (vi (((gR (D.2.1 s) 0 1).toNat : Nat) : Int)), some (vi (mBy (gR (D.2.1 s) 0))), some (vi 0), none]) (st' := [vi 0, vr (A (3 + 2 * s))]) rfl ?_
                  refine M.callV (qL_rem l G hb A T tl fx X cl dr (mS2 X tl (1 - dr) s (gR (D.2.1 s) 0) (mS1 s D)) s (by omega) 0 (by rw [mS2_2]; exact h0)) cv_X1_106 cd_X4_remove rfl (st := []) rfl (iS_l hE176.1 (s := s) (by omega)).1 (by decide) (by decide) rfl (Nat.zero_le _) (Nat.zero_le _) hE176 (fun r264 w265 q266 => ?_)
                  obtain ⟨q266r, q266e, q266f⟩ := q266
                  rw [q266r]
                  have hE263 : isEn G hb A T tl fx X cl dr (mSend X tl (1 - dr) s D) w265 := by unfold mSend mS3; rw [if_neg hcd]; exact q266e
                  have hF263 : FrE A w w265 := FrE.tr hF176 q266f
                  exact M.vret rfl (Nat.zero_le _) (Nat.zero_le _) ⟨rfl, (by unfold mSnd; rw [if_pos h0]; exact hE263), hF263⟩
                · skip
                  have hcd : ((gR (D.2.1 s) 0) 0 = 0 ∧ 0 < (gR (D.2.1 s) 0) 2) ∨ (gR (D.2.1 s) 0) 0 = 1 ∨ (gR (D.2.1 s) 0) 0 = 3 := Or.inr (Or.inr (by omega))
                  refine M.run 1 (pc' := 222) (lv' := [some (vr (A 13)), some (vi ((s : Nat) : Int)), some (vr (A (3 + 2 * s))), some (vi (gR (D.2.1 s) 0 0)), some (vi (((gR (D.2.1 s) 0 1).toNat : Nat) : Int)), some (vi (mBy (gR (D.2.1 s) 0))), some (vi 0), none]) (st' := [vr (A 13)]) rfl ?_
                  refine M.get fl_X1_24 rfl hE176.2.2.1 (kf := 2) (v := vr (A 14)) rfl ?_
                  refine M.run 1 (pc' := 226) (lv' := [some (vr (A 13)), some (vi ((s : Nat) : Int)), some (vr (A (3 + 2 * s))), some (vi (gR (D.2.1 s) 0 0)), some (vi (((gR (D.2.1 s) 0 1).toNat : Nat) : Int)), some (vi (mBy (gR (D.2.1 s) 0))), some (vi 0), none]) (st' := [vr (A 13), vr (A 14)]) rfl ?_
                  refine M.get fl_X1_9 rfl hE176.2.2.1 (kf := 0) (v := vr (T 0)) rfl ?_
                  refine M.callV (qO_rul l G hb A T tl fx X cl dr (mS2 X tl (1 - dr) s (gR (D.2.1 s) 0) (mS1 s D)) hT) cv_X1_168 cd_X9_rulingText rfl (st := [vr (A 14)]) rfl hE176.2.1.1 (by decide) (by decide) rfl (Nat.zero_le _) (Nat.zero_le _) hE176 (fun r268 w269 q270 => ?_)
                  rw [q270.1, q270.2]
                  refine M.run 5 (pc' := 239) (lv' := [some (vr (A 13)), some (vi ((s : Nat) : Int)), some (vr (A (3 + 2 * s))), some (vi (gR (D.2.1 s) 0 0)), some (vi (((gR (D.2.1 s) 0 1).toNat : Nat) : Int)), some (vi (mBy (gR (D.2.1 s) 0))), some (vi 0), none]) (st' := [vi 6, vi 0, vr (A (3 + 2 * s)), vi (((gR (D.2.1 s) 0 1).toNat : Nat) : Int), vi (gR (D.2.1 s) 0 0), .inr (.inr (if 0 ≤ tl 2 ∧ tl 2 < tl 1 then rfO (fx (tl 2).toNat) else none)), vr (A 14)]) rfl ?_
                  refine M.callV (qL_get l G hb A T tl fx X cl dr (mS2 X tl (1 - dr) s (gR (D.2.1 s) 0) (mS1 s D)) s (by omega) 0 6 (by rw [mS2_2]; exact h0) (by decide)) cv_X1_88 cd_X4_get rfl (st := [vi (((gR (D.2.1 s) 0 1).toNat : Nat) : Int), vi (gR (D.2.1 s) 0 0), .inr (.inr (if 0 ≤ tl 2 ∧ tl 2 < tl 1 then rfO (fx (tl 2).toNat) else none)), vr (A 14)]) rfl (iS_l hE176.1 (s := s) (by omega)).1 (by decide) (by decide) rfl (Nat.zero_le _) (Nat.zero_le _) hE176 (fun r272 w273 q274 => ?_)
                  rw [q274.1, q274.2]
                  rw [show gR ((mS2 X tl (1 - dr) s (gR (D.2.1 s) 0) (mS1 s D)).2.1 s) 0 6 = gR (D.2.1 s) 0 6 from by rw [mS2_2]; rfl]
                  obtain ⟨_, _, _, _, _, hLa276⟩ := hE176.2.2.2.1
                  refine M.callV (qW_wai l G hb A T tl fx X cl dr (mS2 X tl (1 - dr) s (gR (D.2.1 s) 0) (mS1 s D)) hT (n + 31) hd181 (gR (D.2.1 s) 0 0) (((gR (D.2.1 s) 0 1).toNat : Nat) : Int) (gR (D.2.1 s) 0 6) (by omega) (by omega) (by omega) (tl 2) (by omega)) cv_X1_186 cd_X2_waiting rfl (st := []) rfl hLa276.1 (by decide) (by decide) rfl (Nat.zero_le _) (Nat.zero_le _) hE176 (fun r278 w279 q280 => ?_)
                  obtain ⟨q280r, q280e, q280f⟩ := q280
                  rw [q280r, show sayV (X (tl 2).toNat 1) (tl 2) (2 * tl 6 + 2) 1 60 (enA (stA tl (mS2 X tl (1 - dr) s (gR (D.2.1 s) 0) (mS1 s D))) (gR (D.2.1 s) 0 0) (((gR (D.2.1 s) 0 1).toNat : Nat) : Int) (gR (D.2.1 s) 0 6)) (ofA (stA tl (mS2 X tl (1 - dr) s (gR (D.2.1 s) 0) (mS1 s D)))) = mWaitA X (stA tl (mS2 X tl (1 - dr) s (gR (D.2.1 s) 0) (mS1 s D))) (gR (D.2.1 s) 0 0) (((gR (D.2.1 s) 0 1).toNat : Nat) : Int) (gR (D.2.1 s) 0 6) from rfl]
                  have hE277 : isEn G hb A T tl fx X cl dr (mS2 X tl (1 - dr) s (gR (D.2.1 s) 0) (mS1 s D)) w279 := q280e
                  have hF277 : FrE A w w279 := FrE.tr hF176 q280f
                  refine M.run 2 (pc' := 248) (lv' := [some (vr (A 13)), some (vi ((s : Nat) : Int)), some (vr (A (3 + 2 * s))), some (vi (gR (D.2.1 s) 0 0)), some (vi (((gR (D.2.1 s) 0 1).toNat : Nat) : Int)), some (vi (mBy (gR (D.2.1 s) 0))), some (vi 0), some (vi (mWaitA X (stA tl (mS2 X tl (1 - dr) s (gR (D.2.1 s) 0) (mS1 s D))) (gR (D.2.1 s) 0 0) (((gR (D.2.1 s) 0 1).toNat : Nat) : Int) (gR (D.2.1 s) 0 6)))]) (st' := [vr (A 13)]) rfl ?_
                  refine M.get fl_X1_15 rfl hE277.2.2.1 (kf := 1) (v := vr (A 0)) rfl ?_
                  refine M.get fl_X1_145 rfl hE277.1.1 (kf := 9) (v := vr (A 9)) rfl ?_
                  refine M.run 2 (pc' := 256) (lv' := [some (vr (A 13)), some (vi ((s : Nat) : Int)), some (vr (A (3 + 2 * s))), some (vi (gR (D.2.1 s) 0 0)), some (vi (((gR (D.2.1 s) 0 1).toNat : Nat) : Int)), some (vi (mBy (gR (D.2.1 s) 0))), some (vi 0), some (vi (mWaitA X (stA tl (mS2 X tl (1 - dr) s (gR (D.2.1 s) 0) (mS1 s D))) (gR (D.2.1 s) 0 0) (((gR (D.2.1 s) 0 1).toNat : Nat) : Int) (gR (D.2.1 s) 0 6)))]) (st' := [vr (A 13), vr (A (3 + 2 * s)), vr (A 9)]) rfl ?_
                  refine M.get fl_X1_15 rfl hE277.2.2.1 (kf := 1) (v := vr (A 0)) rfl ?_
                  refine M.get fl_X1_116 rfl hE277.1.1 (kf := 1) (v := vi ((mS2 X tl (1 - dr) s (gR (D.2.1 s) 0) (mS1 s D)).1 20)) rfl ?_
                  refine M.run 3 (pc' := 266) (lv' := [some (vr (A 13)), some (vi ((s : Nat) : Int)), some (vr (A (3 + 2 * s))), some (vi (gR (D.2.1 s) 0 0)), some (vi (((gR (D.2.1 s) 0 1).toNat : Nat) : Int)), some (vi (mBy (gR (D.2.1 s) 0))), some (vi 0), some (vi (mWaitA X (stA tl (mS2 X tl (1 - dr) s (gR (D.2.1 s) 0) (mS1 s D))) (gR (D.2.1 s) 0 0) (((gR (D.2.1 s) 0 1).toNat : Nat) : Int) (gR (D.2.1 s) 0 6)))]) (st' := [vi ((s : Nat) : Int), vi (((mS2 X tl (1 - dr) s (gR (D.2.1 s) 0) (mS1 s D)).1 20) + (mWaitA X (stA tl (mS2 X tl (1 - dr) s (gR (D.2.1 s) 0) (mS1 s D))) (gR (D.2.1 s) 0 0) (((gR (D.2.1 s) 0 1).toNat : Nat) : Int) (gR (D.2.1 s) 0 6))), vr (A (3 + 2 * s)), vr (A 9)]) rfl ?_
                  refine M.callV (qT_add l G hb A T tl fx X cl dr (mS2 X tl (1 - dr) s (gR (D.2.1 s) 0) (mS1 s D)) s (by omega) (by rw [mS2_2]; exact h0) (((mS2 X tl (1 - dr) s (gR (D.2.1 s) 0) (mS1 s D)).1 20) + (mWaitA X (stA tl (mS2 X tl (1 - dr) s (gR (D.2.1 s) 0) (mS1 s D))) (gR (D.2.1 s) 0 0) (((gR (D.2.1 s) 0 1).toNat : Nat) : Int) (gR (D.2.1 s) 0 6))) ((s : Nat) : Int)) cv_X1_182 cd_X4_addFirstOf rfl (st := []) rfl (iS_t hE277.1).1 (by decide) (by decide) rfl (Nat.zero_le _) (Nat.zero_le _) hE277 (fun r283 w284 q285 => ?_)
                  obtain ⟨q285r, q285e, q285f⟩ := q285
                  rw [q285r]
                  have hE282 : isEn G hb A T tl fx X cl dr (mTimer X tl s (mS2 X tl (1 - dr) s (gR (D.2.1 s) 0) (mS1 s D))) w284 := by rw [← tmr_eq (X := X) (a0 := tl) (s := s) (D := (mS2 X tl (1 - dr) s (gR (D.2.1 s) 0) (mS1 s D))) (kd := (gR (D.2.1 s) 0) 0) (bl := (((gR (D.2.1 s) 0 1).toNat : Nat) : Int)) (tr := (gR (D.2.1 s) 0) 6) (by rw [mS2_2]; rfl) (by rw [mS2_2]; exact Int.toNat_of_nonneg hr1.1) (by rw [mS2_2]; rfl)]; exact q285e
                  have hF282 : FrE A w w284 := FrE.tr hF277 q285f
                  refine M.run 2 (pc' := 271) (lv' := [some (vr (A 13)), some (vi ((s : Nat) : Int)), some (vr (A (3 + 2 * s))), some (vi (gR (D.2.1 s) 0 0)), some (vi (((gR (D.2.1 s) 0 1).toNat : Nat) : Int)), some (vi (mBy (gR (D.2.1 s) 0))), some (vi 0), some (vi (mWaitA X (stA tl (mS2 X tl (1 - dr) s (gR (D.2.1 s) 0) (mS1 s D))) (gR (D.2.1 s) 0 0) (((gR (D.2.1 s) 0 1).toNat : Nat) : Int) (gR (D.2.1 s) 0 6)))]) (st' := [vi 0, vr (A (3 + 2 * s))]) rfl ?_
                  refine M.callV (qL_rem l G hb A T tl fx X cl dr (mTimer X tl s (mS2 X tl (1 - dr) s (gR (D.2.1 s) 0) (mS1 s D))) s (by omega) 0 (by rw [mTimer_2, mS2_2]; exact h0)) cv_X1_106 cd_X4_remove rfl (st := []) rfl (iS_l hE282.1 (s := s) (by omega)).1 (by decide) (by decide) rfl (Nat.zero_le _) (Nat.zero_le _) hE282 (fun r288 w289 q290 => ?_)
                  obtain ⟨q290r, q290e, q290f⟩ := q290
                  rw [q290r]
                  have hE287 : isEn G hb A T tl fx X cl dr (mSend X tl (1 - dr) s D) w289 := by unfold mSend mS3; rw [if_pos hcd]; exact q290e
                  have hF287 : FrE A w w289 := FrE.tr hF282 q290f
                  exact M.vret rfl (Nat.zero_le _) (Nat.zero_le _) ⟨rfl, (by unfold mSnd; rw [if_pos h0]; exact hE287), hF287⟩
            · skip
              refine M.run 4 (pc' := 208) (lv' := [some (vr (A 13)), some (vi ((s : Nat) : Int)), some (vr (A (3 + 2 * s))), some (vi (gR (D.2.1 s) 0 0)), some (vi (((gR (D.2.1 s) 0 1).toNat : Nat) : Int)), some (vi (mBy (gR (D.2.1 s) 0))), some (vi 1), none]) (st' := [vi 1]) rfl ?_
              refine M.if_ne (tgt := 221) rfl (qI (by decide)) (by decide) (fun _ => ?_) (fun q => absurd q (by decide))
              have hcd : ((gR (D.2.1 s) 0) 0 = 0 ∧ 0 < (gR (D.2.1 s) 0) 2) ∨ (gR (D.2.1 s) 0) 0 = 1 ∨ (gR (D.2.1 s) 0) 0 = 3 := Or.inl ⟨by omega, by omega⟩
              refine M.run 1 (pc' := 222) (lv' := [some (vr (A 13)), some (vi ((s : Nat) : Int)), some (vr (A (3 + 2 * s))), some (vi (gR (D.2.1 s) 0 0)), some (vi (((gR (D.2.1 s) 0 1).toNat : Nat) : Int)), some (vi (mBy (gR (D.2.1 s) 0))), some (vi 1), none]) (st' := [vr (A 13)]) rfl ?_
              refine M.get fl_X1_24 rfl hE176.2.2.1 (kf := 2) (v := vr (A 14)) rfl ?_
              refine M.run 1 (pc' := 226) (lv' := [some (vr (A 13)), some (vi ((s : Nat) : Int)), some (vr (A (3 + 2 * s))), some (vi (gR (D.2.1 s) 0 0)), some (vi (((gR (D.2.1 s) 0 1).toNat : Nat) : Int)), some (vi (mBy (gR (D.2.1 s) 0))), some (vi 1), none]) (st' := [vr (A 13), vr (A 14)]) rfl ?_
              refine M.get fl_X1_9 rfl hE176.2.2.1 (kf := 0) (v := vr (T 0)) rfl ?_
              refine M.callV (qO_rul l G hb A T tl fx X cl dr (mS2 X tl (1 - dr) s (gR (D.2.1 s) 0) (mS1 s D)) hT) cv_X1_168 cd_X9_rulingText rfl (st := [vr (A 14)]) rfl hE176.2.1.1 (by decide) (by decide) rfl (Nat.zero_le _) (Nat.zero_le _) hE176 (fun r292 w293 q294 => ?_)
              rw [q294.1, q294.2]
              refine M.run 5 (pc' := 239) (lv' := [some (vr (A 13)), some (vi ((s : Nat) : Int)), some (vr (A (3 + 2 * s))), some (vi (gR (D.2.1 s) 0 0)), some (vi (((gR (D.2.1 s) 0 1).toNat : Nat) : Int)), some (vi (mBy (gR (D.2.1 s) 0))), some (vi 1), none]) (st' := [vi 6, vi 0, vr (A (3 + 2 * s)), vi (((gR (D.2.1 s) 0 1).toNat : Nat) : Int), vi (gR (D.2.1 s) 0 0), .inr (.inr (if 0 ≤ tl 2 ∧ tl 2 < tl 1 then rfO (fx (tl 2).toNat) else none)), vr (A 14)]) rfl ?_
              refine M.callV (qL_get l G hb A T tl fx X cl dr (mS2 X tl (1 - dr) s (gR (D.2.1 s) 0) (mS1 s D)) s (by omega) 0 6 (by rw [mS2_2]; exact h0) (by decide)) cv_X1_88 cd_X4_get rfl (st := [vi (((gR (D.2.1 s) 0 1).toNat : Nat) : Int), vi (gR (D.2.1 s) 0 0), .inr (.inr (if 0 ≤ tl 2 ∧ tl 2 < tl 1 then rfO (fx (tl 2).toNat) else none)), vr (A 14)]) rfl (iS_l hE176.1 (s := s) (by omega)).1 (by decide) (by decide) rfl (Nat.zero_le _) (Nat.zero_le _) hE176 (fun r296 w297 q298 => ?_)
              rw [q298.1, q298.2]
              rw [show gR ((mS2 X tl (1 - dr) s (gR (D.2.1 s) 0) (mS1 s D)).2.1 s) 0 6 = gR (D.2.1 s) 0 6 from by rw [mS2_2]; rfl]
              obtain ⟨_, _, _, _, _, hLa300⟩ := hE176.2.2.2.1
              refine M.callV (qW_wai l G hb A T tl fx X cl dr (mS2 X tl (1 - dr) s (gR (D.2.1 s) 0) (mS1 s D)) hT (n + 31) hd181 (gR (D.2.1 s) 0 0) (((gR (D.2.1 s) 0 1).toNat : Nat) : Int) (gR (D.2.1 s) 0 6) (by omega) (by omega) (by omega) (tl 2) (by omega)) cv_X1_186 cd_X2_waiting rfl (st := []) rfl hLa300.1 (by decide) (by decide) rfl (Nat.zero_le _) (Nat.zero_le _) hE176 (fun r302 w303 q304 => ?_)
              obtain ⟨q304r, q304e, q304f⟩ := q304
              rw [q304r, show sayV (X (tl 2).toNat 1) (tl 2) (2 * tl 6 + 2) 1 60 (enA (stA tl (mS2 X tl (1 - dr) s (gR (D.2.1 s) 0) (mS1 s D))) (gR (D.2.1 s) 0 0) (((gR (D.2.1 s) 0 1).toNat : Nat) : Int) (gR (D.2.1 s) 0 6)) (ofA (stA tl (mS2 X tl (1 - dr) s (gR (D.2.1 s) 0) (mS1 s D)))) = mWaitA X (stA tl (mS2 X tl (1 - dr) s (gR (D.2.1 s) 0) (mS1 s D))) (gR (D.2.1 s) 0 0) (((gR (D.2.1 s) 0 1).toNat : Nat) : Int) (gR (D.2.1 s) 0 6) from rfl]
              have hE301 : isEn G hb A T tl fx X cl dr (mS2 X tl (1 - dr) s (gR (D.2.1 s) 0) (mS1 s D)) w303 := q304e
              have hF301 : FrE A w w303 := FrE.tr hF176 q304f
              refine M.run 2 (pc' := 248) (lv' := [some (vr (A 13)), some (vi ((s : Nat) : Int)), some (vr (A (3 + 2 * s))), some (vi (gR (D.2.1 s) 0 0)), some (vi (((gR (D.2.1 s) 0 1).toNat : Nat) : Int)), some (vi (mBy (gR (D.2.1 s) 0))), some (vi 1), some (vi (mWaitA X (stA tl (mS2 X tl (1 - dr) s (gR (D.2.1 s) 0) (mS1 s D))) (gR (D.2.1 s) 0 0) (((gR (D.2.1 s) 0 1).toNat : Nat) : Int) (gR (D.2.1 s) 0 6)))]) (st' := [vr (A 13)]) rfl ?_
              refine M.get fl_X1_15 rfl hE301.2.2.1 (kf := 1) (v := vr (A 0)) rfl ?_
              refine M.get fl_X1_145 rfl hE301.1.1 (kf := 9) (v := vr (A 9)) rfl ?_
              refine M.run 2 (pc' := 256) (lv' := [some (vr (A 13)), some (vi ((s : Nat) : Int)), some (vr (A (3 + 2 * s))), some (vi (gR (D.2.1 s) 0 0)), some (vi (((gR (D.2.1 s) 0 1).toNat : Nat) : Int)), some (vi (mBy (gR (D.2.1 s) 0))), some (vi 1), some (vi (mWaitA X (stA tl (mS2 X tl (1 - dr) s (gR (D.2.1 s) 0) (mS1 s D))) (gR (D.2.1 s) 0 0) (((gR (D.2.1 s) 0 1).toNat : Nat) : Int) (gR (D.2.1 s) 0 6)))]) (st' := [vr (A 13), vr (A (3 + 2 * s)), vr (A 9)]) rfl ?_
              refine M.get fl_X1_15 rfl hE301.2.2.1 (kf := 1) (v := vr (A 0)) rfl ?_
              refine M.get fl_X1_116 rfl hE301.1.1 (kf := 1) (v := vi ((mS2 X tl (1 - dr) s (gR (D.2.1 s) 0) (mS1 s D)).1 20)) rfl ?_
              refine M.run 3 (pc' := 266) (lv' := [some (vr (A 13)), some (vi ((s : Nat) : Int)), some (vr (A (3 + 2 * s))), some (vi (gR (D.2.1 s) 0 0)), some (vi (((gR (D.2.1 s) 0 1).toNat : Nat) : Int)), some (vi (mBy (gR (D.2.1 s) 0))), some (vi 1), some (vi (mWaitA X (stA tl (mS2 X tl (1 - dr) s (gR (D.2.1 s) 0) (mS1 s D))) (gR (D.2.1 s) 0 0) (((gR (D.2.1 s) 0 1).toNat : Nat) : Int) (gR (D.2.1 s) 0 6)))]) (st' := [vi ((s : Nat) : Int), vi (((mS2 X tl (1 - dr) s (gR (D.2.1 s) 0) (mS1 s D)).1 20) + (mWaitA X (stA tl (mS2 X tl (1 - dr) s (gR (D.2.1 s) 0) (mS1 s D))) (gR (D.2.1 s) 0 0) (((gR (D.2.1 s) 0 1).toNat : Nat) : Int) (gR (D.2.1 s) 0 6))), vr (A (3 + 2 * s)), vr (A 9)]) rfl ?_
              refine M.callV (qT_add l G hb A T tl fx X cl dr (mS2 X tl (1 - dr) s (gR (D.2.1 s) 0) (mS1 s D)) s (by omega) (by rw [mS2_2]; exact h0) (((mS2 X tl (1 - dr) s (gR (D.2.1 s) 0) (mS1 s D)).1 20) + (mWaitA X (stA tl (mS2 X tl (1 - dr) s (gR (D.2.1 s) 0) (mS1 s D))) (gR (D.2.1 s) 0 0) (((gR (D.2.1 s) 0 1).toNat : Nat) : Int) (gR (D.2.1 s) 0 6))) ((s : Nat) : Int)) cv_X1_182 cd_X4_addFirstOf rfl (st := []) rfl (iS_t hE301.1).1 (by decide) (by decide) rfl (Nat.zero_le _) (Nat.zero_le _) hE301 (fun r307 w308 q309 => ?_)
              obtain ⟨q309r, q309e, q309f⟩ := q309
              rw [q309r]
              have hE306 : isEn G hb A T tl fx X cl dr (mTimer X tl s (mS2 X tl (1 - dr) s (gR (D.2.1 s) 0) (mS1 s D))) w308 := by rw [← tmr_eq (X := X) (a0 := tl) (s := s) (D := (mS2 X tl (1 - dr) s (gR (D.2.1 s) 0) (mS1 s D))) (kd := (gR (D.2.1 s) 0) 0) (bl := (((gR (D.2.1 s) 0 1).toNat : Nat) : Int)) (tr := (gR (D.2.1 s) 0) 6) (by rw [mS2_2]; rfl) (by rw [mS2_2]; exact Int.toNat_of_nonneg hr1.1) (by rw [mS2_2]; rfl)]; exact q309e
              have hF306 : FrE A w w308 := FrE.tr hF301 q309f
              refine M.run 2 (pc' := 271) (lv' := [some (vr (A 13)), some (vi ((s : Nat) : Int)), some (vr (A (3 + 2 * s))), some (vi (gR (D.2.1 s) 0 0)), some (vi (((gR (D.2.1 s) 0 1).toNat : Nat) : Int)), some (vi (mBy (gR (D.2.1 s) 0))), some (vi 1), some (vi (mWaitA X (stA tl (mS2 X tl (1 - dr) s (gR (D.2.1 s) 0) (mS1 s D))) (gR (D.2.1 s) 0 0) (((gR (D.2.1 s) 0 1).toNat : Nat) : Int) (gR (D.2.1 s) 0 6)))]) (st' := [vi 0, vr (A (3 + 2 * s))]) rfl ?_
              refine M.callV (qL_rem l G hb A T tl fx X cl dr (mTimer X tl s (mS2 X tl (1 - dr) s (gR (D.2.1 s) 0) (mS1 s D))) s (by omega) 0 (by rw [mTimer_2, mS2_2]; exact h0)) cv_X1_106 cd_X4_remove rfl (st := []) rfl (iS_l hE306.1 (s := s) (by omega)).1 (by decide) (by decide) rfl (Nat.zero_le _) (Nat.zero_le _) hE306 (fun r312 w313 q314 => ?_)
              obtain ⟨q314r, q314e, q314f⟩ := q314
              rw [q314r]
              have hE311 : isEn G hb A T tl fx X cl dr (mSend X tl (1 - dr) s D) w313 := by unfold mSend mS3; rw [if_pos hcd]; exact q314e
              have hF311 : FrE A w w313 := FrE.tr hF306 q314f
              exact M.vret rfl (Nat.zero_le _) (Nat.zero_le _) ⟨rfl, (by unfold mSnd; rw [if_pos h0]; exact hE311), hF311⟩
        · skip
          refine M.run 1 (pc' := 121) (lv' := [some (vr (A 13)), some (vi ((s : Nat) : Int)), some (vr (A (3 + 2 * s))), some (vi (gR (D.2.1 s) 0 0)), some (vi (((gR (D.2.1 s) 0 1).toNat : Nat) : Int)), some (vi (mBy (gR (D.2.1 s) 0))), none, none]) (st' := [vr (A 13)]) rfl ?_
          refine M.get fl_X1_15 rfl hE171.2.2.1 (kf := 1) (v := vr (A 0)) rfl ?_
          refine M.run 1 (pc' := 125) (lv' := [some (vr (A 13)), some (vi ((s : Nat) : Int)), some (vr (A (3 + 2 * s))), some (vi (gR (D.2.1 s) 0 0)), some (vi (((gR (D.2.1 s) 0 1).toNat : Nat) : Int)), some (vi (mBy (gR (D.2.1 s) 0))), none, none]) (st' := [vr (A 0), vr (A 0)]) rfl ?_
          refine M.get fl_X1_176 rfl hE171.1.1 (kf := 4) (v := vi ((mAnew (mS1 s D)).1 22)) rfl ?_
          refine M.run 2 (pc' := 130) (lv' := [some (vr (A 13)), some (vi ((s : Nat) : Int)), some (vr (A (3 + 2 * s))), some (vi (gR (D.2.1 s) 0 0)), some (vi (((gR (D.2.1 s) 0 1).toNat : Nat) : Int)), some (vi (mBy (gR (D.2.1 s) 0))), none, none]) (st' := [vi (((mAnew (mS1 s D)).1 22) + 1), vr (A 0)]) rfl ?_
          refine M.put fl_X1_176 rfl (hE171.1.1) rfl rfl (Nat.le_of_ble_eq_true rfl) ?_
          obtain ⟨hE316, hFf316⟩ := isEn_n (k := 22) (kf := 4) (v := ((mAnew (mS1 s D)).1 22) + 1) hE171 (by decide)
          have hF316 : FrE A w (up w173 (A 0) (Ob 5 ([vi ((mAnew (mS1 s D)).1 18), vi ((mAnew (mS1 s D)).1 20), vi ((mAnew (mS1 s D)).1 19), vi ((mAnew (mS1 s D)).1 21), vi ((mAnew (mS1 s D)).1 22), vr (A 1), vr (A 3), vr (A 5), vr (A 7), vr (A 9), vr (A 11)].set 4 (vi (((mAnew (mS1 s D)).1 22) + 1))))) := FrE.tr hF171 hFf316
          generalize up w173 (A 0) (Ob 5 ([vi ((mAnew (mS1 s D)).1 18), vi ((mAnew (mS1 s D)).1 20), vi ((mAnew (mS1 s D)).1 19), vi ((mAnew (mS1 s D)).1 21), vi ((mAnew (mS1 s D)).1 22), vr (A 1), vr (A 3), vr (A 5), vr (A 7), vr (A 9), vr (A 11)].set 4 (vi (((mAnew (mS1 s D)).1 22) + 1)))) = w316 at hE316 hF316 ⊢
          refine M.run 1 (pc' := 134) (lv' := [some (vr (A 13)), some (vi ((s : Nat) : Int)), some (vr (A (3 + 2 * s))), some (vi (gR (D.2.1 s) 0 0)), some (vi (((gR (D.2.1 s) 0 1).toNat : Nat) : Int)), some (vi (mBy (gR (D.2.1 s) 0))), none, none]) (st' := [vr (A 13)]) rfl ?_
          refine M.get fl_X1_15 rfl hE316.2.2.1 (kf := 1) (v := vr (A 0)) rfl ?_
          refine M.get fl_X1_58 rfl hE316.1.1 (kf := 10) (v := vr (A 11)) rfl ?_
          refine M.run 1 (pc' := 141) (lv' := [some (vr (A 13)), some (vi ((s : Nat) : Int)), some (vr (A (3 + 2 * s))), some (vi (gR (D.2.1 s) 0 0)), some (vi (((gR (D.2.1 s) 0 1).toNat : Nat) : Int)), some (vi (mBy (gR (D.2.1 s) 0))), none, none]) (st' := [vr (A 13), vr (A 11)]) rfl ?_
          refine M.get fl_X1_15 rfl hE316.2.2.1 (kf := 1) (v := vr (A 0)) rfl ?_
          refine M.get fl_X1_61 rfl hE316.1.1 (kf := 0) (v := vi ((mS 22 (((mAnew (mS1 s D)).1 22) + 1) (mAnew (mS1 s D))).1 18)) rfl ?_
          rw [show (mS 22 ((mAnew (mS1 s D)).1 22 + 1) (mAnew (mS1 s D))).1 18 = (mAnew (mS1 s D)).1 18 from mS_o (by decide)]
          refine M.run 3 (pc' := 151) (lv' := [some (vr (A 13)), some (vi ((s : Nat) : Int)), some (vr (A (3 + 2 * s))), some (vi (gR (D.2.1 s) 0 0)), some (vi (((gR (D.2.1 s) 0 1).toNat : Nat) : Int)), some (vi (mBy (gR (D.2.1 s) 0))), none, none]) (st' := [vi (gR (D.2.1 s) 0 0), vi (((gR (D.2.1 s) 0 1).toNat : Nat) : Int), vi 4, vi ((mAnew (mS1 s D)).1 18), vr (A 11)]) rfl ?_
          refine M.callV (qK_note l G hb A T tl fx X cl dr (mS 22 (((mAnew (mS1 s D)).1 22) + 1) (mAnew (mS1 s D))) ((mAnew (mS1 s D)).1 18) 4 (((gR (D.2.1 s) 0 1).toNat : Nat) : Int) (gR (D.2.1 s) 0 0)) cv_X1_64 cd_X4_addNote rfl (st := []) rfl (iS_k hE316.1).1 (by decide) (by decide) rfl (Nat.zero_le _) (Nat.zero_le _) hE316 (fun r318 w319 q320 => ?_)
          obtain ⟨q320r, q320e, q320f⟩ := q320
          rw [q320r]
          have hE317 : isEn G hb A T tl fx X cl dr (mS2 X tl (1 - dr) s (gR (D.2.1 s) 0) (mS1 s D)) w319 := by unfold mS2; rw [if_pos (by omega), if_pos (by omega)]; exact q320e
          have hF317 : FrE A w w319 := FrE.tr hF316 q320f
          refine M.run 1 (pc' := 186) (lv' := [some (vr (A 13)), some (vi ((s : Nat) : Int)), some (vr (A (3 + 2 * s))), some (vi (gR (D.2.1 s) 0 0)), some (vi (((gR (D.2.1 s) 0 1).toNat : Nat) : Int)), some (vi (mBy (gR (D.2.1 s) 0))), none, none]) (st' := []) rfl ?_
          have hd322 : Dok (n + 31) (mS2 X tl (1 - dr) s (gR (D.2.1 s) 0) (mS1 s D)) := hd2
          refine M.run 1 (pc' := 187) (lv' := [some (vr (A 13)), some (vi ((s : Nat) : Int)), some (vr (A (3 + 2 * s))), some (vi (gR (D.2.1 s) 0 0)), some (vi (((gR (D.2.1 s) 0 1).toNat : Nat) : Int)), some (vi (mBy (gR (D.2.1 s) 0))), none, none]) (st' := [vi (gR (D.2.1 s) 0 0)]) rfl ?_
          refine M.if_ne (tgt := 203) rfl (qI (by omega)) (by decide) (fun h187 => ?_) (fun h187 => ?_)
          · skip
            refine M.run 3 (pc' := 208) (lv' := [some (vr (A 13)), some (vi ((s : Nat) : Int)), some (vr (A (3 + 2 * s))), some (vi (gR (D.2.1 s) 0 0)), some (vi (((gR (D.2.1 s) 0 1).toNat : Nat) : Int)), some (vi (mBy (gR (D.2.1 s) 0))), some (vi 0), none]) (st' := [vi 0]) rfl ?_
            refine M.if_ne (tgt := 221) rfl (qI (by decide)) (by decide) (fun q => absurd q (by decide)) (fun _ => ?_)
            refine M.run 2 (pc' := 213) (lv' := [some (vr (A 13)), some (vi ((s : Nat) : Int)), some (vr (A (3 + 2 * s))), some (vi (gR (D.2.1 s) 0 0)), some (vi (((gR (D.2.1 s) 0 1).toNat : Nat) : Int)), some (vi (mBy (gR (D.2.1 s) 0))), some (vi 0), none]) (st' := [vi 1, vi (gR (D.2.1 s) 0 0)]) rfl ?_
            refine M.icmp_eq (tgt := 221) rfl (qI (by omega)) (qI (by decide)) (by decide) (fun h213 => ?_) (fun h213 => ?_)
            · skip
              have hcd : ((gR (D.2.1 s) 0) 0 = 0 ∧ 0 < (gR (D.2.1 s) 0) 2) ∨ (gR (D.2.1 s) 0) 0 = 1 ∨ (gR (D.2.1 s) 0) 0 = 3 := Or.inr (Or.inl (by omega))
              refine M.run 1 (pc' := 222) (lv' := [some (vr (A 13)), some (vi ((s : Nat) : Int)), some (vr (A (3 + 2 * s))), some (vi (gR (D.2.1 s) 0 0)), some (vi (((gR (D.2.1 s) 0 1).toNat : Nat) : Int)), some (vi (mBy (gR (D.2.1 s) 0))), some (vi 0), none]) (st' := [vr (A 13)]) rfl ?_
              refine M.get fl_X1_24 rfl hE317.2.2.1 (kf := 2) (v := vr (A 14)) rfl ?_
              refine M.run 1 (pc' := 226) (lv' := [some (vr (A 13)), some (vi ((s : Nat) : Int)), some (vr (A (3 + 2 * s))), some (vi (gR (D.2.1 s) 0 0)), some (vi (((gR (D.2.1 s) 0 1).toNat : Nat) : Int)), some (vi (mBy (gR (D.2.1 s) 0))), some (vi 0), none]) (st' := [vr (A 13), vr (A 14)]) rfl ?_
              refine M.get fl_X1_9 rfl hE317.2.2.1 (kf := 0) (v := vr (T 0)) rfl ?_
              refine M.callV (qO_rul l G hb A T tl fx X cl dr (mS2 X tl (1 - dr) s (gR (D.2.1 s) 0) (mS1 s D)) hT) cv_X1_168 cd_X9_rulingText rfl (st := [vr (A 14)]) rfl hE317.2.1.1 (by decide) (by decide) rfl (Nat.zero_le _) (Nat.zero_le _) hE317 (fun r323 w324 q325 => ?_)
              rw [q325.1, q325.2]
              refine M.run 5 (pc' := 239) (lv' := [some (vr (A 13)), some (vi ((s : Nat) : Int)), some (vr (A (3 + 2 * s))), some (vi (gR (D.2.1 s) 0 0)), some (vi (((gR (D.2.1 s) 0 1).toNat : Nat) : Int)), some (vi (mBy (gR (D.2.1 s) 0))), some (vi 0), none]) (st' := [vi 6, vi 0, vr (A (3 + 2 * s)), vi (((gR (D.2.1 s) 0 1).toNat : Nat) : Int), vi (gR (D.2.1 s) 0 0), .inr (.inr (if 0 ≤ tl 2 ∧ tl 2 < tl 1 then rfO (fx (tl 2).toNat) else none)), vr (A 14)]) rfl ?_
              refine M.callV (qL_get l G hb A T tl fx X cl dr (mS2 X tl (1 - dr) s (gR (D.2.1 s) 0) (mS1 s D)) s (by omega) 0 6 (by rw [mS2_2]; exact h0) (by decide)) cv_X1_88 cd_X4_get rfl (st := [vi (((gR (D.2.1 s) 0 1).toNat : Nat) : Int), vi (gR (D.2.1 s) 0 0), .inr (.inr (if 0 ≤ tl 2 ∧ tl 2 < tl 1 then rfO (fx (tl 2).toNat) else none)), vr (A 14)]) rfl (iS_l hE317.1 (s := s) (by omega)).1 (by decide) (by decide) rfl (Nat.zero_le _) (Nat.zero_le _) hE317 (fun r327 w328 q329 => ?_)
              rw [q329.1, q329.2]
              rw [show gR ((mS2 X tl (1 - dr) s (gR (D.2.1 s) 0) (mS1 s D)).2.1 s) 0 6 = gR (D.2.1 s) 0 6 from by rw [mS2_2]; rfl]
              obtain ⟨_, _, _, _, _, hLa331⟩ := hE317.2.2.2.1
              refine M.callV (qW_wai l G hb A T tl fx X cl dr (mS2 X tl (1 - dr) s (gR (D.2.1 s) 0) (mS1 s D)) hT (n + 31) hd322 (gR (D.2.1 s) 0 0) (((gR (D.2.1 s) 0 1).toNat : Nat) : Int) (gR (D.2.1 s) 0 6) (by omega) (by omega) (by omega) (tl 2) (by omega)) cv_X1_186 cd_X2_waiting rfl (st := []) rfl hLa331.1 (by decide) (by decide) rfl (Nat.zero_le _) (Nat.zero_le _) hE317 (fun r333 w334 q335 => ?_)
              obtain ⟨q335r, q335e, q335f⟩ := q335
              rw [q335r, show sayV (X (tl 2).toNat 1) (tl 2) (2 * tl 6 + 2) 1 60 (enA (stA tl (mS2 X tl (1 - dr) s (gR (D.2.1 s) 0) (mS1 s D))) (gR (D.2.1 s) 0 0) (((gR (D.2.1 s) 0 1).toNat : Nat) : Int) (gR (D.2.1 s) 0 6)) (ofA (stA tl (mS2 X tl (1 - dr) s (gR (D.2.1 s) 0) (mS1 s D)))) = mWaitA X (stA tl (mS2 X tl (1 - dr) s (gR (D.2.1 s) 0) (mS1 s D))) (gR (D.2.1 s) 0 0) (((gR (D.2.1 s) 0 1).toNat : Nat) : Int) (gR (D.2.1 s) 0 6) from rfl]
              have hE332 : isEn G hb A T tl fx X cl dr (mS2 X tl (1 - dr) s (gR (D.2.1 s) 0) (mS1 s D)) w334 := q335e
              have hF332 : FrE A w w334 := FrE.tr hF317 q335f
              refine M.run 2 (pc' := 248) (lv' := [some (vr (A 13)), some (vi ((s : Nat) : Int)), some (vr (A (3 + 2 * s))), some (vi (gR (D.2.1 s) 0 0)), some (vi (((gR (D.2.1 s) 0 1).toNat : Nat) : Int)), some (vi (mBy (gR (D.2.1 s) 0))), some (vi 0), some (vi (mWaitA X (stA tl (mS2 X tl (1 - dr) s (gR (D.2.1 s) 0) (mS1 s D))) (gR (D.2.1 s) 0 0) (((gR (D.2.1 s) 0 1).toNat : Nat) : Int) (gR (D.2.1 s) 0 6)))]) (st' := [vr (A 13)]) rfl ?_
              refine M.get fl_X1_15 rfl hE332.2.2.1 (kf := 1) (v := vr (A 0)) rfl ?_
              refine M.get fl_X1_145 rfl hE332.1.1 (kf := 9) (v := vr (A 9)) rfl ?_
              refine M.run 2 (pc' := 256) (lv' := [some (vr (A 13)), some (vi ((s : Nat) : Int)), some (vr (A (3 + 2 * s))), some (vi (gR (D.2.1 s) 0 0)), some (vi (((gR (D.2.1 s) 0 1).toNat : Nat) : Int)), some (vi (mBy (gR (D.2.1 s) 0))), some (vi 0), some (vi (mWaitA X (stA tl (mS2 X tl (1 - dr) s (gR (D.2.1 s) 0) (mS1 s D))) (gR (D.2.1 s) 0 0) (((gR (D.2.1 s) 0 1).toNat : Nat) : Int) (gR (D.2.1 s) 0 6)))]) (st' := [vr (A 13), vr (A (3 + 2 * s)), vr (A 9)]) rfl ?_
              refine M.get fl_X1_15 rfl hE332.2.2.1 (kf := 1) (v := vr (A 0)) rfl ?_
              refine M.get fl_X1_116 rfl hE332.1.1 (kf := 1) (v := vi ((mS2 X tl (1 - dr) s (gR (D.2.1 s) 0) (mS1 s D)).1 20)) rfl ?_
              refine M.run 3 (pc' := 266) (lv' := [some (vr (A 13)), some (vi ((s : Nat) : Int)), some (vr (A (3 + 2 * s))), some (vi (gR (D.2.1 s) 0 0)), some (vi (((gR (D.2.1 s) 0 1).toNat : Nat) : Int)), some (vi (mBy (gR (D.2.1 s) 0))), some (vi 0), some (vi (mWaitA X (stA tl (mS2 X tl (1 - dr) s (gR (D.2.1 s) 0) (mS1 s D))) (gR (D.2.1 s) 0 0) (((gR (D.2.1 s) 0 1).toNat : Nat) : Int) (gR (D.2.1 s) 0 6)))]) (st' := [vi ((s : Nat) : Int), vi (((mS2 X tl (1 - dr) s (gR (D.2.1 s) 0) (mS1 s D)).1 20) + (mWaitA X (stA tl (mS2 X tl (1 - dr) s (gR (D.2.1 s) 0) (mS1 s D))) (gR (D.2.1 s) 0 0) (((gR (D.2.1 s) 0 1).toNat : Nat) : Int) (gR (D.2.1 s) 0 6))), vr (A (3 + 2 * s)), vr (A 9)]) rfl ?_
              refine M.callV (qT_add l G hb A T tl fx X cl dr (mS2 X tl (1 - dr) s (gR (D.2.1 s) 0) (mS1 s D)) s (by omega) (by rw [mS2_2]; exact h0) (((mS2 X tl (1 - dr) s (gR (D.2.1 s) 0) (mS1 s D)).1 20) + (mWaitA X (stA tl (mS2 X tl (1 - dr) s (gR (D.2.1 s) 0) (mS1 s D))) (gR (D.2.1 s) 0 0) (((gR (D.2.1 s) 0 1).toNat : Nat) : Int) (gR (D.2.1 s) 0 6))) ((s : Nat) : Int)) cv_X1_182 cd_X4_addFirstOf rfl (st := []) rfl (iS_t hE332.1).1 (by decide) (by decide) rfl (Nat.zero_le _) (Nat.zero_le _) hE332 (fun r338 w339 q340 => ?_)
              obtain ⟨q340r, q340e, q340f⟩ := q340
              rw [q340r]
              have hE337 : isEn G hb A T tl fx X cl dr (mTimer X tl s (mS2 X tl (1 - dr) s (gR (D.2.1 s) 0) (mS1 s D))) w339 := by rw [← tmr_eq (X := X) (a0 := tl) (s := s) (D := (mS2 X tl (1 - dr) s (gR (D.2.1 s) 0) (mS1 s D))) (kd := (gR (D.2.1 s) 0) 0) (bl := (((gR (D.2.1 s) 0 1).toNat : Nat) : Int)) (tr := (gR (D.2.1 s) 0) 6) (by rw [mS2_2]; rfl) (by rw [mS2_2]; exact Int.toNat_of_nonneg hr1.1) (by rw [mS2_2]; rfl)]; exact q340e
              have hF337 : FrE A w w339 := FrE.tr hF332 q340f
              refine M.run 2 (pc' := 271) (lv' := [some (vr (A 13)), some (vi ((s : Nat) : Int)), some (vr (A (3 + 2 * s))), some (vi (gR (D.2.1 s) 0 0)), some (vi (((gR (D.2.1 s) 0 1).toNat : Nat) : Int)), some (vi (mBy (gR (D.2.1 s) 0))), some (vi 0), some (vi (mWaitA X (stA tl (mS2 X tl (1 - dr) s (gR (D.2.1 s) 0) (mS1 s D))) (gR (D.2.1 s) 0 0) (((gR (D.2.1 s) 0 1).toNat : Nat) : Int) (gR (D.2.1 s) 0 6)))]) (st' := [vi 0, vr (A (3 + 2 * s))]) rfl ?_
              refine M.callV (qL_rem l G hb A T tl fx X cl dr (mTimer X tl s (mS2 X tl (1 - dr) s (gR (D.2.1 s) 0) (mS1 s D))) s (by omega) 0 (by rw [mTimer_2, mS2_2]; exact h0)) cv_X1_106 cd_X4_remove rfl (st := []) rfl (iS_l hE337.1 (s := s) (by omega)).1 (by decide) (by decide) rfl (Nat.zero_le _) (Nat.zero_le _) hE337 (fun r343 w344 q345 => ?_)
              obtain ⟨q345r, q345e, q345f⟩ := q345
              rw [q345r]
              have hE342 : isEn G hb A T tl fx X cl dr (mSend X tl (1 - dr) s D) w344 := by unfold mSend mS3; rw [if_pos hcd]; exact q345e
              have hF342 : FrE A w w344 := FrE.tr hF337 q345f
              exact M.vret rfl (Nat.zero_le _) (Nat.zero_le _) ⟨rfl, (by unfold mSnd; rw [if_pos h0]; exact hE342), hF342⟩
            · skip
              refine M.run 2 (pc' := 218) (lv' := [some (vr (A 13)), some (vi ((s : Nat) : Int)), some (vr (A (3 + 2 * s))), some (vi (gR (D.2.1 s) 0 0)), some (vi (((gR (D.2.1 s) 0 1).toNat : Nat) : Int)), some (vi (mBy (gR (D.2.1 s) 0))), some (vi 0), none]) (st' := [vi 3, vi (gR (D.2.1 s) 0 0)]) rfl ?_
              refine M.icmp_ne (tgt := 269) rfl (qI (by omega)) (qI (by decide)) (by decide) (fun h218 => ?_) (fun h218 => ?_)
              · skip
                have hcd : ¬ (((gR (D.2.1 s) 0) 0 = 0 ∧ 0 < (gR (D.2.1 s) 0) 2) ∨ (gR (D.2.1 s) 0) 0 = 1 ∨ (gR (D.2.1 s) 0) 0 = 3) := by omega
                refine M.run 2 (pc' := 271) (lv' := [some (vr (A 13)), some (vi ((s : Nat) : Int)), some (vr (A (3 + 2 * s))), some (vi (gR (D.2.1 s) 0 0)), some (vi (((gR (D.2.1 s) 0 1).toNat : Nat) : Int)), some (vi (mBy (gR (D.2.1 s) 0))), some (vi 0), none]) (st' := [vi 0, vr (A (3 + 2 * s))]) rfl ?_
                refine M.callV (qL_rem l G hb A T tl fx X cl dr (mS2 X tl (1 - dr) s (gR (D.2.1 s) 0) (mS1 s D)) s (by omega) 0 (by rw [mS2_2]; exact h0)) cv_X1_106 cd_X4_remove rfl (st := []) rfl (iS_l hE317.1 (s := s) (by omega)).1 (by decide) (by decide) rfl (Nat.zero_le _) (Nat.zero_le _) hE317 (fun r348 w349 q350 => ?_)
                obtain ⟨q350r, q350e, q350f⟩ := q350
                rw [q350r]
                have hE347 : isEn G hb A T tl fx X cl dr (mSend X tl (1 - dr) s D) w349 := by unfold mSend mS3; rw [if_neg hcd]; exact q350e
                have hF347 : FrE A w w349 := FrE.tr hF317 q350f
                exact M.vret rfl (Nat.zero_le _) (Nat.zero_le _) ⟨rfl, (by unfold mSnd; rw [if_pos h0]; exact hE347), hF347⟩
              · skip
                have hcd : ((gR (D.2.1 s) 0) 0 = 0 ∧ 0 < (gR (D.2.1 s) 0) 2) ∨ (gR (D.2.1 s) 0) 0 = 1 ∨ (gR (D.2.1 s) 0) 0 = 3 := Or.inr (Or.inr (by omega))
                refine M.run 1 (pc' := 222) (lv' := [some (vr (A 13)), some (vi ((s : Nat) : Int)), some (vr (A (3 + 2 * s))), some (vi (gR (D.2.1 s) 0 0)), some (vi (((gR (D.2.1 s) 0 1).toNat : Nat) : Int)), some (vi (mBy (gR (D.2.1 s) 0))), some (vi 0), none]) (st' := [vr (A 13)]) rfl ?_
                refine M.get fl_X1_24 rfl hE317.2.2.1 (kf := 2) (v := vr (A 14)) rfl ?_
                refine M.run 1 (pc' := 226) (lv' := [some (vr (A 13)), some (vi ((s : Nat) : Int)), some (vr (A (3 + 2 * s))), some (vi (gR (D.2.1 s) 0 0)), some (vi (((gR (D.2.1 s) 0 1).toNat : Nat) : Int)), some (vi (mBy (gR (D.2.1 s) 0))), some (vi 0), none]) (st' := [vr (A 13), vr (A 14)]) rfl ?_
                refine M.get fl_X1_9 rfl hE317.2.2.1 (kf := 0) (v := vr (T 0)) rfl ?_
                refine M.callV (qO_rul l G hb A T tl fx X cl dr (mS2 X tl (1 - dr) s (gR (D.2.1 s) 0) (mS1 s D)) hT) cv_X1_168 cd_X9_rulingText rfl (st := [vr (A 14)]) rfl hE317.2.1.1 (by decide) (by decide) rfl (Nat.zero_le _) (Nat.zero_le _) hE317 (fun r352 w353 q354 => ?_)
                rw [q354.1, q354.2]
                refine M.run 5 (pc' := 239) (lv' := [some (vr (A 13)), some (vi ((s : Nat) : Int)), some (vr (A (3 + 2 * s))), some (vi (gR (D.2.1 s) 0 0)), some (vi (((gR (D.2.1 s) 0 1).toNat : Nat) : Int)), some (vi (mBy (gR (D.2.1 s) 0))), some (vi 0), none]) (st' := [vi 6, vi 0, vr (A (3 + 2 * s)), vi (((gR (D.2.1 s) 0 1).toNat : Nat) : Int), vi (gR (D.2.1 s) 0 0), .inr (.inr (if 0 ≤ tl 2 ∧ tl 2 < tl 1 then rfO (fx (tl 2).toNat) else none)), vr (A 14)]) rfl ?_
                refine M.callV (qL_get l G hb A T tl fx X cl dr (mS2 X tl (1 - dr) s (gR (D.2.1 s) 0) (mS1 s D)) s (by omega) 0 6 (by rw [mS2_2]; exact h0) (by decide)) cv_X1_88 cd_X4_get rfl (st := [vi (((gR (D.2.1 s) 0 1).toNat : Nat) : Int), vi (gR (D.2.1 s) 0 0), .inr (.inr (if 0 ≤ tl 2 ∧ tl 2 < tl 1 then rfO (fx (tl 2).toNat) else none)), vr (A 14)]) rfl (iS_l hE317.1 (s := s) (by omega)).1 (by decide) (by decide) rfl (Nat.zero_le _) (Nat.zero_le _) hE317 (fun r356 w357 q358 => ?_)
                rw [q358.1, q358.2]
                rw [show gR ((mS2 X tl (1 - dr) s (gR (D.2.1 s) 0) (mS1 s D)).2.1 s) 0 6 = gR (D.2.1 s) 0 6 from by rw [mS2_2]; rfl]
                obtain ⟨_, _, _, _, _, hLa360⟩ := hE317.2.2.2.1
                refine M.callV (qW_wai l G hb A T tl fx X cl dr (mS2 X tl (1 - dr) s (gR (D.2.1 s) 0) (mS1 s D)) hT (n + 31) hd322 (gR (D.2.1 s) 0 0) (((gR (D.2.1 s) 0 1).toNat : Nat) : Int) (gR (D.2.1 s) 0 6) (by omega) (by omega) (by omega) (tl 2) (by omega)) cv_X1_186 cd_X2_waiting rfl (st := []) rfl hLa360.1 (by decide) (by decide) rfl (Nat.zero_le _) (Nat.zero_le _) hE317 (fun r362 w363 q364 => ?_)
                obtain ⟨q364r, q364e, q364f⟩ := q364
                rw [q364r, show sayV (X (tl 2).toNat 1) (tl 2) (2 * tl 6 + 2) 1 60 (enA (stA tl (mS2 X tl (1 - dr) s (gR (D.2.1 s) 0) (mS1 s D))) (gR (D.2.1 s) 0 0) (((gR (D.2.1 s) 0 1).toNat : Nat) : Int) (gR (D.2.1 s) 0 6)) (ofA (stA tl (mS2 X tl (1 - dr) s (gR (D.2.1 s) 0) (mS1 s D)))) = mWaitA X (stA tl (mS2 X tl (1 - dr) s (gR (D.2.1 s) 0) (mS1 s D))) (gR (D.2.1 s) 0 0) (((gR (D.2.1 s) 0 1).toNat : Nat) : Int) (gR (D.2.1 s) 0 6) from rfl]
                have hE361 : isEn G hb A T tl fx X cl dr (mS2 X tl (1 - dr) s (gR (D.2.1 s) 0) (mS1 s D)) w363 := q364e
                have hF361 : FrE A w w363 := FrE.tr hF317 q364f
                refine M.run 2 (pc' := 248) (lv' := [some (vr (A 13)), some (vi ((s : Nat) : Int)), some (vr (A (3 + 2 * s))), some (vi (gR (D.2.1 s) 0 0)), some (vi (((gR (D.2.1 s) 0 1).toNat : Nat) : Int)), some (vi (mBy (gR (D.2.1 s) 0))), some (vi 0), some (vi (mWaitA X (stA tl (mS2 X tl (1 - dr) s (gR (D.2.1 s) 0) (mS1 s D))) (gR (D.2.1 s) 0 0) (((gR (D.2.1 s) 0 1).toNat : Nat) : Int) (gR (D.2.1 s) 0 6)))]) (st' := [vr (A 13)]) rfl ?_
                refine M.get fl_X1_15 rfl hE361.2.2.1 (kf := 1) (v := vr (A 0)) rfl ?_
                refine M.get fl_X1_145 rfl hE361.1.1 (kf := 9) (v := vr (A 9)) rfl ?_
                refine M.run 2 (pc' := 256) (lv' := [some (vr (A 13)), some (vi ((s : Nat) : Int)), some (vr (A (3 + 2 * s))), some (vi (gR (D.2.1 s) 0 0)), some (vi (((gR (D.2.1 s) 0 1).toNat : Nat) : Int)), some (vi (mBy (gR (D.2.1 s) 0))), some (vi 0), some (vi (mWaitA X (stA tl (mS2 X tl (1 - dr) s (gR (D.2.1 s) 0) (mS1 s D))) (gR (D.2.1 s) 0 0) (((gR (D.2.1 s) 0 1).toNat : Nat) : Int) (gR (D.2.1 s) 0 6)))]) (st' := [vr (A 13), vr (A (3 + 2 * s)), vr (A 9)]) rfl ?_
                refine M.get fl_X1_15 rfl hE361.2.2.1 (kf := 1) (v := vr (A 0)) rfl ?_
                refine M.get fl_X1_116 rfl hE361.1.1 (kf := 1) (v := vi ((mS2 X tl (1 - dr) s (gR (D.2.1 s) 0) (mS1 s D)).1 20)) rfl ?_
                refine M.run 3 (pc' := 266) (lv' := [some (vr (A 13)), some (vi ((s : Nat) : Int)), some (vr (A (3 + 2 * s))), some (vi (gR (D.2.1 s) 0 0)), some (vi (((gR (D.2.1 s) 0 1).toNat : Nat) : Int)), some (vi (mBy (gR (D.2.1 s) 0))), some (vi 0), some (vi (mWaitA X (stA tl (mS2 X tl (1 - dr) s (gR (D.2.1 s) 0) (mS1 s D))) (gR (D.2.1 s) 0 0) (((gR (D.2.1 s) 0 1).toNat : Nat) : Int) (gR (D.2.1 s) 0 6)))]) (st' := [vi ((s : Nat) : Int), vi (((mS2 X tl (1 - dr) s (gR (D.2.1 s) 0) (mS1 s D)).1 20) + (mWaitA X (stA tl (mS2 X tl (1 - dr) s (gR (D.2.1 s) 0) (mS1 s D))) (gR (D.2.1 s) 0 0) (((gR (D.2.1 s) 0 1).toNat : Nat) : Int) (gR (D.2.1 s) 0 6))), vr (A (3 + 2 * s)), vr (A 9)]) rfl ?_
                refine M.callV (qT_add l G hb A T tl fx X cl dr (mS2 X tl (1 - dr) s (gR (D.2.1 s) 0) (mS1 s D)) s (by omega) (by rw [mS2_2]; exact h0) (((mS2 X tl (1 - dr) s (gR (D.2.1 s) 0) (mS1 s D)).1 20) + (mWaitA X (stA tl (mS2 X tl (1 - dr) s (gR (D.2.1 s) 0) (mS1 s D))) (gR (D.2.1 s) 0 0) (((gR (D.2.1 s) 0 1).toNat : Nat) : Int) (gR (D.2.1 s) 0 6))) ((s : Nat) : Int)) cv_X1_182 cd_X4_addFirstOf rfl (st := []) rfl (iS_t hE361.1).1 (by decide) (by decide) rfl (Nat.zero_le _) (Nat.zero_le _) hE361 (fun r367 w368 q369 => ?_)
                obtain ⟨q369r, q369e, q369f⟩ := q369
                rw [q369r]
                have hE366 : isEn G hb A T tl fx X cl dr (mTimer X tl s (mS2 X tl (1 - dr) s (gR (D.2.1 s) 0) (mS1 s D))) w368 := by rw [← tmr_eq (X := X) (a0 := tl) (s := s) (D := (mS2 X tl (1 - dr) s (gR (D.2.1 s) 0) (mS1 s D))) (kd := (gR (D.2.1 s) 0) 0) (bl := (((gR (D.2.1 s) 0 1).toNat : Nat) : Int)) (tr := (gR (D.2.1 s) 0) 6) (by rw [mS2_2]; rfl) (by rw [mS2_2]; exact Int.toNat_of_nonneg hr1.1) (by rw [mS2_2]; rfl)]; exact q369e
                have hF366 : FrE A w w368 := FrE.tr hF361 q369f
                refine M.run 2 (pc' := 271) (lv' := [some (vr (A 13)), some (vi ((s : Nat) : Int)), some (vr (A (3 + 2 * s))), some (vi (gR (D.2.1 s) 0 0)), some (vi (((gR (D.2.1 s) 0 1).toNat : Nat) : Int)), some (vi (mBy (gR (D.2.1 s) 0))), some (vi 0), some (vi (mWaitA X (stA tl (mS2 X tl (1 - dr) s (gR (D.2.1 s) 0) (mS1 s D))) (gR (D.2.1 s) 0 0) (((gR (D.2.1 s) 0 1).toNat : Nat) : Int) (gR (D.2.1 s) 0 6)))]) (st' := [vi 0, vr (A (3 + 2 * s))]) rfl ?_
                refine M.callV (qL_rem l G hb A T tl fx X cl dr (mTimer X tl s (mS2 X tl (1 - dr) s (gR (D.2.1 s) 0) (mS1 s D))) s (by omega) 0 (by rw [mTimer_2, mS2_2]; exact h0)) cv_X1_106 cd_X4_remove rfl (st := []) rfl (iS_l hE366.1 (s := s) (by omega)).1 (by decide) (by decide) rfl (Nat.zero_le _) (Nat.zero_le _) hE366 (fun r372 w373 q374 => ?_)
                obtain ⟨q374r, q374e, q374f⟩ := q374
                rw [q374r]
                have hE371 : isEn G hb A T tl fx X cl dr (mSend X tl (1 - dr) s D) w373 := by unfold mSend mS3; rw [if_pos hcd]; exact q374e
                have hF371 : FrE A w w373 := FrE.tr hF366 q374f
                exact M.vret rfl (Nat.zero_le _) (Nat.zero_le _) ⟨rfl, (by unfold mSnd; rw [if_pos h0]; exact hE371), hF371⟩
          · skip
            refine M.run 3 (pc' := 193) (lv' := [some (vr (A 13)), some (vi ((s : Nat) : Int)), some (vr (A (3 + 2 * s))), some (vi (gR (D.2.1 s) 0 0)), some (vi (((gR (D.2.1 s) 0 1).toNat : Nat) : Int)), some (vi (mBy (gR (D.2.1 s) 0))), none, none]) (st' := [vi 2, vi 0, vr (A (3 + 2 * s))]) rfl ?_
            refine M.callV (qL_get l G hb A T tl fx X cl dr (mS2 X tl (1 - dr) s (gR (D.2.1 s) 0) (mS1 s D)) s (by omega) 0 2 (by rw [mS2_2]; exact h0) (by decide)) cv_X1_88 cd_X4_get rfl (st := []) rfl (iS_l hE317.1 (s := s) (by omega)).1 (by decide) (by decide) rfl (Nat.zero_le _) (Nat.zero_le _) hE317 (fun r376 w377 q378 => ?_)
            rw [q378.1, q378.2]
            rw [show gR ((mS2 X tl (1 - dr) s (gR (D.2.1 s) 0) (mS1 s D)).2.1 s) 0 2 = gR (D.2.1 s) 0 2 from by rw [mS2_2]; rfl]
            refine M.if_le (tgt := 203) rfl (qI (by omega)) (by decide) (fun h196 => ?_) (fun h196 => ?_)
            · skip
              refine M.run 3 (pc' := 208) (lv' := [some (vr (A 13)), some (vi ((s : Nat) : Int)), some (vr (A (3 + 2 * s))), some (vi (gR (D.2.1 s) 0 0)), some (vi (((gR (D.2.1 s) 0 1).toNat : Nat) : Int)), some (vi (mBy (gR (D.2.1 s) 0))), some (vi 0), none]) (st' := [vi 0]) rfl ?_
              refine M.if_ne (tgt := 221) rfl (qI (by decide)) (by decide) (fun q => absurd q (by decide)) (fun _ => ?_)
              refine M.run 2 (pc' := 213) (lv' := [some (vr (A 13)), some (vi ((s : Nat) : Int)), some (vr (A (3 + 2 * s))), some (vi (gR (D.2.1 s) 0 0)), some (vi (((gR (D.2.1 s) 0 1).toNat : Nat) : Int)), some (vi (mBy (gR (D.2.1 s) 0))), some (vi 0), none]) (st' := [vi 1, vi (gR (D.2.1 s) 0 0)]) rfl ?_
              refine M.icmp_eq (tgt := 221) rfl (qI (by omega)) (qI (by decide)) (by decide) (fun h213 => ?_) (fun h213 => ?_)
              · skip
                have hcd : ((gR (D.2.1 s) 0) 0 = 0 ∧ 0 < (gR (D.2.1 s) 0) 2) ∨ (gR (D.2.1 s) 0) 0 = 1 ∨ (gR (D.2.1 s) 0) 0 = 3 := Or.inr (Or.inl (by omega))
                refine M.run 1 (pc' := 222) (lv' := [some (vr (A 13)), some (vi ((s : Nat) : Int)), some (vr (A (3 + 2 * s))), some (vi (gR (D.2.1 s) 0 0)), some (vi (((gR (D.2.1 s) 0 1).toNat : Nat) : Int)), some (vi (mBy (gR (D.2.1 s) 0))), some (vi 0), none]) (st' := [vr (A 13)]) rfl ?_
                refine M.get fl_X1_24 rfl hE317.2.2.1 (kf := 2) (v := vr (A 14)) rfl ?_
                refine M.run 1 (pc' := 226) (lv' := [some (vr (A 13)), some (vi ((s : Nat) : Int)), some (vr (A (3 + 2 * s))), some (vi (gR (D.2.1 s) 0 0)), some (vi (((gR (D.2.1 s) 0 1).toNat : Nat) : Int)), some (vi (mBy (gR (D.2.1 s) 0))), some (vi 0), none]) (st' := [vr (A 13), vr (A 14)]) rfl ?_
                refine M.get fl_X1_9 rfl hE317.2.2.1 (kf := 0) (v := vr (T 0)) rfl ?_
                refine M.callV (qO_rul l G hb A T tl fx X cl dr (mS2 X tl (1 - dr) s (gR (D.2.1 s) 0) (mS1 s D)) hT) cv_X1_168 cd_X9_rulingText rfl (st := [vr (A 14)]) rfl hE317.2.1.1 (by decide) (by decide) rfl (Nat.zero_le _) (Nat.zero_le _) hE317 (fun r380 w381 q382 => ?_)
                rw [q382.1, q382.2]
                refine M.run 5 (pc' := 239) (lv' := [some (vr (A 13)), some (vi ((s : Nat) : Int)), some (vr (A (3 + 2 * s))), some (vi (gR (D.2.1 s) 0 0)), some (vi (((gR (D.2.1 s) 0 1).toNat : Nat) : Int)), some (vi (mBy (gR (D.2.1 s) 0))), some (vi 0), none]) (st' := [vi 6, vi 0, vr (A (3 + 2 * s)), vi (((gR (D.2.1 s) 0 1).toNat : Nat) : Int), vi (gR (D.2.1 s) 0 0), .inr (.inr (if 0 ≤ tl 2 ∧ tl 2 < tl 1 then rfO (fx (tl 2).toNat) else none)), vr (A 14)]) rfl ?_
                refine M.callV (qL_get l G hb A T tl fx X cl dr (mS2 X tl (1 - dr) s (gR (D.2.1 s) 0) (mS1 s D)) s (by omega) 0 6 (by rw [mS2_2]; exact h0) (by decide)) cv_X1_88 cd_X4_get rfl (st := [vi (((gR (D.2.1 s) 0 1).toNat : Nat) : Int), vi (gR (D.2.1 s) 0 0), .inr (.inr (if 0 ≤ tl 2 ∧ tl 2 < tl 1 then rfO (fx (tl 2).toNat) else none)), vr (A 14)]) rfl (iS_l hE317.1 (s := s) (by omega)).1 (by decide) (by decide) rfl (Nat.zero_le _) (Nat.zero_le _) hE317 (fun r384 w385 q386 => ?_)
                rw [q386.1, q386.2]
                rw [show gR ((mS2 X tl (1 - dr) s (gR (D.2.1 s) 0) (mS1 s D)).2.1 s) 0 6 = gR (D.2.1 s) 0 6 from by rw [mS2_2]; rfl]
                obtain ⟨_, _, _, _, _, hLa388⟩ := hE317.2.2.2.1
                refine M.callV (qW_wai l G hb A T tl fx X cl dr (mS2 X tl (1 - dr) s (gR (D.2.1 s) 0) (mS1 s D)) hT (n + 31) hd322 (gR (D.2.1 s) 0 0) (((gR (D.2.1 s) 0 1).toNat : Nat) : Int) (gR (D.2.1 s) 0 6) (by omega) (by omega) (by omega) (tl 2) (by omega)) cv_X1_186 cd_X2_waiting rfl (st := []) rfl hLa388.1 (by decide) (by decide) rfl (Nat.zero_le _) (Nat.zero_le _) hE317 (fun r390 w391 q392 => ?_)
                obtain ⟨q392r, q392e, q392f⟩ := q392
                rw [q392r, show sayV (X (tl 2).toNat 1) (tl 2) (2 * tl 6 + 2) 1 60 (enA (stA tl (mS2 X tl (1 - dr) s (gR (D.2.1 s) 0) (mS1 s D))) (gR (D.2.1 s) 0 0) (((gR (D.2.1 s) 0 1).toNat : Nat) : Int) (gR (D.2.1 s) 0 6)) (ofA (stA tl (mS2 X tl (1 - dr) s (gR (D.2.1 s) 0) (mS1 s D)))) = mWaitA X (stA tl (mS2 X tl (1 - dr) s (gR (D.2.1 s) 0) (mS1 s D))) (gR (D.2.1 s) 0 0) (((gR (D.2.1 s) 0 1).toNat : Nat) : Int) (gR (D.2.1 s) 0 6) from rfl]
                have hE389 : isEn G hb A T tl fx X cl dr (mS2 X tl (1 - dr) s (gR (D.2.1 s) 0) (mS1 s D)) w391 := q392e
                have hF389 : FrE A w w391 := FrE.tr hF317 q392f
                refine M.run 2 (pc' := 248) (lv' := [some (vr (A 13)), some (vi ((s : Nat) : Int)), some (vr (A (3 + 2 * s))), some (vi (gR (D.2.1 s) 0 0)), some (vi (((gR (D.2.1 s) 0 1).toNat : Nat) : Int)), some (vi (mBy (gR (D.2.1 s) 0))), some (vi 0), some (vi (mWaitA X (stA tl (mS2 X tl (1 - dr) s (gR (D.2.1 s) 0) (mS1 s D))) (gR (D.2.1 s) 0 0) (((gR (D.2.1 s) 0 1).toNat : Nat) : Int) (gR (D.2.1 s) 0 6)))]) (st' := [vr (A 13)]) rfl ?_
                refine M.get fl_X1_15 rfl hE389.2.2.1 (kf := 1) (v := vr (A 0)) rfl ?_
                refine M.get fl_X1_145 rfl hE389.1.1 (kf := 9) (v := vr (A 9)) rfl ?_
                refine M.run 2 (pc' := 256) (lv' := [some (vr (A 13)), some (vi ((s : Nat) : Int)), some (vr (A (3 + 2 * s))), some (vi (gR (D.2.1 s) 0 0)), some (vi (((gR (D.2.1 s) 0 1).toNat : Nat) : Int)), some (vi (mBy (gR (D.2.1 s) 0))), some (vi 0), some (vi (mWaitA X (stA tl (mS2 X tl (1 - dr) s (gR (D.2.1 s) 0) (mS1 s D))) (gR (D.2.1 s) 0 0) (((gR (D.2.1 s) 0 1).toNat : Nat) : Int) (gR (D.2.1 s) 0 6)))]) (st' := [vr (A 13), vr (A (3 + 2 * s)), vr (A 9)]) rfl ?_
                refine M.get fl_X1_15 rfl hE389.2.2.1 (kf := 1) (v := vr (A 0)) rfl ?_
                refine M.get fl_X1_116 rfl hE389.1.1 (kf := 1) (v := vi ((mS2 X tl (1 - dr) s (gR (D.2.1 s) 0) (mS1 s D)).1 20)) rfl ?_
                refine M.run 3 (pc' := 266) (lv' := [some (vr (A 13)), some (vi ((s : Nat) : Int)), some (vr (A (3 + 2 * s))), some (vi (gR (D.2.1 s) 0 0)), some (vi (((gR (D.2.1 s) 0 1).toNat : Nat) : Int)), some (vi (mBy (gR (D.2.1 s) 0))), some (vi 0), some (vi (mWaitA X (stA tl (mS2 X tl (1 - dr) s (gR (D.2.1 s) 0) (mS1 s D))) (gR (D.2.1 s) 0 0) (((gR (D.2.1 s) 0 1).toNat : Nat) : Int) (gR (D.2.1 s) 0 6)))]) (st' := [vi ((s : Nat) : Int), vi (((mS2 X tl (1 - dr) s (gR (D.2.1 s) 0) (mS1 s D)).1 20) + (mWaitA X (stA tl (mS2 X tl (1 - dr) s (gR (D.2.1 s) 0) (mS1 s D))) (gR (D.2.1 s) 0 0) (((gR (D.2.1 s) 0 1).toNat : Nat) : Int) (gR (D.2.1 s) 0 6))), vr (A (3 + 2 * s)), vr (A 9)]) rfl ?_
                refine M.callV (qT_add l G hb A T tl fx X cl dr (mS2 X tl (1 - dr) s (gR (D.2.1 s) 0) (mS1 s D)) s (by omega) (by rw [mS2_2]; exact h0) (((mS2 X tl (1 - dr) s (gR (D.2.1 s) 0) (mS1 s D)).1 20) + (mWaitA X (stA tl (mS2 X tl (1 - dr) s (gR (D.2.1 s) 0) (mS1 s D))) (gR (D.2.1 s) 0 0) (((gR (D.2.1 s) 0 1).toNat : Nat) : Int) (gR (D.2.1 s) 0 6))) ((s : Nat) : Int)) cv_X1_182 cd_X4_addFirstOf rfl (st := []) rfl (iS_t hE389.1).1 (by decide) (by decide) rfl (Nat.zero_le _) (Nat.zero_le _) hE389 (fun r395 w396 q397 => ?_)
                obtain ⟨q397r, q397e, q397f⟩ := q397
                rw [q397r]
                have hE394 : isEn G hb A T tl fx X cl dr (mTimer X tl s (mS2 X tl (1 - dr) s (gR (D.2.1 s) 0) (mS1 s D))) w396 := by rw [← tmr_eq (X := X) (a0 := tl) (s := s) (D := (mS2 X tl (1 - dr) s (gR (D.2.1 s) 0) (mS1 s D))) (kd := (gR (D.2.1 s) 0) 0) (bl := (((gR (D.2.1 s) 0 1).toNat : Nat) : Int)) (tr := (gR (D.2.1 s) 0) 6) (by rw [mS2_2]; rfl) (by rw [mS2_2]; exact Int.toNat_of_nonneg hr1.1) (by rw [mS2_2]; rfl)]; exact q397e
                have hF394 : FrE A w w396 := FrE.tr hF389 q397f
                refine M.run 2 (pc' := 271) (lv' := [some (vr (A 13)), some (vi ((s : Nat) : Int)), some (vr (A (3 + 2 * s))), some (vi (gR (D.2.1 s) 0 0)), some (vi (((gR (D.2.1 s) 0 1).toNat : Nat) : Int)), some (vi (mBy (gR (D.2.1 s) 0))), some (vi 0), some (vi (mWaitA X (stA tl (mS2 X tl (1 - dr) s (gR (D.2.1 s) 0) (mS1 s D))) (gR (D.2.1 s) 0 0) (((gR (D.2.1 s) 0 1).toNat : Nat) : Int) (gR (D.2.1 s) 0 6)))]) (st' := [vi 0, vr (A (3 + 2 * s))]) rfl ?_
                refine M.callV (qL_rem l G hb A T tl fx X cl dr (mTimer X tl s (mS2 X tl (1 - dr) s (gR (D.2.1 s) 0) (mS1 s D))) s (by omega) 0 (by rw [mTimer_2, mS2_2]; exact h0)) cv_X1_106 cd_X4_remove rfl (st := []) rfl (iS_l hE394.1 (s := s) (by omega)).1 (by decide) (by decide) rfl (Nat.zero_le _) (Nat.zero_le _) hE394 (fun r400 w401 q402 => ?_)
                obtain ⟨q402r, q402e, q402f⟩ := q402
                rw [q402r]
                have hE399 : isEn G hb A T tl fx X cl dr (mSend X tl (1 - dr) s D) w401 := by unfold mSend mS3; rw [if_pos hcd]; exact q402e
                have hF399 : FrE A w w401 := FrE.tr hF394 q402f
                exact M.vret rfl (Nat.zero_le _) (Nat.zero_le _) ⟨rfl, (by unfold mSnd; rw [if_pos h0]; exact hE399), hF399⟩
              · skip
                refine M.run 2 (pc' := 218) (lv' := [some (vr (A 13)), some (vi ((s : Nat) : Int)), some (vr (A (3 + 2 * s))), some (vi (gR (D.2.1 s) 0 0)), some (vi (((gR (D.2.1 s) 0 1).toNat : Nat) : Int)), some (vi (mBy (gR (D.2.1 s) 0))), some (vi 0), none]) (st' := [vi 3, vi (gR (D.2.1 s) 0 0)]) rfl ?_
                refine M.icmp_ne (tgt := 269) rfl (qI (by omega)) (qI (by decide)) (by decide) (fun h218 => ?_) (fun h218 => ?_)
                · skip
                  have hcd : ¬ (((gR (D.2.1 s) 0) 0 = 0 ∧ 0 < (gR (D.2.1 s) 0) 2) ∨ (gR (D.2.1 s) 0) 0 = 1 ∨ (gR (D.2.1 s) 0) 0 = 3) := by omega
                  refine M.run 2 (pc' := 271) (lv' := [some (vr (A 13)), some (vi ((s : Nat) : Int)), some (vr (A (3 + 2 * s))), some (vi (gR (D.2.1 s) 0 0)), some (vi (((gR (D.2.1 s) 0 1).toNat : Nat) : Int)), some (vi (mBy (gR (D.2.1 s) 0))), some (vi 0), none]) (st' := [vi 0, vr (A (3 + 2 * s))]) rfl ?_
                  refine M.callV (qL_rem l G hb A T tl fx X cl dr (mS2 X tl (1 - dr) s (gR (D.2.1 s) 0) (mS1 s D)) s (by omega) 0 (by rw [mS2_2]; exact h0)) cv_X1_106 cd_X4_remove rfl (st := []) rfl (iS_l hE317.1 (s := s) (by omega)).1 (by decide) (by decide) rfl (Nat.zero_le _) (Nat.zero_le _) hE317 (fun r405 w406 q407 => ?_)
                  obtain ⟨q407r, q407e, q407f⟩ := q407
                  rw [q407r]
                  have hE404 : isEn G hb A T tl fx X cl dr (mSend X tl (1 - dr) s D) w406 := by unfold mSend mS3; rw [if_neg hcd]; exact q407e
                  have hF404 : FrE A w w406 := FrE.tr hF317 q407f
                  exact M.vret rfl (Nat.zero_le _) (Nat.zero_le _) ⟨rfl, (by unfold mSnd; rw [if_pos h0]; exact hE404), hF404⟩
                · skip
                  have hcd : ((gR (D.2.1 s) 0) 0 = 0 ∧ 0 < (gR (D.2.1 s) 0) 2) ∨ (gR (D.2.1 s) 0) 0 = 1 ∨ (gR (D.2.1 s) 0) 0 = 3 := Or.inr (Or.inr (by omega))
                  refine M.run 1 (pc' := 222) (lv' := [some (vr (A 13)), some (vi ((s : Nat) : Int)), some (vr (A (3 + 2 * s))), some (vi (gR (D.2.1 s) 0 0)), some (vi (((gR (D.2.1 s) 0 1).toNat : Nat) : Int)), some (vi (mBy (gR (D.2.1 s) 0))), some (vi 0), none]) (st' := [vr (A 13)]) rfl ?_
                  refine M.get fl_X1_24 rfl hE317.2.2.1 (kf := 2) (v := vr (A 14)) rfl ?_
                  refine M.run 1 (pc' := 226) (lv' := [some (vr (A 13)), some (vi ((s : Nat) : Int)), some (vr (A (3 + 2 * s))), some (vi (gR (D.2.1 s) 0 0)), some (vi (((gR (D.2.1 s) 0 1).toNat : Nat) : Int)), some (vi (mBy (gR (D.2.1 s) 0))), some (vi 0), none]) (st' := [vr (A 13), vr (A 14)]) rfl ?_
                  refine M.get fl_X1_9 rfl hE317.2.2.1 (kf := 0) (v := vr (T 0)) rfl ?_
                  refine M.callV (qO_rul l G hb A T tl fx X cl dr (mS2 X tl (1 - dr) s (gR (D.2.1 s) 0) (mS1 s D)) hT) cv_X1_168 cd_X9_rulingText rfl (st := [vr (A 14)]) rfl hE317.2.1.1 (by decide) (by decide) rfl (Nat.zero_le _) (Nat.zero_le _) hE317 (fun r409 w410 q411 => ?_)
                  rw [q411.1, q411.2]
                  refine M.run 5 (pc' := 239) (lv' := [some (vr (A 13)), some (vi ((s : Nat) : Int)), some (vr (A (3 + 2 * s))), some (vi (gR (D.2.1 s) 0 0)), some (vi (((gR (D.2.1 s) 0 1).toNat : Nat) : Int)), some (vi (mBy (gR (D.2.1 s) 0))), some (vi 0), none]) (st' := [vi 6, vi 0, vr (A (3 + 2 * s)), vi (((gR (D.2.1 s) 0 1).toNat : Nat) : Int), vi (gR (D.2.1 s) 0 0), .inr (.inr (if 0 ≤ tl 2 ∧ tl 2 < tl 1 then rfO (fx (tl 2).toNat) else none)), vr (A 14)]) rfl ?_
                  refine M.callV (qL_get l G hb A T tl fx X cl dr (mS2 X tl (1 - dr) s (gR (D.2.1 s) 0) (mS1 s D)) s (by omega) 0 6 (by rw [mS2_2]; exact h0) (by decide)) cv_X1_88 cd_X4_get rfl (st := [vi (((gR (D.2.1 s) 0 1).toNat : Nat) : Int), vi (gR (D.2.1 s) 0 0), .inr (.inr (if 0 ≤ tl 2 ∧ tl 2 < tl 1 then rfO (fx (tl 2).toNat) else none)), vr (A 14)]) rfl (iS_l hE317.1 (s := s) (by omega)).1 (by decide) (by decide) rfl (Nat.zero_le _) (Nat.zero_le _) hE317 (fun r413 w414 q415 => ?_)
                  rw [q415.1, q415.2]
                  rw [show gR ((mS2 X tl (1 - dr) s (gR (D.2.1 s) 0) (mS1 s D)).2.1 s) 0 6 = gR (D.2.1 s) 0 6 from by rw [mS2_2]; rfl]
                  obtain ⟨_, _, _, _, _, hLa417⟩ := hE317.2.2.2.1
                  refine M.callV (qW_wai l G hb A T tl fx X cl dr (mS2 X tl (1 - dr) s (gR (D.2.1 s) 0) (mS1 s D)) hT (n + 31) hd322 (gR (D.2.1 s) 0 0) (((gR (D.2.1 s) 0 1).toNat : Nat) : Int) (gR (D.2.1 s) 0 6) (by omega) (by omega) (by omega) (tl 2) (by omega)) cv_X1_186 cd_X2_waiting rfl (st := []) rfl hLa417.1 (by decide) (by decide) rfl (Nat.zero_le _) (Nat.zero_le _) hE317 (fun r419 w420 q421 => ?_)
                  obtain ⟨q421r, q421e, q421f⟩ := q421
                  rw [q421r, show sayV (X (tl 2).toNat 1) (tl 2) (2 * tl 6 + 2) 1 60 (enA (stA tl (mS2 X tl (1 - dr) s (gR (D.2.1 s) 0) (mS1 s D))) (gR (D.2.1 s) 0 0) (((gR (D.2.1 s) 0 1).toNat : Nat) : Int) (gR (D.2.1 s) 0 6)) (ofA (stA tl (mS2 X tl (1 - dr) s (gR (D.2.1 s) 0) (mS1 s D)))) = mWaitA X (stA tl (mS2 X tl (1 - dr) s (gR (D.2.1 s) 0) (mS1 s D))) (gR (D.2.1 s) 0 0) (((gR (D.2.1 s) 0 1).toNat : Nat) : Int) (gR (D.2.1 s) 0 6) from rfl]
                  have hE418 : isEn G hb A T tl fx X cl dr (mS2 X tl (1 - dr) s (gR (D.2.1 s) 0) (mS1 s D)) w420 := q421e
                  have hF418 : FrE A w w420 := FrE.tr hF317 q421f
                  refine M.run 2 (pc' := 248) (lv' := [some (vr (A 13)), some (vi ((s : Nat) : Int)), some (vr (A (3 + 2 * s))), some (vi (gR (D.2.1 s) 0 0)), some (vi (((gR (D.2.1 s) 0 1).toNat : Nat) : Int)), some (vi (mBy (gR (D.2.1 s) 0))), some (vi 0), some (vi (mWaitA X (stA tl (mS2 X tl (1 - dr) s (gR (D.2.1 s) 0) (mS1 s D))) (gR (D.2.1 s) 0 0) (((gR (D.2.1 s) 0 1).toNat : Nat) : Int) (gR (D.2.1 s) 0 6)))]) (st' := [vr (A 13)]) rfl ?_
                  refine M.get fl_X1_15 rfl hE418.2.2.1 (kf := 1) (v := vr (A 0)) rfl ?_
                  refine M.get fl_X1_145 rfl hE418.1.1 (kf := 9) (v := vr (A 9)) rfl ?_
                  refine M.run 2 (pc' := 256) (lv' := [some (vr (A 13)), some (vi ((s : Nat) : Int)), some (vr (A (3 + 2 * s))), some (vi (gR (D.2.1 s) 0 0)), some (vi (((gR (D.2.1 s) 0 1).toNat : Nat) : Int)), some (vi (mBy (gR (D.2.1 s) 0))), some (vi 0), some (vi (mWaitA X (stA tl (mS2 X tl (1 - dr) s (gR (D.2.1 s) 0) (mS1 s D))) (gR (D.2.1 s) 0 0) (((gR (D.2.1 s) 0 1).toNat : Nat) : Int) (gR (D.2.1 s) 0 6)))]) (st' := [vr (A 13), vr (A (3 + 2 * s)), vr (A 9)]) rfl ?_
                  refine M.get fl_X1_15 rfl hE418.2.2.1 (kf := 1) (v := vr (A 0)) rfl ?_
                  refine M.get fl_X1_116 rfl hE418.1.1 (kf := 1) (v := vi ((mS2 X tl (1 - dr) s (gR (D.2.1 s) 0) (mS1 s D)).1 20)) rfl ?_
                  refine M.run 3 (pc' := 266) (lv' := [some (vr (A 13)), some (vi ((s : Nat) : Int)), some (vr (A (3 + 2 * s))), some (vi (gR (D.2.1 s) 0 0)), some (vi (((gR (D.2.1 s) 0 1).toNat : Nat) : Int)), some (vi (mBy (gR (D.2.1 s) 0))), some (vi 0), some (vi (mWaitA X (stA tl (mS2 X tl (1 - dr) s (gR (D.2.1 s) 0) (mS1 s D))) (gR (D.2.1 s) 0 0) (((gR (D.2.1 s) 0 1).toNat : Nat) : Int) (gR (D.2.1 s) 0 6)))]) (st' := [vi ((s : Nat) : Int), vi (((mS2 X tl (1 - dr) s (gR (D.2.1 s) 0) (mS1 s D)).1 20) + (mWaitA X (stA tl (mS2 X tl (1 - dr) s (gR (D.2.1 s) 0) (mS1 s D))) (gR (D.2.1 s) 0 0) (((gR (D.2.1 s) 0 1).toNat : Nat) : Int) (gR (D.2.1 s) 0 6))), vr (A (3 + 2 * s)), vr (A 9)]) rfl ?_
                  refine M.callV (qT_add l G hb A T tl fx X cl dr (mS2 X tl (1 - dr) s (gR (D.2.1 s) 0) (mS1 s D)) s (by omega) (by rw [mS2_2]; exact h0) (((mS2 X tl (1 - dr) s (gR (D.2.1 s) 0) (mS1 s D)).1 20) + (mWaitA X (stA tl (mS2 X tl (1 - dr) s (gR (D.2.1 s) 0) (mS1 s D))) (gR (D.2.1 s) 0 0) (((gR (D.2.1 s) 0 1).toNat : Nat) : Int) (gR (D.2.1 s) 0 6))) ((s : Nat) : Int)) cv_X1_182 cd_X4_addFirstOf rfl (st := []) rfl (iS_t hE418.1).1 (by decide) (by decide) rfl (Nat.zero_le _) (Nat.zero_le _) hE418 (fun r424 w425 q426 => ?_)
                  obtain ⟨q426r, q426e, q426f⟩ := q426
                  rw [q426r]
                  have hE423 : isEn G hb A T tl fx X cl dr (mTimer X tl s (mS2 X tl (1 - dr) s (gR (D.2.1 s) 0) (mS1 s D))) w425 := by rw [← tmr_eq (X := X) (a0 := tl) (s := s) (D := (mS2 X tl (1 - dr) s (gR (D.2.1 s) 0) (mS1 s D))) (kd := (gR (D.2.1 s) 0) 0) (bl := (((gR (D.2.1 s) 0 1).toNat : Nat) : Int)) (tr := (gR (D.2.1 s) 0) 6) (by rw [mS2_2]; rfl) (by rw [mS2_2]; exact Int.toNat_of_nonneg hr1.1) (by rw [mS2_2]; rfl)]; exact q426e
                  have hF423 : FrE A w w425 := FrE.tr hF418 q426f
                  refine M.run 2 (pc' := 271) (lv' := [some (vr (A 13)), some (vi ((s : Nat) : Int)), some (vr (A (3 + 2 * s))), some (vi (gR (D.2.1 s) 0 0)), some (vi (((gR (D.2.1 s) 0 1).toNat : Nat) : Int)), some (vi (mBy (gR (D.2.1 s) 0))), some (vi 0), some (vi (mWaitA X (stA tl (mS2 X tl (1 - dr) s (gR (D.2.1 s) 0) (mS1 s D))) (gR (D.2.1 s) 0 0) (((gR (D.2.1 s) 0 1).toNat : Nat) : Int) (gR (D.2.1 s) 0 6)))]) (st' := [vi 0, vr (A (3 + 2 * s))]) rfl ?_
                  refine M.callV (qL_rem l G hb A T tl fx X cl dr (mTimer X tl s (mS2 X tl (1 - dr) s (gR (D.2.1 s) 0) (mS1 s D))) s (by omega) 0 (by rw [mTimer_2, mS2_2]; exact h0)) cv_X1_106 cd_X4_remove rfl (st := []) rfl (iS_l hE423.1 (s := s) (by omega)).1 (by decide) (by decide) rfl (Nat.zero_le _) (Nat.zero_le _) hE423 (fun r429 w430 q431 => ?_)
                  obtain ⟨q431r, q431e, q431f⟩ := q431
                  rw [q431r]
                  have hE428 : isEn G hb A T tl fx X cl dr (mSend X tl (1 - dr) s D) w430 := by unfold mSend mS3; rw [if_pos hcd]; exact q431e
                  have hF428 : FrE A w w430 := FrE.tr hF423 q431f
                  exact M.vret rfl (Nat.zero_le _) (Nat.zero_le _) ⟨rfl, (by unfold mSnd; rw [if_pos h0]; exact hE428), hF428⟩
            · skip
              refine M.run 4 (pc' := 208) (lv' := [some (vr (A 13)), some (vi ((s : Nat) : Int)), some (vr (A (3 + 2 * s))), some (vi (gR (D.2.1 s) 0 0)), some (vi (((gR (D.2.1 s) 0 1).toNat : Nat) : Int)), some (vi (mBy (gR (D.2.1 s) 0))), some (vi 1), none]) (st' := [vi 1]) rfl ?_
              refine M.if_ne (tgt := 221) rfl (qI (by decide)) (by decide) (fun _ => ?_) (fun q => absurd q (by decide))
              have hcd : ((gR (D.2.1 s) 0) 0 = 0 ∧ 0 < (gR (D.2.1 s) 0) 2) ∨ (gR (D.2.1 s) 0) 0 = 1 ∨ (gR (D.2.1 s) 0) 0 = 3 := Or.inl ⟨by omega, by omega⟩
              refine M.run 1 (pc' := 222) (lv' := [some (vr (A 13)), some (vi ((s : Nat) : Int)), some (vr (A (3 + 2 * s))), some (vi (gR (D.2.1 s) 0 0)), some (vi (((gR (D.2.1 s) 0 1).toNat : Nat) : Int)), some (vi (mBy (gR (D.2.1 s) 0))), some (vi 1), none]) (st' := [vr (A 13)]) rfl ?_
              refine M.get fl_X1_24 rfl hE317.2.2.1 (kf := 2) (v := vr (A 14)) rfl ?_
              refine M.run 1 (pc' := 226) (lv' := [some (vr (A 13)), some (vi ((s : Nat) : Int)), some (vr (A (3 + 2 * s))), some (vi (gR (D.2.1 s) 0 0)), some (vi (((gR (D.2.1 s) 0 1).toNat : Nat) : Int)), some (vi (mBy (gR (D.2.1 s) 0))), some (vi 1), none]) (st' := [vr (A 13), vr (A 14)]) rfl ?_
              refine M.get fl_X1_9 rfl hE317.2.2.1 (kf := 0) (v := vr (T 0)) rfl ?_
              refine M.callV (qO_rul l G hb A T tl fx X cl dr (mS2 X tl (1 - dr) s (gR (D.2.1 s) 0) (mS1 s D)) hT) cv_X1_168 cd_X9_rulingText rfl (st := [vr (A 14)]) rfl hE317.2.1.1 (by decide) (by decide) rfl (Nat.zero_le _) (Nat.zero_le _) hE317 (fun r433 w434 q435 => ?_)
              rw [q435.1, q435.2]
              refine M.run 5 (pc' := 239) (lv' := [some (vr (A 13)), some (vi ((s : Nat) : Int)), some (vr (A (3 + 2 * s))), some (vi (gR (D.2.1 s) 0 0)), some (vi (((gR (D.2.1 s) 0 1).toNat : Nat) : Int)), some (vi (mBy (gR (D.2.1 s) 0))), some (vi 1), none]) (st' := [vi 6, vi 0, vr (A (3 + 2 * s)), vi (((gR (D.2.1 s) 0 1).toNat : Nat) : Int), vi (gR (D.2.1 s) 0 0), .inr (.inr (if 0 ≤ tl 2 ∧ tl 2 < tl 1 then rfO (fx (tl 2).toNat) else none)), vr (A 14)]) rfl ?_
              refine M.callV (qL_get l G hb A T tl fx X cl dr (mS2 X tl (1 - dr) s (gR (D.2.1 s) 0) (mS1 s D)) s (by omega) 0 6 (by rw [mS2_2]; exact h0) (by decide)) cv_X1_88 cd_X4_get rfl (st := [vi (((gR (D.2.1 s) 0 1).toNat : Nat) : Int), vi (gR (D.2.1 s) 0 0), .inr (.inr (if 0 ≤ tl 2 ∧ tl 2 < tl 1 then rfO (fx (tl 2).toNat) else none)), vr (A 14)]) rfl (iS_l hE317.1 (s := s) (by omega)).1 (by decide) (by decide) rfl (Nat.zero_le _) (Nat.zero_le _) hE317 (fun r437 w438 q439 => ?_)
              rw [q439.1, q439.2]
              rw [show gR ((mS2 X tl (1 - dr) s (gR (D.2.1 s) 0) (mS1 s D)).2.1 s) 0 6 = gR (D.2.1 s) 0 6 from by rw [mS2_2]; rfl]
              obtain ⟨_, _, _, _, _, hLa441⟩ := hE317.2.2.2.1
              refine M.callV (qW_wai l G hb A T tl fx X cl dr (mS2 X tl (1 - dr) s (gR (D.2.1 s) 0) (mS1 s D)) hT (n + 31) hd322 (gR (D.2.1 s) 0 0) (((gR (D.2.1 s) 0 1).toNat : Nat) : Int) (gR (D.2.1 s) 0 6) (by omega) (by omega) (by omega) (tl 2) (by omega)) cv_X1_186 cd_X2_waiting rfl (st := []) rfl hLa441.1 (by decide) (by decide) rfl (Nat.zero_le _) (Nat.zero_le _) hE317 (fun r443 w444 q445 => ?_)
              obtain ⟨q445r, q445e, q445f⟩ := q445
              rw [q445r, show sayV (X (tl 2).toNat 1) (tl 2) (2 * tl 6 + 2) 1 60 (enA (stA tl (mS2 X tl (1 - dr) s (gR (D.2.1 s) 0) (mS1 s D))) (gR (D.2.1 s) 0 0) (((gR (D.2.1 s) 0 1).toNat : Nat) : Int) (gR (D.2.1 s) 0 6)) (ofA (stA tl (mS2 X tl (1 - dr) s (gR (D.2.1 s) 0) (mS1 s D)))) = mWaitA X (stA tl (mS2 X tl (1 - dr) s (gR (D.2.1 s) 0) (mS1 s D))) (gR (D.2.1 s) 0 0) (((gR (D.2.1 s) 0 1).toNat : Nat) : Int) (gR (D.2.1 s) 0 6) from rfl]
              have hE442 : isEn G hb A T tl fx X cl dr (mS2 X tl (1 - dr) s (gR (D.2.1 s) 0) (mS1 s D)) w444 := q445e
              have hF442 : FrE A w w444 := FrE.tr hF317 q445f
              refine M.run 2 (pc' := 248) (lv' := [some (vr (A 13)), some (vi ((s : Nat) : Int)), some (vr (A (3 + 2 * s))), some (vi (gR (D.2.1 s) 0 0)), some (vi (((gR (D.2.1 s) 0 1).toNat : Nat) : Int)), some (vi (mBy (gR (D.2.1 s) 0))), some (vi 1), some (vi (mWaitA X (stA tl (mS2 X tl (1 - dr) s (gR (D.2.1 s) 0) (mS1 s D))) (gR (D.2.1 s) 0 0) (((gR (D.2.1 s) 0 1).toNat : Nat) : Int) (gR (D.2.1 s) 0 6)))]) (st' := [vr (A 13)]) rfl ?_
              refine M.get fl_X1_15 rfl hE442.2.2.1 (kf := 1) (v := vr (A 0)) rfl ?_
              refine M.get fl_X1_145 rfl hE442.1.1 (kf := 9) (v := vr (A 9)) rfl ?_
              refine M.run 2 (pc' := 256) (lv' := [some (vr (A 13)), some (vi ((s : Nat) : Int)), some (vr (A (3 + 2 * s))), some (vi (gR (D.2.1 s) 0 0)), some (vi (((gR (D.2.1 s) 0 1).toNat : Nat) : Int)), some (vi (mBy (gR (D.2.1 s) 0))), some (vi 1), some (vi (mWaitA X (stA tl (mS2 X tl (1 - dr) s (gR (D.2.1 s) 0) (mS1 s D))) (gR (D.2.1 s) 0 0) (((gR (D.2.1 s) 0 1).toNat : Nat) : Int) (gR (D.2.1 s) 0 6)))]) (st' := [vr (A 13), vr (A (3 + 2 * s)), vr (A 9)]) rfl ?_
              refine M.get fl_X1_15 rfl hE442.2.2.1 (kf := 1) (v := vr (A 0)) rfl ?_
              refine M.get fl_X1_116 rfl hE442.1.1 (kf := 1) (v := vi ((mS2 X tl (1 - dr) s (gR (D.2.1 s) 0) (mS1 s D)).1 20)) rfl ?_
              refine M.run 3 (pc' := 266) (lv' := [some (vr (A 13)), some (vi ((s : Nat) : Int)), some (vr (A (3 + 2 * s))), some (vi (gR (D.2.1 s) 0 0)), some (vi (((gR (D.2.1 s) 0 1).toNat : Nat) : Int)), some (vi (mBy (gR (D.2.1 s) 0))), some (vi 1), some (vi (mWaitA X (stA tl (mS2 X tl (1 - dr) s (gR (D.2.1 s) 0) (mS1 s D))) (gR (D.2.1 s) 0 0) (((gR (D.2.1 s) 0 1).toNat : Nat) : Int) (gR (D.2.1 s) 0 6)))]) (st' := [vi ((s : Nat) : Int), vi (((mS2 X tl (1 - dr) s (gR (D.2.1 s) 0) (mS1 s D)).1 20) + (mWaitA X (stA tl (mS2 X tl (1 - dr) s (gR (D.2.1 s) 0) (mS1 s D))) (gR (D.2.1 s) 0 0) (((gR (D.2.1 s) 0 1).toNat : Nat) : Int) (gR (D.2.1 s) 0 6))), vr (A (3 + 2 * s)), vr (A 9)]) rfl ?_
              refine M.callV (qT_add l G hb A T tl fx X cl dr (mS2 X tl (1 - dr) s (gR (D.2.1 s) 0) (mS1 s D)) s (by omega) (by rw [mS2_2]; exact h0) (((mS2 X tl (1 - dr) s (gR (D.2.1 s) 0) (mS1 s D)).1 20) + (mWaitA X (stA tl (mS2 X tl (1 - dr) s (gR (D.2.1 s) 0) (mS1 s D))) (gR (D.2.1 s) 0 0) (((gR (D.2.1 s) 0 1).toNat : Nat) : Int) (gR (D.2.1 s) 0 6))) ((s : Nat) : Int)) cv_X1_182 cd_X4_addFirstOf rfl (st := []) rfl (iS_t hE442.1).1 (by decide) (by decide) rfl (Nat.zero_le _) (Nat.zero_le _) hE442 (fun r448 w449 q450 => ?_)
              obtain ⟨q450r, q450e, q450f⟩ := q450
              rw [q450r]
              have hE447 : isEn G hb A T tl fx X cl dr (mTimer X tl s (mS2 X tl (1 - dr) s (gR (D.2.1 s) 0) (mS1 s D))) w449 := by rw [← tmr_eq (X := X) (a0 := tl) (s := s) (D := (mS2 X tl (1 - dr) s (gR (D.2.1 s) 0) (mS1 s D))) (kd := (gR (D.2.1 s) 0) 0) (bl := (((gR (D.2.1 s) 0 1).toNat : Nat) : Int)) (tr := (gR (D.2.1 s) 0) 6) (by rw [mS2_2]; rfl) (by rw [mS2_2]; exact Int.toNat_of_nonneg hr1.1) (by rw [mS2_2]; rfl)]; exact q450e
              have hF447 : FrE A w w449 := FrE.tr hF442 q450f
              refine M.run 2 (pc' := 271) (lv' := [some (vr (A 13)), some (vi ((s : Nat) : Int)), some (vr (A (3 + 2 * s))), some (vi (gR (D.2.1 s) 0 0)), some (vi (((gR (D.2.1 s) 0 1).toNat : Nat) : Int)), some (vi (mBy (gR (D.2.1 s) 0))), some (vi 1), some (vi (mWaitA X (stA tl (mS2 X tl (1 - dr) s (gR (D.2.1 s) 0) (mS1 s D))) (gR (D.2.1 s) 0 0) (((gR (D.2.1 s) 0 1).toNat : Nat) : Int) (gR (D.2.1 s) 0 6)))]) (st' := [vi 0, vr (A (3 + 2 * s))]) rfl ?_
              refine M.callV (qL_rem l G hb A T tl fx X cl dr (mTimer X tl s (mS2 X tl (1 - dr) s (gR (D.2.1 s) 0) (mS1 s D))) s (by omega) 0 (by rw [mTimer_2, mS2_2]; exact h0)) cv_X1_106 cd_X4_remove rfl (st := []) rfl (iS_l hE447.1 (s := s) (by omega)).1 (by decide) (by decide) rfl (Nat.zero_le _) (Nat.zero_le _) hE447 (fun r453 w454 q455 => ?_)
              obtain ⟨q455r, q455e, q455f⟩ := q455
              rw [q455r]
              have hE452 : isEn G hb A T tl fx X cl dr (mSend X tl (1 - dr) s D) w454 := by unfold mSend mS3; rw [if_pos hcd]; exact q455e
              have hF452 : FrE A w w454 := FrE.tr hF447 q455f
              exact M.vret rfl (Nat.zero_le _) (Nat.zero_le _) ⟨rfl, (by unfold mSnd; rw [if_pos h0]; exact hE452), hF452⟩
    · skip
      refine M.run 3 (pc' := 39) (lv' := [some (vr (A 13)), some (vi ((s : Nat) : Int)), some (vr (A (3 + 2 * s))), some (vi (gR (D.2.1 s) 0 0)), some (vi (gR (D.2.1 s) 0 1)), none, none, none]) (st' := [vi 4, vi 0, vr (A (3 + 2 * s))]) rfl ?_
      refine M.callV (qL_get l G hb A T tl fx X cl dr D s (by omega) 0 4 (by omega) (by decide)) cv_X1_88 cd_X4_get rfl (st := []) rfl (iS_l hP.1 (s := s) (by omega)).1 (by decide) (by decide) rfl (Nat.zero_le _) (Nat.zero_le _) hP (fun r457 w458 q459 => ?_)
      rw [q459.1, q459.2]
      refine M.run 3 (pc' := 45) (lv' := [some (vr (A 13)), some (vi ((s : Nat) : Int)), some (vr (A (3 + 2 * s))), some (vi (gR (D.2.1 s) 0 0)), some (vi (gR (D.2.1 s) 0 1)), none, none, none]) (st' := [vi 3, vi 0, vr (A (3 + 2 * s)), vi (gR (D.2.1 s) 0 4)]) rfl ?_
      refine M.callV (qL_get l G hb A T tl fx X cl dr D s (by omega) 0 3 (by omega) (by decide)) cv_X1_88 cd_X4_get rfl (st := [vi (gR (D.2.1 s) 0 4)]) rfl (iS_l hP.1 (s := s) (by omega)).1 (by decide) (by decide) rfl (Nat.zero_le _) (Nat.zero_le _) hP (fun r461 w462 q463 => ?_)
      rw [q463.1, q463.2]
      refine M.run 2 (pc' := 53) (lv' := [some (vr (A 13)), some (vi ((s : Nat) : Int)), some (vr (A (3 + 2 * s))), some (vi (gR (D.2.1 s) 0 0)), some (vi (gR (D.2.1 s) 0 1)), none, none, none]) (st' := [vi ((gR (D.2.1 s) 0 4) - (gR (D.2.1 s) 0 3))]) rfl ?_
      rw [show (gR (D.2.1 s) 0 4) - (gR (D.2.1 s) 0 3) = mBy (gR (D.2.1 s) 0) from mBy_0 h33]
      refine M.run 1 (pc' := 55) (lv' := [some (vr (A 13)), some (vi ((s : Nat) : Int)), some (vr (A (3 + 2 * s))), some (vi (gR (D.2.1 s) 0 0)), some (vi (gR (D.2.1 s) 0 1)), some (vi (mBy (gR (D.2.1 s) 0))), none, none]) (st' := []) rfl ?_
      rw [show gR (D.2.1 s) 0 1 = (((gR (D.2.1 s) 0 1).toNat : Nat) : Int) from (Int.toNat_of_nonneg hr1.1).symm]
      refine M.run 1 (pc' := 56) (lv' := [some (vr (A 13)), some (vi ((s : Nat) : Int)), some (vr (A (3 + 2 * s))), some (vi (gR (D.2.1 s) 0 0)), some (vi (((gR (D.2.1 s) 0 1).toNat : Nat) : Int)), some (vi (mBy (gR (D.2.1 s) 0))), none, none]) (st' := [vr (A 13)]) rfl ?_
      refine M.get fl_X1_15 rfl hP.2.2.1 (kf := 1) (v := vr (A 0)) rfl ?_
      refine M.run 1 (pc' := 60) (lv' := [some (vr (A 13)), some (vi ((s : Nat) : Int)), some (vr (A (3 + 2 * s))), some (vi (gR (D.2.1 s) 0 0)), some (vi (((gR (D.2.1 s) 0 1).toNat : Nat) : Int)), some (vi (mBy (gR (D.2.1 s) 0))), none, none]) (st' := [vr (A 0), vr (A 0)]) rfl ?_
      refine M.get fl_X1_161 rfl hP.1.1 (kf := 3) (v := vi (D.1 21)) rfl ?_
      refine M.run 2 (pc' := 65) (lv' := [some (vr (A 13)), some (vi ((s : Nat) : Int)), some (vr (A (3 + 2 * s))), some (vi (gR (D.2.1 s) 0 0)), some (vi (((gR (D.2.1 s) 0 1).toNat : Nat) : Int)), some (vi (mBy (gR (D.2.1 s) 0))), none, none]) (st' := [vi ((D.1 21) + 1), vr (A 0)]) rfl ?_
      refine M.put fl_X1_161 rfl (hP.1.1) rfl rfl (Nat.le_of_ble_eq_true rfl) ?_
      obtain ⟨hE465, hFf465⟩ := isEn_n (k := 21) (kf := 3) (v := (D.1 21) + 1) hP (by decide)
      have hF465 : FrE A w (up w (A 0) (Ob 5 ([vi (D.1 18), vi (D.1 20), vi (D.1 19), vi (D.1 21), vi (D.1 22), vr (A 1), vr (A 3), vr (A 5), vr (A 7), vr (A 9), vr (A 11)].set 3 (vi ((D.1 21) + 1))))) := FrE.tr (FrE.rf (A := A) (w := w)) hFf465
      generalize up w (A 0) (Ob 5 ([vi (D.1 18), vi (D.1 20), vi (D.1 19), vi (D.1 21), vi (D.1 22), vr (A 1), vr (A 3), vr (A 5), vr (A 7), vr (A 9), vr (A 11)].set 3 (vi ((D.1 21) + 1)))) = w465 at hE465 hF465 ⊢
      refine M.run 1 (pc' := 69) (lv' := [some (vr (A 13)), some (vi ((s : Nat) : Int)), some (vr (A (3 + 2 * s))), some (vi (gR (D.2.1 s) 0 0)), some (vi (((gR (D.2.1 s) 0 1).toNat : Nat) : Int)), some (vi (mBy (gR (D.2.1 s) 0))), none, none]) (st' := [vr (A 13)]) rfl ?_
      refine M.get fl_X1_15 rfl hE465.2.2.1 (kf := 1) (v := vr (A 0)) rfl ?_
      refine M.get fl_X1_50 rfl hE465.1.1 (kf := 5) (v := vr (A 1)) rfl ?_
      refine M.run 3 (pc' := 81) (lv' := [some (vr (A 13)), some (vi ((s : Nat) : Int)), some (vr (A (3 + 2 * s))), some (vi (gR (D.2.1 s) 0 0)), some (vi (((gR (D.2.1 s) 0 1).toNat : Nat) : Int)), some (vi (mBy (gR (D.2.1 s) 0))), none, none]) (st' := [vi (mBy (gR (D.2.1 s) 0)), vi 6, vi (((gR (D.2.1 s) 0 1).toNat : Nat) : Int), vr (A 1)]) rfl ?_
      refine M.callV (qB_raise l G hb A T tl fx X cl dr (mS 21 ((D.1 21) + 1) D) ((gR (D.2.1 s) 0 1).toNat) 6 (by omega) (by omega) (mBy (gR (D.2.1 s) 0))) cv_X1_135 cd_X4_raise rfl (st := []) rfl (iS_b hE465.1).1 (by decide) (by decide) rfl (Nat.zero_le _) (Nat.zero_le _) hE465 (fun r467 w468 q469 => ?_)
      obtain ⟨q469r, q469e, q469f⟩ := q469
      rw [q469r]
      have hE466 : isEn G hb A T tl fx X cl dr (mS1 s D) w468 := by unfold mS1; rw [show D.1 (46 + (gR (D.2.1 s) 0 1).toNat) = (mS 21 (D.1 21 + 1) D).1 (46 + (gR (D.2.1 s) 0 1).toNat) from (mS_o (by omega)).symm]; exact q469e
      have hF466 : FrE A w w468 := FrE.tr hF465 q469f
      refine M.run 1 (pc' := 85) (lv' := [some (vr (A 13)), some (vi ((s : Nat) : Int)), some (vr (A (3 + 2 * s))), some (vi (gR (D.2.1 s) 0 0)), some (vi (((gR (D.2.1 s) 0 1).toNat : Nat) : Int)), some (vi (mBy (gR (D.2.1 s) 0))), none, none]) (st' := [vr (A 13)]) rfl ?_
      refine M.get fl_X1_28 rfl hE466.2.2.1 (kf := 3) (v := vi dr) rfl ?_
      refine M.if_eq (tgt := 157) rfl (qI (by omega)) (by decide) (fun h88 => ?_) (fun h88 => ?_)
      · skip
        refine M.run 1 (pc' := 158) (lv' := [some (vr (A 13)), some (vi ((s : Nat) : Int)), some (vr (A (3 + 2 * s))), some (vi (gR (D.2.1 s) 0 0)), some (vi (((gR (D.2.1 s) 0 1).toNat : Nat) : Int)), some (vi (mBy (gR (D.2.1 s) 0))), none, none]) (st' := [vr (A 13)]) rfl ?_
        refine M.get fl_X1_15 rfl hE466.2.2.1 (kf := 1) (v := vr (A 0)) rfl ?_
        refine M.get fl_X1_100 rfl hE466.1.1 (kf := 8) (v := vr (A 7)) rfl ?_
        refine M.run 2 (pc' := 166) (lv' := [some (vr (A 13)), some (vi ((s : Nat) : Int)), some (vr (A (3 + 2 * s))), some (vi (gR (D.2.1 s) 0 0)), some (vi (((gR (D.2.1 s) 0 1).toNat : Nat) : Int)), some (vi (mBy (gR (D.2.1 s) 0))), none, none]) (st' := [vr (A 13), vr (A (3 + 2 * s)), vr (A 7)]) rfl ?_
        refine M.get fl_X1_15 rfl hE466.2.2.1 (kf := 1) (v := vr (A 0)) rfl ?_
        refine M.get fl_X1_61 rfl hE466.1.1 (kf := 0) (v := vi ((mS1 s D).1 18)) rfl ?_
        refine M.run 1 (pc' := 173) (lv' := [some (vr (A 13)), some (vi ((s : Nat) : Int)), some (vr (A (3 + 2 * s))), some (vi (gR (D.2.1 s) 0 0)), some (vi (((gR (D.2.1 s) 0 1).toNat : Nat) : Int)), some (vi (mBy (gR (D.2.1 s) 0))), none, none]) (st' := [vr (A 13), vi ((mS1 s D).1 18), vr (A (3 + 2 * s)), vr (A 7)]) rfl ?_
        refine M.get fl_X1_9 rfl hE466.2.2.1 (kf := 0) (v := vr (T 0)) rfl ?_
        refine M.get fl_X1_179 rfl hE466.2.1.1 (kf := 6) (v := vi (tl 6)) rfl ?_
        refine M.run 4 (pc' := 183) (lv' := [some (vr (A 13)), some (vi ((s : Nat) : Int)), some (vr (A (3 + 2 * s))), some (vi (gR (D.2.1 s) 0 0)), some (vi (((gR (D.2.1 s) 0 1).toNat : Nat) : Int)), some (vi (mBy (gR (D.2.1 s) 0))), none, none]) (st' := [vi (1 - ((s : Nat) : Int)), vi (((mS1 s D).1 18) + (tl 6)), vr (A (3 + 2 * s)), vr (A 7)]) rfl ?_
        refine M.callV (qF_add l G hb A T tl fx X cl dr (mS1 s D) s (by omega) h0 (((mS1 s D).1 18) + (tl 6)) (1 - ((s : Nat) : Int))) cv_X1_182 cd_X4_addFirstOf rfl (st := []) rfl (iS_f hE466.1).1 (by decide) (by decide) rfl (Nat.zero_le _) (Nat.zero_le _) hE466 (fun r472 w473 q474 => ?_)
        obtain ⟨q474r, q474e, q474f⟩ := q474
        rw [q474r]
        have hE471 : isEn G hb A T tl fx X cl dr (mS2 X tl (1 - dr) s (gR (D.2.1 s) 0) (mS1 s D)) w473 := by unfold mS2; rw [if_neg (by omega), ← fly_eq (a0 := tl) (v := (mS1 s D).1 18 + tl 6) (z := 1 - (s : Int)) (show (mS1 s D).2.2.1.length < 40 from hf) rfl rfl]; exact q474e
        have hF471 : FrE A w w473 := FrE.tr hF466 q474f
        have hd476 : Dok (n + 31) (mS2 X tl (1 - dr) s (gR (D.2.1 s) 0) (mS1 s D)) := hd2
        refine M.run 1 (pc' := 187) (lv' := [some (vr (A 13)), some (vi ((s : Nat) : Int)), some (vr (A (3 + 2 * s))), some (vi (gR (D.2.1 s) 0 0)), some (vi (((gR (D.2.1 s) 0 1).toNat : Nat) : Int)), some (vi (mBy (gR (D.2.1 s) 0))), none, none]) (st' := [vi (gR (D.2.1 s) 0 0)]) rfl ?_
        refine M.if_ne (tgt := 203) rfl (qI (by omega)) (by decide) (fun h187 => ?_) (fun h187 => ?_)
        · skip
          refine M.run 3 (pc' := 208) (lv' := [some (vr (A 13)), some (vi ((s : Nat) : Int)), some (vr (A (3 + 2 * s))), some (vi (gR (D.2.1 s) 0 0)), some (vi (((gR (D.2.1 s) 0 1).toNat : Nat) : Int)), some (vi (mBy (gR (D.2.1 s) 0))), some (vi 0), none]) (st' := [vi 0]) rfl ?_
          refine M.if_ne (tgt := 221) rfl (qI (by decide)) (by decide) (fun q => absurd q (by decide)) (fun _ => ?_)
          refine M.run 2 (pc' := 213) (lv' := [some (vr (A 13)), some (vi ((s : Nat) : Int)), some (vr (A (3 + 2 * s))), some (vi (gR (D.2.1 s) 0 0)), some (vi (((gR (D.2.1 s) 0 1).toNat : Nat) : Int)), some (vi (mBy (gR (D.2.1 s) 0))), some (vi 0), none]) (st' := [vi 1, vi (gR (D.2.1 s) 0 0)]) rfl ?_
          refine M.icmp_eq (tgt := 221) rfl (qI (by omega)) (qI (by decide)) (by decide) (fun h213 => ?_) (fun h213 => ?_)
          · skip
            have hcd : ((gR (D.2.1 s) 0) 0 = 0 ∧ 0 < (gR (D.2.1 s) 0) 2) ∨ (gR (D.2.1 s) 0) 0 = 1 ∨ (gR (D.2.1 s) 0) 0 = 3 := Or.inr (Or.inl (by omega))
            refine M.run 1 (pc' := 222) (lv' := [some (vr (A 13)), some (vi ((s : Nat) : Int)), some (vr (A (3 + 2 * s))), some (vi (gR (D.2.1 s) 0 0)), some (vi (((gR (D.2.1 s) 0 1).toNat : Nat) : Int)), some (vi (mBy (gR (D.2.1 s) 0))), some (vi 0), none]) (st' := [vr (A 13)]) rfl ?_
            refine M.get fl_X1_24 rfl hE471.2.2.1 (kf := 2) (v := vr (A 14)) rfl ?_
            refine M.run 1 (pc' := 226) (lv' := [some (vr (A 13)), some (vi ((s : Nat) : Int)), some (vr (A (3 + 2 * s))), some (vi (gR (D.2.1 s) 0 0)), some (vi (((gR (D.2.1 s) 0 1).toNat : Nat) : Int)), some (vi (mBy (gR (D.2.1 s) 0))), some (vi 0), none]) (st' := [vr (A 13), vr (A 14)]) rfl ?_
            refine M.get fl_X1_9 rfl hE471.2.2.1 (kf := 0) (v := vr (T 0)) rfl ?_
            refine M.callV (qO_rul l G hb A T tl fx X cl dr (mS2 X tl (1 - dr) s (gR (D.2.1 s) 0) (mS1 s D)) hT) cv_X1_168 cd_X9_rulingText rfl (st := [vr (A 14)]) rfl hE471.2.1.1 (by decide) (by decide) rfl (Nat.zero_le _) (Nat.zero_le _) hE471 (fun r477 w478 q479 => ?_)
            rw [q479.1, q479.2]
            refine M.run 5 (pc' := 239) (lv' := [some (vr (A 13)), some (vi ((s : Nat) : Int)), some (vr (A (3 + 2 * s))), some (vi (gR (D.2.1 s) 0 0)), some (vi (((gR (D.2.1 s) 0 1).toNat : Nat) : Int)), some (vi (mBy (gR (D.2.1 s) 0))), some (vi 0), none]) (st' := [vi 6, vi 0, vr (A (3 + 2 * s)), vi (((gR (D.2.1 s) 0 1).toNat : Nat) : Int), vi (gR (D.2.1 s) 0 0), .inr (.inr (if 0 ≤ tl 2 ∧ tl 2 < tl 1 then rfO (fx (tl 2).toNat) else none)), vr (A 14)]) rfl ?_
            refine M.callV (qL_get l G hb A T tl fx X cl dr (mS2 X tl (1 - dr) s (gR (D.2.1 s) 0) (mS1 s D)) s (by omega) 0 6 (by rw [mS2_2]; exact h0) (by decide)) cv_X1_88 cd_X4_get rfl (st := [vi (((gR (D.2.1 s) 0 1).toNat : Nat) : Int), vi (gR (D.2.1 s) 0 0), .inr (.inr (if 0 ≤ tl 2 ∧ tl 2 < tl 1 then rfO (fx (tl 2).toNat) else none)), vr (A 14)]) rfl (iS_l hE471.1 (s := s) (by omega)).1 (by decide) (by decide) rfl (Nat.zero_le _) (Nat.zero_le _) hE471 (fun r481 w482 q483 => ?_)
            rw [q483.1, q483.2]
            rw [show gR ((mS2 X tl (1 - dr) s (gR (D.2.1 s) 0) (mS1 s D)).2.1 s) 0 6 = gR (D.2.1 s) 0 6 from by rw [mS2_2]; rfl]
            obtain ⟨_, _, _, _, _, hLa485⟩ := hE471.2.2.2.1
            refine M.callV (qW_wai l G hb A T tl fx X cl dr (mS2 X tl (1 - dr) s (gR (D.2.1 s) 0) (mS1 s D)) hT (n + 31) hd476 (gR (D.2.1 s) 0 0) (((gR (D.2.1 s) 0 1).toNat : Nat) : Int) (gR (D.2.1 s) 0 6) (by omega) (by omega) (by omega) (tl 2) (by omega)) cv_X1_186 cd_X2_waiting rfl (st := []) rfl hLa485.1 (by decide) (by decide) rfl (Nat.zero_le _) (Nat.zero_le _) hE471 (fun r487 w488 q489 => ?_)
            obtain ⟨q489r, q489e, q489f⟩ := q489
            rw [q489r, show sayV (X (tl 2).toNat 1) (tl 2) (2 * tl 6 + 2) 1 60 (enA (stA tl (mS2 X tl (1 - dr) s (gR (D.2.1 s) 0) (mS1 s D))) (gR (D.2.1 s) 0 0) (((gR (D.2.1 s) 0 1).toNat : Nat) : Int) (gR (D.2.1 s) 0 6)) (ofA (stA tl (mS2 X tl (1 - dr) s (gR (D.2.1 s) 0) (mS1 s D)))) = mWaitA X (stA tl (mS2 X tl (1 - dr) s (gR (D.2.1 s) 0) (mS1 s D))) (gR (D.2.1 s) 0 0) (((gR (D.2.1 s) 0 1).toNat : Nat) : Int) (gR (D.2.1 s) 0 6) from rfl]
            have hE486 : isEn G hb A T tl fx X cl dr (mS2 X tl (1 - dr) s (gR (D.2.1 s) 0) (mS1 s D)) w488 := q489e
            have hF486 : FrE A w w488 := FrE.tr hF471 q489f
            refine M.run 2 (pc' := 248) (lv' := [some (vr (A 13)), some (vi ((s : Nat) : Int)), some (vr (A (3 + 2 * s))), some (vi (gR (D.2.1 s) 0 0)), some (vi (((gR (D.2.1 s) 0 1).toNat : Nat) : Int)), some (vi (mBy (gR (D.2.1 s) 0))), some (vi 0), some (vi (mWaitA X (stA tl (mS2 X tl (1 - dr) s (gR (D.2.1 s) 0) (mS1 s D))) (gR (D.2.1 s) 0 0) (((gR (D.2.1 s) 0 1).toNat : Nat) : Int) (gR (D.2.1 s) 0 6)))]) (st' := [vr (A 13)]) rfl ?_
            refine M.get fl_X1_15 rfl hE486.2.2.1 (kf := 1) (v := vr (A 0)) rfl ?_
            refine M.get fl_X1_145 rfl hE486.1.1 (kf := 9) (v := vr (A 9)) rfl ?_
            refine M.run 2 (pc' := 256) (lv' := [some (vr (A 13)), some (vi ((s : Nat) : Int)), some (vr (A (3 + 2 * s))), some (vi (gR (D.2.1 s) 0 0)), some (vi (((gR (D.2.1 s) 0 1).toNat : Nat) : Int)), some (vi (mBy (gR (D.2.1 s) 0))), some (vi 0), some (vi (mWaitA X (stA tl (mS2 X tl (1 - dr) s (gR (D.2.1 s) 0) (mS1 s D))) (gR (D.2.1 s) 0 0) (((gR (D.2.1 s) 0 1).toNat : Nat) : Int) (gR (D.2.1 s) 0 6)))]) (st' := [vr (A 13), vr (A (3 + 2 * s)), vr (A 9)]) rfl ?_
            refine M.get fl_X1_15 rfl hE486.2.2.1 (kf := 1) (v := vr (A 0)) rfl ?_
            refine M.get fl_X1_116 rfl hE486.1.1 (kf := 1) (v := vi ((mS2 X tl (1 - dr) s (gR (D.2.1 s) 0) (mS1 s D)).1 20)) rfl ?_
            refine M.run 3 (pc' := 266) (lv' := [some (vr (A 13)), some (vi ((s : Nat) : Int)), some (vr (A (3 + 2 * s))), some (vi (gR (D.2.1 s) 0 0)), some (vi (((gR (D.2.1 s) 0 1).toNat : Nat) : Int)), some (vi (mBy (gR (D.2.1 s) 0))), some (vi 0), some (vi (mWaitA X (stA tl (mS2 X tl (1 - dr) s (gR (D.2.1 s) 0) (mS1 s D))) (gR (D.2.1 s) 0 0) (((gR (D.2.1 s) 0 1).toNat : Nat) : Int) (gR (D.2.1 s) 0 6)))]) (st' := [vi ((s : Nat) : Int), vi (((mS2 X tl (1 - dr) s (gR (D.2.1 s) 0) (mS1 s D)).1 20) + (mWaitA X (stA tl (mS2 X tl (1 - dr) s (gR (D.2.1 s) 0) (mS1 s D))) (gR (D.2.1 s) 0 0) (((gR (D.2.1 s) 0 1).toNat : Nat) : Int) (gR (D.2.1 s) 0 6))), vr (A (3 + 2 * s)), vr (A 9)]) rfl ?_
            refine M.callV (qT_add l G hb A T tl fx X cl dr (mS2 X tl (1 - dr) s (gR (D.2.1 s) 0) (mS1 s D)) s (by omega) (by rw [mS2_2]; exact h0) (((mS2 X tl (1 - dr) s (gR (D.2.1 s) 0) (mS1 s D)).1 20) + (mWaitA X (stA tl (mS2 X tl (1 - dr) s (gR (D.2.1 s) 0) (mS1 s D))) (gR (D.2.1 s) 0 0) (((gR (D.2.1 s) 0 1).toNat : Nat) : Int) (gR (D.2.1 s) 0 6))) ((s : Nat) : Int)) cv_X1_182 cd_X4_addFirstOf rfl (st := []) rfl (iS_t hE486.1).1 (by decide) (by decide) rfl (Nat.zero_le _) (Nat.zero_le _) hE486 (fun r492 w493 q494 => ?_)
            obtain ⟨q494r, q494e, q494f⟩ := q494
            rw [q494r]
            have hE491 : isEn G hb A T tl fx X cl dr (mTimer X tl s (mS2 X tl (1 - dr) s (gR (D.2.1 s) 0) (mS1 s D))) w493 := by rw [← tmr_eq (X := X) (a0 := tl) (s := s) (D := (mS2 X tl (1 - dr) s (gR (D.2.1 s) 0) (mS1 s D))) (kd := (gR (D.2.1 s) 0) 0) (bl := (((gR (D.2.1 s) 0 1).toNat : Nat) : Int)) (tr := (gR (D.2.1 s) 0) 6) (by rw [mS2_2]; rfl) (by rw [mS2_2]; exact Int.toNat_of_nonneg hr1.1) (by rw [mS2_2]; rfl)]; exact q494e
            have hF491 : FrE A w w493 := FrE.tr hF486 q494f
            refine M.run 2 (pc' := 271) (lv' := [some (vr (A 13)), some (vi ((s : Nat) : Int)), some (vr (A (3 + 2 * s))), some (vi (gR (D.2.1 s) 0 0)), some (vi (((gR (D.2.1 s) 0 1).toNat : Nat) : Int)), some (vi (mBy (gR (D.2.1 s) 0))), some (vi 0), some (vi (mWaitA X (stA tl (mS2 X tl (1 - dr) s (gR (D.2.1 s) 0) (mS1 s D))) (gR (D.2.1 s) 0 0) (((gR (D.2.1 s) 0 1).toNat : Nat) : Int) (gR (D.2.1 s) 0 6)))]) (st' := [vi 0, vr (A (3 + 2 * s))]) rfl ?_
            refine M.callV (qL_rem l G hb A T tl fx X cl dr (mTimer X tl s (mS2 X tl (1 - dr) s (gR (D.2.1 s) 0) (mS1 s D))) s (by omega) 0 (by rw [mTimer_2, mS2_2]; exact h0)) cv_X1_106 cd_X4_remove rfl (st := []) rfl (iS_l hE491.1 (s := s) (by omega)).1 (by decide) (by decide) rfl (Nat.zero_le _) (Nat.zero_le _) hE491 (fun r497 w498 q499 => ?_)
            obtain ⟨q499r, q499e, q499f⟩ := q499
            rw [q499r]
            have hE496 : isEn G hb A T tl fx X cl dr (mSend X tl (1 - dr) s D) w498 := by unfold mSend mS3; rw [if_pos hcd]; exact q499e
            have hF496 : FrE A w w498 := FrE.tr hF491 q499f
            exact M.vret rfl (Nat.zero_le _) (Nat.zero_le _) ⟨rfl, (by unfold mSnd; rw [if_pos h0]; exact hE496), hF496⟩
          · skip
            refine M.run 2 (pc' := 218) (lv' := [some (vr (A 13)), some (vi ((s : Nat) : Int)), some (vr (A (3 + 2 * s))), some (vi (gR (D.2.1 s) 0 0)), some (vi (((gR (D.2.1 s) 0 1).toNat : Nat) : Int)), some (vi (mBy (gR (D.2.1 s) 0))), some (vi 0), none]) (st' := [vi 3, vi (gR (D.2.1 s) 0 0)]) rfl ?_
            refine M.icmp_ne (tgt := 269) rfl (qI (by omega)) (qI (by decide)) (by decide) (fun h218 => ?_) (fun h218 => ?_)
            · skip
              have hcd : ¬ (((gR (D.2.1 s) 0) 0 = 0 ∧ 0 < (gR (D.2.1 s) 0) 2) ∨ (gR (D.2.1 s) 0) 0 = 1 ∨ (gR (D.2.1 s) 0) 0 = 3) := by omega
              refine M.run 2 (pc' := 271) (lv' := [some (vr (A 13)), some (vi ((s : Nat) : Int)), some (vr (A (3 + 2 * s))), some (vi (gR (D.2.1 s) 0 0)), some (vi (((gR (D.2.1 s) 0 1).toNat : Nat) : Int)), some (vi (mBy (gR (D.2.1 s) 0))), some (vi 0), none]) (st' := [vi 0, vr (A (3 + 2 * s))]) rfl ?_
              refine M.callV (qL_rem l G hb A T tl fx X cl dr (mS2 X tl (1 - dr) s (gR (D.2.1 s) 0) (mS1 s D)) s (by omega) 0 (by rw [mS2_2]; exact h0)) cv_X1_106 cd_X4_remove rfl (st := []) rfl (iS_l hE471.1 (s := s) (by omega)).1 (by decide) (by decide) rfl (Nat.zero_le _) (Nat.zero_le _) hE471 (fun r502 w503 q504 => ?_)
              obtain ⟨q504r, q504e, q504f⟩ := q504
              rw [q504r]
              have hE501 : isEn G hb A T tl fx X cl dr (mSend X tl (1 - dr) s D) w503 := by unfold mSend mS3; rw [if_neg hcd]; exact q504e
              have hF501 : FrE A w w503 := FrE.tr hF471 q504f
              exact M.vret rfl (Nat.zero_le _) (Nat.zero_le _) ⟨rfl, (by unfold mSnd; rw [if_pos h0]; exact hE501), hF501⟩
            · skip
              have hcd : ((gR (D.2.1 s) 0) 0 = 0 ∧ 0 < (gR (D.2.1 s) 0) 2) ∨ (gR (D.2.1 s) 0) 0 = 1 ∨ (gR (D.2.1 s) 0) 0 = 3 := Or.inr (Or.inr (by omega))
              refine M.run 1 (pc' := 222) (lv' := [some (vr (A 13)), some (vi ((s : Nat) : Int)), some (vr (A (3 + 2 * s))), some (vi (gR (D.2.1 s) 0 0)), some (vi (((gR (D.2.1 s) 0 1).toNat : Nat) : Int)), some (vi (mBy (gR (D.2.1 s) 0))), some (vi 0), none]) (st' := [vr (A 13)]) rfl ?_
              refine M.get fl_X1_24 rfl hE471.2.2.1 (kf := 2) (v := vr (A 14)) rfl ?_
              refine M.run 1 (pc' := 226) (lv' := [some (vr (A 13)), some (vi ((s : Nat) : Int)), some (vr (A (3 + 2 * s))), some (vi (gR (D.2.1 s) 0 0)), some (vi (((gR (D.2.1 s) 0 1).toNat : Nat) : Int)), some (vi (mBy (gR (D.2.1 s) 0))), some (vi 0), none]) (st' := [vr (A 13), vr (A 14)]) rfl ?_
              refine M.get fl_X1_9 rfl hE471.2.2.1 (kf := 0) (v := vr (T 0)) rfl ?_
              refine M.callV (qO_rul l G hb A T tl fx X cl dr (mS2 X tl (1 - dr) s (gR (D.2.1 s) 0) (mS1 s D)) hT) cv_X1_168 cd_X9_rulingText rfl (st := [vr (A 14)]) rfl hE471.2.1.1 (by decide) (by decide) rfl (Nat.zero_le _) (Nat.zero_le _) hE471 (fun r506 w507 q508 => ?_)
              rw [q508.1, q508.2]
              refine M.run 5 (pc' := 239) (lv' := [some (vr (A 13)), some (vi ((s : Nat) : Int)), some (vr (A (3 + 2 * s))), some (vi (gR (D.2.1 s) 0 0)), some (vi (((gR (D.2.1 s) 0 1).toNat : Nat) : Int)), some (vi (mBy (gR (D.2.1 s) 0))), some (vi 0), none]) (st' := [vi 6, vi 0, vr (A (3 + 2 * s)), vi (((gR (D.2.1 s) 0 1).toNat : Nat) : Int), vi (gR (D.2.1 s) 0 0), .inr (.inr (if 0 ≤ tl 2 ∧ tl 2 < tl 1 then rfO (fx (tl 2).toNat) else none)), vr (A 14)]) rfl ?_
              refine M.callV (qL_get l G hb A T tl fx X cl dr (mS2 X tl (1 - dr) s (gR (D.2.1 s) 0) (mS1 s D)) s (by omega) 0 6 (by rw [mS2_2]; exact h0) (by decide)) cv_X1_88 cd_X4_get rfl (st := [vi (((gR (D.2.1 s) 0 1).toNat : Nat) : Int), vi (gR (D.2.1 s) 0 0), .inr (.inr (if 0 ≤ tl 2 ∧ tl 2 < tl 1 then rfO (fx (tl 2).toNat) else none)), vr (A 14)]) rfl (iS_l hE471.1 (s := s) (by omega)).1 (by decide) (by decide) rfl (Nat.zero_le _) (Nat.zero_le _) hE471 (fun r510 w511 q512 => ?_)
              rw [q512.1, q512.2]
              rw [show gR ((mS2 X tl (1 - dr) s (gR (D.2.1 s) 0) (mS1 s D)).2.1 s) 0 6 = gR (D.2.1 s) 0 6 from by rw [mS2_2]; rfl]
              obtain ⟨_, _, _, _, _, hLa514⟩ := hE471.2.2.2.1
              refine M.callV (qW_wai l G hb A T tl fx X cl dr (mS2 X tl (1 - dr) s (gR (D.2.1 s) 0) (mS1 s D)) hT (n + 31) hd476 (gR (D.2.1 s) 0 0) (((gR (D.2.1 s) 0 1).toNat : Nat) : Int) (gR (D.2.1 s) 0 6) (by omega) (by omega) (by omega) (tl 2) (by omega)) cv_X1_186 cd_X2_waiting rfl (st := []) rfl hLa514.1 (by decide) (by decide) rfl (Nat.zero_le _) (Nat.zero_le _) hE471 (fun r516 w517 q518 => ?_)
              obtain ⟨q518r, q518e, q518f⟩ := q518
              rw [q518r, show sayV (X (tl 2).toNat 1) (tl 2) (2 * tl 6 + 2) 1 60 (enA (stA tl (mS2 X tl (1 - dr) s (gR (D.2.1 s) 0) (mS1 s D))) (gR (D.2.1 s) 0 0) (((gR (D.2.1 s) 0 1).toNat : Nat) : Int) (gR (D.2.1 s) 0 6)) (ofA (stA tl (mS2 X tl (1 - dr) s (gR (D.2.1 s) 0) (mS1 s D)))) = mWaitA X (stA tl (mS2 X tl (1 - dr) s (gR (D.2.1 s) 0) (mS1 s D))) (gR (D.2.1 s) 0 0) (((gR (D.2.1 s) 0 1).toNat : Nat) : Int) (gR (D.2.1 s) 0 6) from rfl]
              have hE515 : isEn G hb A T tl fx X cl dr (mS2 X tl (1 - dr) s (gR (D.2.1 s) 0) (mS1 s D)) w517 := q518e
              have hF515 : FrE A w w517 := FrE.tr hF471 q518f
              refine M.run 2 (pc' := 248) (lv' := [some (vr (A 13)), some (vi ((s : Nat) : Int)), some (vr (A (3 + 2 * s))), some (vi (gR (D.2.1 s) 0 0)), some (vi (((gR (D.2.1 s) 0 1).toNat : Nat) : Int)), some (vi (mBy (gR (D.2.1 s) 0))), some (vi 0), some (vi (mWaitA X (stA tl (mS2 X tl (1 - dr) s (gR (D.2.1 s) 0) (mS1 s D))) (gR (D.2.1 s) 0 0) (((gR (D.2.1 s) 0 1).toNat : Nat) : Int) (gR (D.2.1 s) 0 6)))]) (st' := [vr (A 13)]) rfl ?_
              refine M.get fl_X1_15 rfl hE515.2.2.1 (kf := 1) (v := vr (A 0)) rfl ?_
              refine M.get fl_X1_145 rfl hE515.1.1 (kf := 9) (v := vr (A 9)) rfl ?_
              refine M.run 2 (pc' := 256) (lv' := [some (vr (A 13)), some (vi ((s : Nat) : Int)), some (vr (A (3 + 2 * s))), some (vi (gR (D.2.1 s) 0 0)), some (vi (((gR (D.2.1 s) 0 1).toNat : Nat) : Int)), some (vi (mBy (gR (D.2.1 s) 0))), some (vi 0), some (vi (mWaitA X (stA tl (mS2 X tl (1 - dr) s (gR (D.2.1 s) 0) (mS1 s D))) (gR (D.2.1 s) 0 0) (((gR (D.2.1 s) 0 1).toNat : Nat) : Int) (gR (D.2.1 s) 0 6)))]) (st' := [vr (A 13), vr (A (3 + 2 * s)), vr (A 9)]) rfl ?_
              refine M.get fl_X1_15 rfl hE515.2.2.1 (kf := 1) (v := vr (A 0)) rfl ?_
              refine M.get fl_X1_116 rfl hE515.1.1 (kf := 1) (v := vi ((mS2 X tl (1 - dr) s (gR (D.2.1 s) 0) (mS1 s D)).1 20)) rfl ?_
              refine M.run 3 (pc' := 266) (lv' := [some (vr (A 13)), some (vi ((s : Nat) : Int)), some (vr (A (3 + 2 * s))), some (vi (gR (D.2.1 s) 0 0)), some (vi (((gR (D.2.1 s) 0 1).toNat : Nat) : Int)), some (vi (mBy (gR (D.2.1 s) 0))), some (vi 0), some (vi (mWaitA X (stA tl (mS2 X tl (1 - dr) s (gR (D.2.1 s) 0) (mS1 s D))) (gR (D.2.1 s) 0 0) (((gR (D.2.1 s) 0 1).toNat : Nat) : Int) (gR (D.2.1 s) 0 6)))]) (st' := [vi ((s : Nat) : Int), vi (((mS2 X tl (1 - dr) s (gR (D.2.1 s) 0) (mS1 s D)).1 20) + (mWaitA X (stA tl (mS2 X tl (1 - dr) s (gR (D.2.1 s) 0) (mS1 s D))) (gR (D.2.1 s) 0 0) (((gR (D.2.1 s) 0 1).toNat : Nat) : Int) (gR (D.2.1 s) 0 6))), vr (A (3 + 2 * s)), vr (A 9)]) rfl ?_
              refine M.callV (qT_add l G hb A T tl fx X cl dr (mS2 X tl (1 - dr) s (gR (D.2.1 s) 0) (mS1 s D)) s (by omega) (by rw [mS2_2]; exact h0) (((mS2 X tl (1 - dr) s (gR (D.2.1 s) 0) (mS1 s D)).1 20) + (mWaitA X (stA tl (mS2 X tl (1 - dr) s (gR (D.2.1 s) 0) (mS1 s D))) (gR (D.2.1 s) 0 0) (((gR (D.2.1 s) 0 1).toNat : Nat) : Int) (gR (D.2.1 s) 0 6))) ((s : Nat) : Int)) cv_X1_182 cd_X4_addFirstOf rfl (st := []) rfl (iS_t hE515.1).1 (by decide) (by decide) rfl (Nat.zero_le _) (Nat.zero_le _) hE515 (fun r521 w522 q523 => ?_)
              obtain ⟨q523r, q523e, q523f⟩ := q523
              rw [q523r]
              have hE520 : isEn G hb A T tl fx X cl dr (mTimer X tl s (mS2 X tl (1 - dr) s (gR (D.2.1 s) 0) (mS1 s D))) w522 := by rw [← tmr_eq (X := X) (a0 := tl) (s := s) (D := (mS2 X tl (1 - dr) s (gR (D.2.1 s) 0) (mS1 s D))) (kd := (gR (D.2.1 s) 0) 0) (bl := (((gR (D.2.1 s) 0 1).toNat : Nat) : Int)) (tr := (gR (D.2.1 s) 0) 6) (by rw [mS2_2]; rfl) (by rw [mS2_2]; exact Int.toNat_of_nonneg hr1.1) (by rw [mS2_2]; rfl)]; exact q523e
              have hF520 : FrE A w w522 := FrE.tr hF515 q523f
              refine M.run 2 (pc' := 271) (lv' := [some (vr (A 13)), some (vi ((s : Nat) : Int)), some (vr (A (3 + 2 * s))), some (vi (gR (D.2.1 s) 0 0)), some (vi (((gR (D.2.1 s) 0 1).toNat : Nat) : Int)), some (vi (mBy (gR (D.2.1 s) 0))), some (vi 0), some (vi (mWaitA X (stA tl (mS2 X tl (1 - dr) s (gR (D.2.1 s) 0) (mS1 s D))) (gR (D.2.1 s) 0 0) (((gR (D.2.1 s) 0 1).toNat : Nat) : Int) (gR (D.2.1 s) 0 6)))]) (st' := [vi 0, vr (A (3 + 2 * s))]) rfl ?_
              refine M.callV (qL_rem l G hb A T tl fx X cl dr (mTimer X tl s (mS2 X tl (1 - dr) s (gR (D.2.1 s) 0) (mS1 s D))) s (by omega) 0 (by rw [mTimer_2, mS2_2]; exact h0)) cv_X1_106 cd_X4_remove rfl (st := []) rfl (iS_l hE520.1 (s := s) (by omega)).1 (by decide) (by decide) rfl (Nat.zero_le _) (Nat.zero_le _) hE520 (fun r526 w527 q528 => ?_)
              obtain ⟨q528r, q528e, q528f⟩ := q528
              rw [q528r]
              have hE525 : isEn G hb A T tl fx X cl dr (mSend X tl (1 - dr) s D) w527 := by unfold mSend mS3; rw [if_pos hcd]; exact q528e
              have hF525 : FrE A w w527 := FrE.tr hF520 q528f
              exact M.vret rfl (Nat.zero_le _) (Nat.zero_le _) ⟨rfl, (by unfold mSnd; rw [if_pos h0]; exact hE525), hF525⟩
        · skip
          refine M.run 3 (pc' := 193) (lv' := [some (vr (A 13)), some (vi ((s : Nat) : Int)), some (vr (A (3 + 2 * s))), some (vi (gR (D.2.1 s) 0 0)), some (vi (((gR (D.2.1 s) 0 1).toNat : Nat) : Int)), some (vi (mBy (gR (D.2.1 s) 0))), none, none]) (st' := [vi 2, vi 0, vr (A (3 + 2 * s))]) rfl ?_
          refine M.callV (qL_get l G hb A T tl fx X cl dr (mS2 X tl (1 - dr) s (gR (D.2.1 s) 0) (mS1 s D)) s (by omega) 0 2 (by rw [mS2_2]; exact h0) (by decide)) cv_X1_88 cd_X4_get rfl (st := []) rfl (iS_l hE471.1 (s := s) (by omega)).1 (by decide) (by decide) rfl (Nat.zero_le _) (Nat.zero_le _) hE471 (fun r530 w531 q532 => ?_)
          rw [q532.1, q532.2]
          rw [show gR ((mS2 X tl (1 - dr) s (gR (D.2.1 s) 0) (mS1 s D)).2.1 s) 0 2 = gR (D.2.1 s) 0 2 from by rw [mS2_2]; rfl]
          refine M.if_le (tgt := 203) rfl (qI (by omega)) (by decide) (fun h196 => ?_) (fun h196 => ?_)
          · skip
            refine M.run 3 (pc' := 208) (lv' := [some (vr (A 13)), some (vi ((s : Nat) : Int)), some (vr (A (3 + 2 * s))), some (vi (gR (D.2.1 s) 0 0)), some (vi (((gR (D.2.1 s) 0 1).toNat : Nat) : Int)), some (vi (mBy (gR (D.2.1 s) 0))), some (vi 0), none]) (st' := [vi 0]) rfl ?_
            refine M.if_ne (tgt := 221) rfl (qI (by decide)) (by decide) (fun q => absurd q (by decide)) (fun _ => ?_)
            refine M.run 2 (pc' := 213) (lv' := [some (vr (A 13)), some (vi ((s : Nat) : Int)), some (vr (A (3 + 2 * s))), some (vi (gR (D.2.1 s) 0 0)), some (vi (((gR (D.2.1 s) 0 1).toNat : Nat) : Int)), some (vi (mBy (gR (D.2.1 s) 0))), some (vi 0), none]) (st' := [vi 1, vi (gR (D.2.1 s) 0 0)]) rfl ?_
            refine M.icmp_eq (tgt := 221) rfl (qI (by omega)) (qI (by decide)) (by decide) (fun h213 => ?_) (fun h213 => ?_)
            · skip
              have hcd : ((gR (D.2.1 s) 0) 0 = 0 ∧ 0 < (gR (D.2.1 s) 0) 2) ∨ (gR (D.2.1 s) 0) 0 = 1 ∨ (gR (D.2.1 s) 0) 0 = 3 := Or.inr (Or.inl (by omega))
              refine M.run 1 (pc' := 222) (lv' := [some (vr (A 13)), some (vi ((s : Nat) : Int)), some (vr (A (3 + 2 * s))), some (vi (gR (D.2.1 s) 0 0)), some (vi (((gR (D.2.1 s) 0 1).toNat : Nat) : Int)), some (vi (mBy (gR (D.2.1 s) 0))), some (vi 0), none]) (st' := [vr (A 13)]) rfl ?_
              refine M.get fl_X1_24 rfl hE471.2.2.1 (kf := 2) (v := vr (A 14)) rfl ?_
              refine M.run 1 (pc' := 226) (lv' := [some (vr (A 13)), some (vi ((s : Nat) : Int)), some (vr (A (3 + 2 * s))), some (vi (gR (D.2.1 s) 0 0)), some (vi (((gR (D.2.1 s) 0 1).toNat : Nat) : Int)), some (vi (mBy (gR (D.2.1 s) 0))), some (vi 0), none]) (st' := [vr (A 13), vr (A 14)]) rfl ?_
              refine M.get fl_X1_9 rfl hE471.2.2.1 (kf := 0) (v := vr (T 0)) rfl ?_
              refine M.callV (qO_rul l G hb A T tl fx X cl dr (mS2 X tl (1 - dr) s (gR (D.2.1 s) 0) (mS1 s D)) hT) cv_X1_168 cd_X9_rulingText rfl (st := [vr (A 14)]) rfl hE471.2.1.1 (by decide) (by decide) rfl (Nat.zero_le _) (Nat.zero_le _) hE471 (fun r534 w535 q536 => ?_)
              rw [q536.1, q536.2]
              refine M.run 5 (pc' := 239) (lv' := [some (vr (A 13)), some (vi ((s : Nat) : Int)), some (vr (A (3 + 2 * s))), some (vi (gR (D.2.1 s) 0 0)), some (vi (((gR (D.2.1 s) 0 1).toNat : Nat) : Int)), some (vi (mBy (gR (D.2.1 s) 0))), some (vi 0), none]) (st' := [vi 6, vi 0, vr (A (3 + 2 * s)), vi (((gR (D.2.1 s) 0 1).toNat : Nat) : Int), vi (gR (D.2.1 s) 0 0), .inr (.inr (if 0 ≤ tl 2 ∧ tl 2 < tl 1 then rfO (fx (tl 2).toNat) else none)), vr (A 14)]) rfl ?_
              refine M.callV (qL_get l G hb A T tl fx X cl dr (mS2 X tl (1 - dr) s (gR (D.2.1 s) 0) (mS1 s D)) s (by omega) 0 6 (by rw [mS2_2]; exact h0) (by decide)) cv_X1_88 cd_X4_get rfl (st := [vi (((gR (D.2.1 s) 0 1).toNat : Nat) : Int), vi (gR (D.2.1 s) 0 0), .inr (.inr (if 0 ≤ tl 2 ∧ tl 2 < tl 1 then rfO (fx (tl 2).toNat) else none)), vr (A 14)]) rfl (iS_l hE471.1 (s := s) (by omega)).1 (by decide) (by decide) rfl (Nat.zero_le _) (Nat.zero_le _) hE471 (fun r538 w539 q540 => ?_)
              rw [q540.1, q540.2]
              rw [show gR ((mS2 X tl (1 - dr) s (gR (D.2.1 s) 0) (mS1 s D)).2.1 s) 0 6 = gR (D.2.1 s) 0 6 from by rw [mS2_2]; rfl]
              obtain ⟨_, _, _, _, _, hLa542⟩ := hE471.2.2.2.1
              refine M.callV (qW_wai l G hb A T tl fx X cl dr (mS2 X tl (1 - dr) s (gR (D.2.1 s) 0) (mS1 s D)) hT (n + 31) hd476 (gR (D.2.1 s) 0 0) (((gR (D.2.1 s) 0 1).toNat : Nat) : Int) (gR (D.2.1 s) 0 6) (by omega) (by omega) (by omega) (tl 2) (by omega)) cv_X1_186 cd_X2_waiting rfl (st := []) rfl hLa542.1 (by decide) (by decide) rfl (Nat.zero_le _) (Nat.zero_le _) hE471 (fun r544 w545 q546 => ?_)
              obtain ⟨q546r, q546e, q546f⟩ := q546
              rw [q546r, show sayV (X (tl 2).toNat 1) (tl 2) (2 * tl 6 + 2) 1 60 (enA (stA tl (mS2 X tl (1 - dr) s (gR (D.2.1 s) 0) (mS1 s D))) (gR (D.2.1 s) 0 0) (((gR (D.2.1 s) 0 1).toNat : Nat) : Int) (gR (D.2.1 s) 0 6)) (ofA (stA tl (mS2 X tl (1 - dr) s (gR (D.2.1 s) 0) (mS1 s D)))) = mWaitA X (stA tl (mS2 X tl (1 - dr) s (gR (D.2.1 s) 0) (mS1 s D))) (gR (D.2.1 s) 0 0) (((gR (D.2.1 s) 0 1).toNat : Nat) : Int) (gR (D.2.1 s) 0 6) from rfl]
              have hE543 : isEn G hb A T tl fx X cl dr (mS2 X tl (1 - dr) s (gR (D.2.1 s) 0) (mS1 s D)) w545 := q546e
              have hF543 : FrE A w w545 := FrE.tr hF471 q546f
              refine M.run 2 (pc' := 248) (lv' := [some (vr (A 13)), some (vi ((s : Nat) : Int)), some (vr (A (3 + 2 * s))), some (vi (gR (D.2.1 s) 0 0)), some (vi (((gR (D.2.1 s) 0 1).toNat : Nat) : Int)), some (vi (mBy (gR (D.2.1 s) 0))), some (vi 0), some (vi (mWaitA X (stA tl (mS2 X tl (1 - dr) s (gR (D.2.1 s) 0) (mS1 s D))) (gR (D.2.1 s) 0 0) (((gR (D.2.1 s) 0 1).toNat : Nat) : Int) (gR (D.2.1 s) 0 6)))]) (st' := [vr (A 13)]) rfl ?_
              refine M.get fl_X1_15 rfl hE543.2.2.1 (kf := 1) (v := vr (A 0)) rfl ?_
              refine M.get fl_X1_145 rfl hE543.1.1 (kf := 9) (v := vr (A 9)) rfl ?_
              refine M.run 2 (pc' := 256) (lv' := [some (vr (A 13)), some (vi ((s : Nat) : Int)), some (vr (A (3 + 2 * s))), some (vi (gR (D.2.1 s) 0 0)), some (vi (((gR (D.2.1 s) 0 1).toNat : Nat) : Int)), some (vi (mBy (gR (D.2.1 s) 0))), some (vi 0), some (vi (mWaitA X (stA tl (mS2 X tl (1 - dr) s (gR (D.2.1 s) 0) (mS1 s D))) (gR (D.2.1 s) 0 0) (((gR (D.2.1 s) 0 1).toNat : Nat) : Int) (gR (D.2.1 s) 0 6)))]) (st' := [vr (A 13), vr (A (3 + 2 * s)), vr (A 9)]) rfl ?_
              refine M.get fl_X1_15 rfl hE543.2.2.1 (kf := 1) (v := vr (A 0)) rfl ?_
              refine M.get fl_X1_116 rfl hE543.1.1 (kf := 1) (v := vi ((mS2 X tl (1 - dr) s (gR (D.2.1 s) 0) (mS1 s D)).1 20)) rfl ?_
              refine M.run 3 (pc' := 266) (lv' := [some (vr (A 13)), some (vi ((s : Nat) : Int)), some (vr (A (3 + 2 * s))), some (vi (gR (D.2.1 s) 0 0)), some (vi (((gR (D.2.1 s) 0 1).toNat : Nat) : Int)), some (vi (mBy (gR (D.2.1 s) 0))), some (vi 0), some (vi (mWaitA X (stA tl (mS2 X tl (1 - dr) s (gR (D.2.1 s) 0) (mS1 s D))) (gR (D.2.1 s) 0 0) (((gR (D.2.1 s) 0 1).toNat : Nat) : Int) (gR (D.2.1 s) 0 6)))]) (st' := [vi ((s : Nat) : Int), vi (((mS2 X tl (1 - dr) s (gR (D.2.1 s) 0) (mS1 s D)).1 20) + (mWaitA X (stA tl (mS2 X tl (1 - dr) s (gR (D.2.1 s) 0) (mS1 s D))) (gR (D.2.1 s) 0 0) (((gR (D.2.1 s) 0 1).toNat : Nat) : Int) (gR (D.2.1 s) 0 6))), vr (A (3 + 2 * s)), vr (A 9)]) rfl ?_
              refine M.callV (qT_add l G hb A T tl fx X cl dr (mS2 X tl (1 - dr) s (gR (D.2.1 s) 0) (mS1 s D)) s (by omega) (by rw [mS2_2]; exact h0) (((mS2 X tl (1 - dr) s (gR (D.2.1 s) 0) (mS1 s D)).1 20) + (mWaitA X (stA tl (mS2 X tl (1 - dr) s (gR (D.2.1 s) 0) (mS1 s D))) (gR (D.2.1 s) 0 0) (((gR (D.2.1 s) 0 1).toNat : Nat) : Int) (gR (D.2.1 s) 0 6))) ((s : Nat) : Int)) cv_X1_182 cd_X4_addFirstOf rfl (st := []) rfl (iS_t hE543.1).1 (by decide) (by decide) rfl (Nat.zero_le _) (Nat.zero_le _) hE543 (fun r549 w550 q551 => ?_)
              obtain ⟨q551r, q551e, q551f⟩ := q551
              rw [q551r]
              have hE548 : isEn G hb A T tl fx X cl dr (mTimer X tl s (mS2 X tl (1 - dr) s (gR (D.2.1 s) 0) (mS1 s D))) w550 := by rw [← tmr_eq (X := X) (a0 := tl) (s := s) (D := (mS2 X tl (1 - dr) s (gR (D.2.1 s) 0) (mS1 s D))) (kd := (gR (D.2.1 s) 0) 0) (bl := (((gR (D.2.1 s) 0 1).toNat : Nat) : Int)) (tr := (gR (D.2.1 s) 0) 6) (by rw [mS2_2]; rfl) (by rw [mS2_2]; exact Int.toNat_of_nonneg hr1.1) (by rw [mS2_2]; rfl)]; exact q551e
              have hF548 : FrE A w w550 := FrE.tr hF543 q551f
              refine M.run 2 (pc' := 271) (lv' := [some (vr (A 13)), some (vi ((s : Nat) : Int)), some (vr (A (3 + 2 * s))), some (vi (gR (D.2.1 s) 0 0)), some (vi (((gR (D.2.1 s) 0 1).toNat : Nat) : Int)), some (vi (mBy (gR (D.2.1 s) 0))), some (vi 0), some (vi (mWaitA X (stA tl (mS2 X tl (1 - dr) s (gR (D.2.1 s) 0) (mS1 s D))) (gR (D.2.1 s) 0 0) (((gR (D.2.1 s) 0 1).toNat : Nat) : Int) (gR (D.2.1 s) 0 6)))]) (st' := [vi 0, vr (A (3 + 2 * s))]) rfl ?_
              refine M.callV (qL_rem l G hb A T tl fx X cl dr (mTimer X tl s (mS2 X tl (1 - dr) s (gR (D.2.1 s) 0) (mS1 s D))) s (by omega) 0 (by rw [mTimer_2, mS2_2]; exact h0)) cv_X1_106 cd_X4_remove rfl (st := []) rfl (iS_l hE548.1 (s := s) (by omega)).1 (by decide) (by decide) rfl (Nat.zero_le _) (Nat.zero_le _) hE548 (fun r554 w555 q556 => ?_)
              obtain ⟨q556r, q556e, q556f⟩ := q556
              rw [q556r]
              have hE553 : isEn G hb A T tl fx X cl dr (mSend X tl (1 - dr) s D) w555 := by unfold mSend mS3; rw [if_pos hcd]; exact q556e
              have hF553 : FrE A w w555 := FrE.tr hF548 q556f
              exact M.vret rfl (Nat.zero_le _) (Nat.zero_le _) ⟨rfl, (by unfold mSnd; rw [if_pos h0]; exact hE553), hF553⟩
            · skip
              refine M.run 2 (pc' := 218) (lv' := [some (vr (A 13)), some (vi ((s : Nat) : Int)), some (vr (A (3 + 2 * s))), some (vi (gR (D.2.1 s) 0 0)), some (vi (((gR (D.2.1 s) 0 1).toNat : Nat) : Int)), some (vi (mBy (gR (D.2.1 s) 0))), some (vi 0), none]) (st' := [vi 3, vi (gR (D.2.1 s) 0 0)]) rfl ?_
              refine M.icmp_ne (tgt := 269) rfl (qI (by omega)) (qI (by decide)) (by decide) (fun h218 => ?_) (fun h218 => ?_)
              · skip
                have hcd : ¬ (((gR (D.2.1 s) 0) 0 = 0 ∧ 0 < (gR (D.2.1 s) 0) 2) ∨ (gR (D.2.1 s) 0) 0 = 1 ∨ (gR (D.2.1 s) 0) 0 = 3) := by omega
                refine M.run 2 (pc' := 271) (lv' := [some (vr (A 13)), some (vi ((s : Nat) : Int)), some (vr (A (3 + 2 * s))), some (vi (gR (D.2.1 s) 0 0)), some (vi (((gR (D.2.1 s) 0 1).toNat : Nat) : Int)), some (vi (mBy (gR (D.2.1 s) 0))), some (vi 0), none]) (st' := [vi 0, vr (A (3 + 2 * s))]) rfl ?_
                refine M.callV (qL_rem l G hb A T tl fx X cl dr (mS2 X tl (1 - dr) s (gR (D.2.1 s) 0) (mS1 s D)) s (by omega) 0 (by rw [mS2_2]; exact h0)) cv_X1_106 cd_X4_remove rfl (st := []) rfl (iS_l hE471.1 (s := s) (by omega)).1 (by decide) (by decide) rfl (Nat.zero_le _) (Nat.zero_le _) hE471 (fun r559 w560 q561 => ?_)
                obtain ⟨q561r, q561e, q561f⟩ := q561
                rw [q561r]
                have hE558 : isEn G hb A T tl fx X cl dr (mSend X tl (1 - dr) s D) w560 := by unfold mSend mS3; rw [if_neg hcd]; exact q561e
                have hF558 : FrE A w w560 := FrE.tr hF471 q561f
                exact M.vret rfl (Nat.zero_le _) (Nat.zero_le _) ⟨rfl, (by unfold mSnd; rw [if_pos h0]; exact hE558), hF558⟩
              · skip
                have hcd : ((gR (D.2.1 s) 0) 0 = 0 ∧ 0 < (gR (D.2.1 s) 0) 2) ∨ (gR (D.2.1 s) 0) 0 = 1 ∨ (gR (D.2.1 s) 0) 0 = 3 := Or.inr (Or.inr (by omega))
                refine M.run 1 (pc' := 222) (lv' := [some (vr (A 13)), some (vi ((s : Nat) : Int)), some (vr (A (3 + 2 * s))), some (vi (gR (D.2.1 s) 0 0)), some (vi (((gR (D.2.1 s) 0 1).toNat : Nat) : Int)), some (vi (mBy (gR (D.2.1 s) 0))), some (vi 0), none]) (st' := [vr (A 13)]) rfl ?_
                refine M.get fl_X1_24 rfl hE471.2.2.1 (kf := 2) (v := vr (A 14)) rfl ?_
                refine M.run 1 (pc' := 226) (lv' := [some (vr (A 13)), some (vi ((s : Nat) : Int)), some (vr (A (3 + 2 * s))), some (vi (gR (D.2.1 s) 0 0)), some (vi (((gR (D.2.1 s) 0 1).toNat : Nat) : Int)), some (vi (mBy (gR (D.2.1 s) 0))), some (vi 0), none]) (st' := [vr (A 13), vr (A 14)]) rfl ?_
                refine M.get fl_X1_9 rfl hE471.2.2.1 (kf := 0) (v := vr (T 0)) rfl ?_
                refine M.callV (qO_rul l G hb A T tl fx X cl dr (mS2 X tl (1 - dr) s (gR (D.2.1 s) 0) (mS1 s D)) hT) cv_X1_168 cd_X9_rulingText rfl (st := [vr (A 14)]) rfl hE471.2.1.1 (by decide) (by decide) rfl (Nat.zero_le _) (Nat.zero_le _) hE471 (fun r563 w564 q565 => ?_)
                rw [q565.1, q565.2]
                refine M.run 5 (pc' := 239) (lv' := [some (vr (A 13)), some (vi ((s : Nat) : Int)), some (vr (A (3 + 2 * s))), some (vi (gR (D.2.1 s) 0 0)), some (vi (((gR (D.2.1 s) 0 1).toNat : Nat) : Int)), some (vi (mBy (gR (D.2.1 s) 0))), some (vi 0), none]) (st' := [vi 6, vi 0, vr (A (3 + 2 * s)), vi (((gR (D.2.1 s) 0 1).toNat : Nat) : Int), vi (gR (D.2.1 s) 0 0), .inr (.inr (if 0 ≤ tl 2 ∧ tl 2 < tl 1 then rfO (fx (tl 2).toNat) else none)), vr (A 14)]) rfl ?_
                refine M.callV (qL_get l G hb A T tl fx X cl dr (mS2 X tl (1 - dr) s (gR (D.2.1 s) 0) (mS1 s D)) s (by omega) 0 6 (by rw [mS2_2]; exact h0) (by decide)) cv_X1_88 cd_X4_get rfl (st := [vi (((gR (D.2.1 s) 0 1).toNat : Nat) : Int), vi (gR (D.2.1 s) 0 0), .inr (.inr (if 0 ≤ tl 2 ∧ tl 2 < tl 1 then rfO (fx (tl 2).toNat) else none)), vr (A 14)]) rfl (iS_l hE471.1 (s := s) (by omega)).1 (by decide) (by decide) rfl (Nat.zero_le _) (Nat.zero_le _) hE471 (fun r567 w568 q569 => ?_)
                rw [q569.1, q569.2]
                rw [show gR ((mS2 X tl (1 - dr) s (gR (D.2.1 s) 0) (mS1 s D)).2.1 s) 0 6 = gR (D.2.1 s) 0 6 from by rw [mS2_2]; rfl]
                obtain ⟨_, _, _, _, _, hLa571⟩ := hE471.2.2.2.1
                refine M.callV (qW_wai l G hb A T tl fx X cl dr (mS2 X tl (1 - dr) s (gR (D.2.1 s) 0) (mS1 s D)) hT (n + 31) hd476 (gR (D.2.1 s) 0 0) (((gR (D.2.1 s) 0 1).toNat : Nat) : Int) (gR (D.2.1 s) 0 6) (by omega) (by omega) (by omega) (tl 2) (by omega)) cv_X1_186 cd_X2_waiting rfl (st := []) rfl hLa571.1 (by decide) (by decide) rfl (Nat.zero_le _) (Nat.zero_le _) hE471 (fun r573 w574 q575 => ?_)
                obtain ⟨q575r, q575e, q575f⟩ := q575
                rw [q575r, show sayV (X (tl 2).toNat 1) (tl 2) (2 * tl 6 + 2) 1 60 (enA (stA tl (mS2 X tl (1 - dr) s (gR (D.2.1 s) 0) (mS1 s D))) (gR (D.2.1 s) 0 0) (((gR (D.2.1 s) 0 1).toNat : Nat) : Int) (gR (D.2.1 s) 0 6)) (ofA (stA tl (mS2 X tl (1 - dr) s (gR (D.2.1 s) 0) (mS1 s D)))) = mWaitA X (stA tl (mS2 X tl (1 - dr) s (gR (D.2.1 s) 0) (mS1 s D))) (gR (D.2.1 s) 0 0) (((gR (D.2.1 s) 0 1).toNat : Nat) : Int) (gR (D.2.1 s) 0 6) from rfl]
                have hE572 : isEn G hb A T tl fx X cl dr (mS2 X tl (1 - dr) s (gR (D.2.1 s) 0) (mS1 s D)) w574 := q575e
                have hF572 : FrE A w w574 := FrE.tr hF471 q575f
                refine M.run 2 (pc' := 248) (lv' := [some (vr (A 13)), some (vi ((s : Nat) : Int)), some (vr (A (3 + 2 * s))), some (vi (gR (D.2.1 s) 0 0)), some (vi (((gR (D.2.1 s) 0 1).toNat : Nat) : Int)), some (vi (mBy (gR (D.2.1 s) 0))), some (vi 0), some (vi (mWaitA X (stA tl (mS2 X tl (1 - dr) s (gR (D.2.1 s) 0) (mS1 s D))) (gR (D.2.1 s) 0 0) (((gR (D.2.1 s) 0 1).toNat : Nat) : Int) (gR (D.2.1 s) 0 6)))]) (st' := [vr (A 13)]) rfl ?_
                refine M.get fl_X1_15 rfl hE572.2.2.1 (kf := 1) (v := vr (A 0)) rfl ?_
                refine M.get fl_X1_145 rfl hE572.1.1 (kf := 9) (v := vr (A 9)) rfl ?_
                refine M.run 2 (pc' := 256) (lv' := [some (vr (A 13)), some (vi ((s : Nat) : Int)), some (vr (A (3 + 2 * s))), some (vi (gR (D.2.1 s) 0 0)), some (vi (((gR (D.2.1 s) 0 1).toNat : Nat) : Int)), some (vi (mBy (gR (D.2.1 s) 0))), some (vi 0), some (vi (mWaitA X (stA tl (mS2 X tl (1 - dr) s (gR (D.2.1 s) 0) (mS1 s D))) (gR (D.2.1 s) 0 0) (((gR (D.2.1 s) 0 1).toNat : Nat) : Int) (gR (D.2.1 s) 0 6)))]) (st' := [vr (A 13), vr (A (3 + 2 * s)), vr (A 9)]) rfl ?_
                refine M.get fl_X1_15 rfl hE572.2.2.1 (kf := 1) (v := vr (A 0)) rfl ?_
                refine M.get fl_X1_116 rfl hE572.1.1 (kf := 1) (v := vi ((mS2 X tl (1 - dr) s (gR (D.2.1 s) 0) (mS1 s D)).1 20)) rfl ?_
                refine M.run 3 (pc' := 266) (lv' := [some (vr (A 13)), some (vi ((s : Nat) : Int)), some (vr (A (3 + 2 * s))), some (vi (gR (D.2.1 s) 0 0)), some (vi (((gR (D.2.1 s) 0 1).toNat : Nat) : Int)), some (vi (mBy (gR (D.2.1 s) 0))), some (vi 0), some (vi (mWaitA X (stA tl (mS2 X tl (1 - dr) s (gR (D.2.1 s) 0) (mS1 s D))) (gR (D.2.1 s) 0 0) (((gR (D.2.1 s) 0 1).toNat : Nat) : Int) (gR (D.2.1 s) 0 6)))]) (st' := [vi ((s : Nat) : Int), vi (((mS2 X tl (1 - dr) s (gR (D.2.1 s) 0) (mS1 s D)).1 20) + (mWaitA X (stA tl (mS2 X tl (1 - dr) s (gR (D.2.1 s) 0) (mS1 s D))) (gR (D.2.1 s) 0 0) (((gR (D.2.1 s) 0 1).toNat : Nat) : Int) (gR (D.2.1 s) 0 6))), vr (A (3 + 2 * s)), vr (A 9)]) rfl ?_
                refine M.callV (qT_add l G hb A T tl fx X cl dr (mS2 X tl (1 - dr) s (gR (D.2.1 s) 0) (mS1 s D)) s (by omega) (by rw [mS2_2]; exact h0) (((mS2 X tl (1 - dr) s (gR (D.2.1 s) 0) (mS1 s D)).1 20) + (mWaitA X (stA tl (mS2 X tl (1 - dr) s (gR (D.2.1 s) 0) (mS1 s D))) (gR (D.2.1 s) 0 0) (((gR (D.2.1 s) 0 1).toNat : Nat) : Int) (gR (D.2.1 s) 0 6))) ((s : Nat) : Int)) cv_X1_182 cd_X4_addFirstOf rfl (st := []) rfl (iS_t hE572.1).1 (by decide) (by decide) rfl (Nat.zero_le _) (Nat.zero_le _) hE572 (fun r578 w579 q580 => ?_)
                obtain ⟨q580r, q580e, q580f⟩ := q580
                rw [q580r]
                have hE577 : isEn G hb A T tl fx X cl dr (mTimer X tl s (mS2 X tl (1 - dr) s (gR (D.2.1 s) 0) (mS1 s D))) w579 := by rw [← tmr_eq (X := X) (a0 := tl) (s := s) (D := (mS2 X tl (1 - dr) s (gR (D.2.1 s) 0) (mS1 s D))) (kd := (gR (D.2.1 s) 0) 0) (bl := (((gR (D.2.1 s) 0 1).toNat : Nat) : Int)) (tr := (gR (D.2.1 s) 0) 6) (by rw [mS2_2]; rfl) (by rw [mS2_2]; exact Int.toNat_of_nonneg hr1.1) (by rw [mS2_2]; rfl)]; exact q580e
                have hF577 : FrE A w w579 := FrE.tr hF572 q580f
                refine M.run 2 (pc' := 271) (lv' := [some (vr (A 13)), some (vi ((s : Nat) : Int)), some (vr (A (3 + 2 * s))), some (vi (gR (D.2.1 s) 0 0)), some (vi (((gR (D.2.1 s) 0 1).toNat : Nat) : Int)), some (vi (mBy (gR (D.2.1 s) 0))), some (vi 0), some (vi (mWaitA X (stA tl (mS2 X tl (1 - dr) s (gR (D.2.1 s) 0) (mS1 s D))) (gR (D.2.1 s) 0 0) (((gR (D.2.1 s) 0 1).toNat : Nat) : Int) (gR (D.2.1 s) 0 6)))]) (st' := [vi 0, vr (A (3 + 2 * s))]) rfl ?_
                refine M.callV (qL_rem l G hb A T tl fx X cl dr (mTimer X tl s (mS2 X tl (1 - dr) s (gR (D.2.1 s) 0) (mS1 s D))) s (by omega) 0 (by rw [mTimer_2, mS2_2]; exact h0)) cv_X1_106 cd_X4_remove rfl (st := []) rfl (iS_l hE577.1 (s := s) (by omega)).1 (by decide) (by decide) rfl (Nat.zero_le _) (Nat.zero_le _) hE577 (fun r583 w584 q585 => ?_)
                obtain ⟨q585r, q585e, q585f⟩ := q585
                rw [q585r]
                have hE582 : isEn G hb A T tl fx X cl dr (mSend X tl (1 - dr) s D) w584 := by unfold mSend mS3; rw [if_pos hcd]; exact q585e
                have hF582 : FrE A w w584 := FrE.tr hF577 q585f
                exact M.vret rfl (Nat.zero_le _) (Nat.zero_le _) ⟨rfl, (by unfold mSnd; rw [if_pos h0]; exact hE582), hF582⟩
          · skip
            refine M.run 4 (pc' := 208) (lv' := [some (vr (A 13)), some (vi ((s : Nat) : Int)), some (vr (A (3 + 2 * s))), some (vi (gR (D.2.1 s) 0 0)), some (vi (((gR (D.2.1 s) 0 1).toNat : Nat) : Int)), some (vi (mBy (gR (D.2.1 s) 0))), some (vi 1), none]) (st' := [vi 1]) rfl ?_
            refine M.if_ne (tgt := 221) rfl (qI (by decide)) (by decide) (fun _ => ?_) (fun q => absurd q (by decide))
            have hcd : ((gR (D.2.1 s) 0) 0 = 0 ∧ 0 < (gR (D.2.1 s) 0) 2) ∨ (gR (D.2.1 s) 0) 0 = 1 ∨ (gR (D.2.1 s) 0) 0 = 3 := Or.inl ⟨by omega, by omega⟩
            refine M.run 1 (pc' := 222) (lv' := [some (vr (A 13)), some (vi ((s : Nat) : Int)), some (vr (A (3 + 2 * s))), some (vi (gR (D.2.1 s) 0 0)), some (vi (((gR (D.2.1 s) 0 1).toNat : Nat) : Int)), some (vi (mBy (gR (D.2.1 s) 0))), some (vi 1), none]) (st' := [vr (A 13)]) rfl ?_
            refine M.get fl_X1_24 rfl hE471.2.2.1 (kf := 2) (v := vr (A 14)) rfl ?_
            refine M.run 1 (pc' := 226) (lv' := [some (vr (A 13)), some (vi ((s : Nat) : Int)), some (vr (A (3 + 2 * s))), some (vi (gR (D.2.1 s) 0 0)), some (vi (((gR (D.2.1 s) 0 1).toNat : Nat) : Int)), some (vi (mBy (gR (D.2.1 s) 0))), some (vi 1), none]) (st' := [vr (A 13), vr (A 14)]) rfl ?_
            refine M.get fl_X1_9 rfl hE471.2.2.1 (kf := 0) (v := vr (T 0)) rfl ?_
            refine M.callV (qO_rul l G hb A T tl fx X cl dr (mS2 X tl (1 - dr) s (gR (D.2.1 s) 0) (mS1 s D)) hT) cv_X1_168 cd_X9_rulingText rfl (st := [vr (A 14)]) rfl hE471.2.1.1 (by decide) (by decide) rfl (Nat.zero_le _) (Nat.zero_le _) hE471 (fun r587 w588 q589 => ?_)
            rw [q589.1, q589.2]
            refine M.run 5 (pc' := 239) (lv' := [some (vr (A 13)), some (vi ((s : Nat) : Int)), some (vr (A (3 + 2 * s))), some (vi (gR (D.2.1 s) 0 0)), some (vi (((gR (D.2.1 s) 0 1).toNat : Nat) : Int)), some (vi (mBy (gR (D.2.1 s) 0))), some (vi 1), none]) (st' := [vi 6, vi 0, vr (A (3 + 2 * s)), vi (((gR (D.2.1 s) 0 1).toNat : Nat) : Int), vi (gR (D.2.1 s) 0 0), .inr (.inr (if 0 ≤ tl 2 ∧ tl 2 < tl 1 then rfO (fx (tl 2).toNat) else none)), vr (A 14)]) rfl ?_
            refine M.callV (qL_get l G hb A T tl fx X cl dr (mS2 X tl (1 - dr) s (gR (D.2.1 s) 0) (mS1 s D)) s (by omega) 0 6 (by rw [mS2_2]; exact h0) (by decide)) cv_X1_88 cd_X4_get rfl (st := [vi (((gR (D.2.1 s) 0 1).toNat : Nat) : Int), vi (gR (D.2.1 s) 0 0), .inr (.inr (if 0 ≤ tl 2 ∧ tl 2 < tl 1 then rfO (fx (tl 2).toNat) else none)), vr (A 14)]) rfl (iS_l hE471.1 (s := s) (by omega)).1 (by decide) (by decide) rfl (Nat.zero_le _) (Nat.zero_le _) hE471 (fun r591 w592 q593 => ?_)
            rw [q593.1, q593.2]
            rw [show gR ((mS2 X tl (1 - dr) s (gR (D.2.1 s) 0) (mS1 s D)).2.1 s) 0 6 = gR (D.2.1 s) 0 6 from by rw [mS2_2]; rfl]
            obtain ⟨_, _, _, _, _, hLa595⟩ := hE471.2.2.2.1
            refine M.callV (qW_wai l G hb A T tl fx X cl dr (mS2 X tl (1 - dr) s (gR (D.2.1 s) 0) (mS1 s D)) hT (n + 31) hd476 (gR (D.2.1 s) 0 0) (((gR (D.2.1 s) 0 1).toNat : Nat) : Int) (gR (D.2.1 s) 0 6) (by omega) (by omega) (by omega) (tl 2) (by omega)) cv_X1_186 cd_X2_waiting rfl (st := []) rfl hLa595.1 (by decide) (by decide) rfl (Nat.zero_le _) (Nat.zero_le _) hE471 (fun r597 w598 q599 => ?_)
            obtain ⟨q599r, q599e, q599f⟩ := q599
            rw [q599r, show sayV (X (tl 2).toNat 1) (tl 2) (2 * tl 6 + 2) 1 60 (enA (stA tl (mS2 X tl (1 - dr) s (gR (D.2.1 s) 0) (mS1 s D))) (gR (D.2.1 s) 0 0) (((gR (D.2.1 s) 0 1).toNat : Nat) : Int) (gR (D.2.1 s) 0 6)) (ofA (stA tl (mS2 X tl (1 - dr) s (gR (D.2.1 s) 0) (mS1 s D)))) = mWaitA X (stA tl (mS2 X tl (1 - dr) s (gR (D.2.1 s) 0) (mS1 s D))) (gR (D.2.1 s) 0 0) (((gR (D.2.1 s) 0 1).toNat : Nat) : Int) (gR (D.2.1 s) 0 6) from rfl]
            have hE596 : isEn G hb A T tl fx X cl dr (mS2 X tl (1 - dr) s (gR (D.2.1 s) 0) (mS1 s D)) w598 := q599e
            have hF596 : FrE A w w598 := FrE.tr hF471 q599f
            refine M.run 2 (pc' := 248) (lv' := [some (vr (A 13)), some (vi ((s : Nat) : Int)), some (vr (A (3 + 2 * s))), some (vi (gR (D.2.1 s) 0 0)), some (vi (((gR (D.2.1 s) 0 1).toNat : Nat) : Int)), some (vi (mBy (gR (D.2.1 s) 0))), some (vi 1), some (vi (mWaitA X (stA tl (mS2 X tl (1 - dr) s (gR (D.2.1 s) 0) (mS1 s D))) (gR (D.2.1 s) 0 0) (((gR (D.2.1 s) 0 1).toNat : Nat) : Int) (gR (D.2.1 s) 0 6)))]) (st' := [vr (A 13)]) rfl ?_
            refine M.get fl_X1_15 rfl hE596.2.2.1 (kf := 1) (v := vr (A 0)) rfl ?_
            refine M.get fl_X1_145 rfl hE596.1.1 (kf := 9) (v := vr (A 9)) rfl ?_
            refine M.run 2 (pc' := 256) (lv' := [some (vr (A 13)), some (vi ((s : Nat) : Int)), some (vr (A (3 + 2 * s))), some (vi (gR (D.2.1 s) 0 0)), some (vi (((gR (D.2.1 s) 0 1).toNat : Nat) : Int)), some (vi (mBy (gR (D.2.1 s) 0))), some (vi 1), some (vi (mWaitA X (stA tl (mS2 X tl (1 - dr) s (gR (D.2.1 s) 0) (mS1 s D))) (gR (D.2.1 s) 0 0) (((gR (D.2.1 s) 0 1).toNat : Nat) : Int) (gR (D.2.1 s) 0 6)))]) (st' := [vr (A 13), vr (A (3 + 2 * s)), vr (A 9)]) rfl ?_
            refine M.get fl_X1_15 rfl hE596.2.2.1 (kf := 1) (v := vr (A 0)) rfl ?_
            refine M.get fl_X1_116 rfl hE596.1.1 (kf := 1) (v := vi ((mS2 X tl (1 - dr) s (gR (D.2.1 s) 0) (mS1 s D)).1 20)) rfl ?_
            refine M.run 3 (pc' := 266) (lv' := [some (vr (A 13)), some (vi ((s : Nat) : Int)), some (vr (A (3 + 2 * s))), some (vi (gR (D.2.1 s) 0 0)), some (vi (((gR (D.2.1 s) 0 1).toNat : Nat) : Int)), some (vi (mBy (gR (D.2.1 s) 0))), some (vi 1), some (vi (mWaitA X (stA tl (mS2 X tl (1 - dr) s (gR (D.2.1 s) 0) (mS1 s D))) (gR (D.2.1 s) 0 0) (((gR (D.2.1 s) 0 1).toNat : Nat) : Int) (gR (D.2.1 s) 0 6)))]) (st' := [vi ((s : Nat) : Int), vi (((mS2 X tl (1 - dr) s (gR (D.2.1 s) 0) (mS1 s D)).1 20) + (mWaitA X (stA tl (mS2 X tl (1 - dr) s (gR (D.2.1 s) 0) (mS1 s D))) (gR (D.2.1 s) 0 0) (((gR (D.2.1 s) 0 1).toNat : Nat) : Int) (gR (D.2.1 s) 0 6))), vr (A (3 + 2 * s)), vr (A 9)]) rfl ?_
            refine M.callV (qT_add l G hb A T tl fx X cl dr (mS2 X tl (1 - dr) s (gR (D.2.1 s) 0) (mS1 s D)) s (by omega) (by rw [mS2_2]; exact h0) (((mS2 X tl (1 - dr) s (gR (D.2.1 s) 0) (mS1 s D)).1 20) + (mWaitA X (stA tl (mS2 X tl (1 - dr) s (gR (D.2.1 s) 0) (mS1 s D))) (gR (D.2.1 s) 0 0) (((gR (D.2.1 s) 0 1).toNat : Nat) : Int) (gR (D.2.1 s) 0 6))) ((s : Nat) : Int)) cv_X1_182 cd_X4_addFirstOf rfl (st := []) rfl (iS_t hE596.1).1 (by decide) (by decide) rfl (Nat.zero_le _) (Nat.zero_le _) hE596 (fun r602 w603 q604 => ?_)
            obtain ⟨q604r, q604e, q604f⟩ := q604
            rw [q604r]
            have hE601 : isEn G hb A T tl fx X cl dr (mTimer X tl s (mS2 X tl (1 - dr) s (gR (D.2.1 s) 0) (mS1 s D))) w603 := by rw [← tmr_eq (X := X) (a0 := tl) (s := s) (D := (mS2 X tl (1 - dr) s (gR (D.2.1 s) 0) (mS1 s D))) (kd := (gR (D.2.1 s) 0) 0) (bl := (((gR (D.2.1 s) 0 1).toNat : Nat) : Int)) (tr := (gR (D.2.1 s) 0) 6) (by rw [mS2_2]; rfl) (by rw [mS2_2]; exact Int.toNat_of_nonneg hr1.1) (by rw [mS2_2]; rfl)]; exact q604e
            have hF601 : FrE A w w603 := FrE.tr hF596 q604f
            refine M.run 2 (pc' := 271) (lv' := [some (vr (A 13)), some (vi ((s : Nat) : Int)), some (vr (A (3 + 2 * s))), some (vi (gR (D.2.1 s) 0 0)), some (vi (((gR (D.2.1 s) 0 1).toNat : Nat) : Int)), some (vi (mBy (gR (D.2.1 s) 0))), some (vi 1), some (vi (mWaitA X (stA tl (mS2 X tl (1 - dr) s (gR (D.2.1 s) 0) (mS1 s D))) (gR (D.2.1 s) 0 0) (((gR (D.2.1 s) 0 1).toNat : Nat) : Int) (gR (D.2.1 s) 0 6)))]) (st' := [vi 0, vr (A (3 + 2 * s))]) rfl ?_
            refine M.callV (qL_rem l G hb A T tl fx X cl dr (mTimer X tl s (mS2 X tl (1 - dr) s (gR (D.2.1 s) 0) (mS1 s D))) s (by omega) 0 (by rw [mTimer_2, mS2_2]; exact h0)) cv_X1_106 cd_X4_remove rfl (st := []) rfl (iS_l hE601.1 (s := s) (by omega)).1 (by decide) (by decide) rfl (Nat.zero_le _) (Nat.zero_le _) hE601 (fun r607 w608 q609 => ?_)
            obtain ⟨q609r, q609e, q609f⟩ := q609
            rw [q609r]
            have hE606 : isEn G hb A T tl fx X cl dr (mSend X tl (1 - dr) s D) w608 := by unfold mSend mS3; rw [if_pos hcd]; exact q609e
            have hF606 : FrE A w w608 := FrE.tr hF601 q609f
            exact M.vret rfl (Nat.zero_le _) (Nat.zero_le _) ⟨rfl, (by unfold mSnd; rw [if_pos h0]; exact hE606), hF606⟩
      · skip
        have hd611 : Dok (n + 31) (mS1 s D) := hd1
        refine M.run 1 (pc' := 92) (lv' := [some (vr (A 13)), some (vi ((s : Nat) : Int)), some (vr (A (3 + 2 * s))), some (vi (gR (D.2.1 s) 0 0)), some (vi (((gR (D.2.1 s) 0 1).toNat : Nat) : Int)), some (vi (mBy (gR (D.2.1 s) 0))), none, none]) (st' := [vr (A 13)]) rfl ?_
        refine M.get fl_X1_15 rfl hE466.2.2.1 (kf := 1) (v := vr (A 0)) rfl ?_
        refine M.callV (qS_drawn l G hb A T tl fx X cl dr (mS1 s D) ⟨by omega, by omega⟩) cv_X1_164 cd_X6_drawn rfl (st := []) rfl hE466.1.1 (by decide) (by decide) rfl (Nat.zero_le _) (Nat.zero_le _) hE466 (fun r613 w614 q615 => ?_)
        obtain ⟨q615r, q615e, q615f⟩ := q615
        rw [q615r]
        have hE612 : isEn G hb A T tl fx X cl dr (mAnew (mS1 s D)) w614 := q615e
        have hF612 : FrE A w w614 := FrE.tr hF466 q615f
        have hd617 : Dok (n + 31) (mAnew (mS1 s D)) := hda
        refine M.run 1 (pc' := 99) (lv' := [some (vr (A 13)), some (vi ((s : Nat) : Int)), some (vr (A (3 + 2 * s))), some (vi (gR (D.2.1 s) 0 0)), some (vi (((gR (D.2.1 s) 0 1).toNat : Nat) : Int)), some (vi (mBy (gR (D.2.1 s) 0))), none, none]) (st' := [vr (A 13), vi (((mS1 s D).1 19).tmod 10)]) rfl ?_
        refine M.get fl_X1_24 rfl hE612.2.2.1 (kf := 2) (v := vr (A 14)) rfl ?_
        refine M.run 1 (pc' := 103) (lv' := [some (vr (A 13)), some (vi ((s : Nat) : Int)), some (vr (A (3 + 2 * s))), some (vi (gR (D.2.1 s) 0 0)), some (vi (((gR (D.2.1 s) 0 1).toNat : Nat) : Int)), some (vi (mBy (gR (D.2.1 s) 0))), none, none]) (st' := [vr (A 13), vr (A 14), vi (((mS1 s D).1 19).tmod 10)]) rfl ?_
        refine M.get fl_X1_9 rfl hE612.2.2.1 (kf := 0) (v := vr (T 0)) rfl ?_
        refine M.callV (qO_rul l G hb A T tl fx X cl dr (mAnew (mS1 s D)) hT) cv_X1_168 cd_X9_rulingText rfl (st := [vr (A 14), vi (((mS1 s D).1 19).tmod 10)]) rfl hE612.2.1.1 (by decide) (by decide) rfl (Nat.zero_le _) (Nat.zero_le _) hE612 (fun r618 w619 q620 => ?_)
        rw [q620.1, q620.2]
        refine M.run 3 (pc' := 114) (lv' := [some (vr (A 13)), some (vi ((s : Nat) : Int)), some (vr (A (3 + 2 * s))), some (vi (gR (D.2.1 s) 0 0)), some (vi (((gR (D.2.1 s) 0 1).toNat : Nat) : Int)), some (vi (mBy (gR (D.2.1 s) 0))), none, none]) (st' := [vi (mBy (gR (D.2.1 s) 0)), vi (((gR (D.2.1 s) 0 1).toNat : Nat) : Int), vi (gR (D.2.1 s) 0 0), .inr (.inr (if 0 ≤ tl 2 ∧ tl 2 < tl 1 then rfO (fx (tl 2).toNat) else none)), vr (A 14), vi (((mS1 s D).1 19).tmod 10)]) rfl ?_
        obtain ⟨_, _, _, _, _, hLa622⟩ := hE612.2.2.2.1
        refine M.callV (qW_los l G hb A T tl fx X cl dr (mAnew (mS1 s D)) hT (n + 31) hd617 (gR (D.2.1 s) 0 0) (((gR (D.2.1 s) 0 1).toNat : Nat) : Int) (mBy (gR (D.2.1 s) 0)) (by omega) (by omega) (by omega) (tl 2) (by omega)) cv_X1_172 cd_X2_losing rfl (st := [vi (((mS1 s D).1 19).tmod 10)]) rfl hLa622.1 (by decide) (by decide) rfl (Nat.zero_le _) (Nat.zero_le _) hE612 (fun r624 w625 q626 => ?_)
        obtain ⟨q626r, q626e, q626f⟩ := q626
        rw [q626r, show sayV (X (tl 2).toNat 0) (tl 2) 2 0 10 (enA (stA tl (mAnew (mS1 s D))) (gR (D.2.1 s) 0 0) (((gR (D.2.1 s) 0 1).toNat : Nat) : Int) (mBy (gR (D.2.1 s) 0))) (ofA (stA tl (mAnew (mS1 s D)))) = mLossA X (stA tl (mAnew (mS1 s D))) (tl 2) (gR (D.2.1 s) 0 0) (((gR (D.2.1 s) 0 1).toNat : Nat) : Int) (mBy (gR (D.2.1 s) 0)) from rfl]
        have hE623 : isEn G hb A T tl fx X cl dr (mAnew (mS1 s D)) w625 := q626e
        have hF623 : FrE A w w625 := FrE.tr hF612 q626f
        have hlb := mLossA_b (X := X) (a := stA tl (mAnew (mS1 s D))) (z := tl 2) (kind := (gR (D.2.1 s) 0) 0) (c := (((gR (D.2.1 s) 0 1).toNat : Nat) : Int)) (x := mBy (gR (D.2.1 s) 0))
        refine M.icmp_ge (tgt := 157) rfl (qI (by omega)) (qI (by omega)) (by decide) (fun h117 => ?_) (fun h117 => ?_)
        · skip
          refine M.run 1 (pc' := 158) (lv' := [some (vr (A 13)), some (vi ((s : Nat) : Int)), some (vr (A (3 + 2 * s))), some (vi (gR (D.2.1 s) 0 0)), some (vi (((gR (D.2.1 s) 0 1).toNat : Nat) : Int)), some (vi (mBy (gR (D.2.1 s) 0))), none, none]) (st' := [vr (A 13)]) rfl ?_
          refine M.get fl_X1_15 rfl hE623.2.2.1 (kf := 1) (v := vr (A 0)) rfl ?_
          refine M.get fl_X1_100 rfl hE623.1.1 (kf := 8) (v := vr (A 7)) rfl ?_
          refine M.run 2 (pc' := 166) (lv' := [some (vr (A 13)), some (vi ((s : Nat) : Int)), some (vr (A (3 + 2 * s))), some (vi (gR (D.2.1 s) 0 0)), some (vi (((gR (D.2.1 s) 0 1).toNat : Nat) : Int)), some (vi (mBy (gR (D.2.1 s) 0))), none, none]) (st' := [vr (A 13), vr (A (3 + 2 * s)), vr (A 7)]) rfl ?_
          refine M.get fl_X1_15 rfl hE623.2.2.1 (kf := 1) (v := vr (A 0)) rfl ?_
          refine M.get fl_X1_61 rfl hE623.1.1 (kf := 0) (v := vi ((mAnew (mS1 s D)).1 18)) rfl ?_
          refine M.run 1 (pc' := 173) (lv' := [some (vr (A 13)), some (vi ((s : Nat) : Int)), some (vr (A (3 + 2 * s))), some (vi (gR (D.2.1 s) 0 0)), some (vi (((gR (D.2.1 s) 0 1).toNat : Nat) : Int)), some (vi (mBy (gR (D.2.1 s) 0))), none, none]) (st' := [vr (A 13), vi ((mAnew (mS1 s D)).1 18), vr (A (3 + 2 * s)), vr (A 7)]) rfl ?_
          refine M.get fl_X1_9 rfl hE623.2.2.1 (kf := 0) (v := vr (T 0)) rfl ?_
          refine M.get fl_X1_179 rfl hE623.2.1.1 (kf := 6) (v := vi (tl 6)) rfl ?_
          refine M.run 4 (pc' := 183) (lv' := [some (vr (A 13)), some (vi ((s : Nat) : Int)), some (vr (A (3 + 2 * s))), some (vi (gR (D.2.1 s) 0 0)), some (vi (((gR (D.2.1 s) 0 1).toNat : Nat) : Int)), some (vi (mBy (gR (D.2.1 s) 0))), none, none]) (st' := [vi (1 - ((s : Nat) : Int)), vi (((mAnew (mS1 s D)).1 18) + (tl 6)), vr (A (3 + 2 * s)), vr (A 7)]) rfl ?_
          refine M.callV (qF_add l G hb A T tl fx X cl dr (mAnew (mS1 s D)) s (by omega) h0 (((mAnew (mS1 s D)).1 18) + (tl 6)) (1 - ((s : Nat) : Int))) cv_X1_182 cd_X4_addFirstOf rfl (st := []) rfl (iS_f hE623.1).1 (by decide) (by decide) rfl (Nat.zero_le _) (Nat.zero_le _) hE623 (fun r629 w630 q631 => ?_)
          obtain ⟨q631r, q631e, q631f⟩ := q631
          rw [q631r]
          have hE628 : isEn G hb A T tl fx X cl dr (mS2 X tl (1 - dr) s (gR (D.2.1 s) 0) (mS1 s D)) w630 := by unfold mS2; rw [if_pos (by omega), if_neg (by omega), ← fly_eq (a0 := tl) (v := (mAnew (mS1 s D)).1 18 + tl 6) (z := 1 - (s : Int)) (show (mAnew (mS1 s D)).2.2.1.length < 40 from hf) rfl rfl]; exact q631e
          have hF628 : FrE A w w630 := FrE.tr hF623 q631f
          have hd633 : Dok (n + 31) (mS2 X tl (1 - dr) s (gR (D.2.1 s) 0) (mS1 s D)) := hd2
          refine M.run 1 (pc' := 187) (lv' := [some (vr (A 13)), some (vi ((s : Nat) : Int)), some (vr (A (3 + 2 * s))), some (vi (gR (D.2.1 s) 0 0)), some (vi (((gR (D.2.1 s) 0 1).toNat : Nat) : Int)), some (vi (mBy (gR (D.2.1 s) 0))), none, none]) (st' := [vi (gR (D.2.1 s) 0 0)]) rfl ?_
          refine M.if_ne (tgt := 203) rfl (qI (by omega)) (by decide) (fun h187 => ?_) (fun h187 => ?_)
          · skip
            refine M.run 3 (pc' := 208) (lv' := [some (vr (A 13)), some (vi ((s : Nat) : Int)), some (vr (A (3 + 2 * s))), some (vi (gR (D.2.1 s) 0 0)), some (vi (((gR (D.2.1 s) 0 1).toNat : Nat) : Int)), some (vi (mBy (gR (D.2.1 s) 0))), some (vi 0), none]) (st' := [vi 0]) rfl ?_
            refine M.if_ne (tgt := 221) rfl (qI (by decide)) (by decide) (fun q => absurd q (by decide)) (fun _ => ?_)
            refine M.run 2 (pc' := 213) (lv' := [some (vr (A 13)), some (vi ((s : Nat) : Int)), some (vr (A (3 + 2 * s))), some (vi (gR (D.2.1 s) 0 0)), some (vi (((gR (D.2.1 s) 0 1).toNat : Nat) : Int)), some (vi (mBy (gR (D.2.1 s) 0))), some (vi 0), none]) (st' := [vi 1, vi (gR (D.2.1 s) 0 0)]) rfl ?_
            refine M.icmp_eq (tgt := 221) rfl (qI (by omega)) (qI (by decide)) (by decide) (fun h213 => ?_) (fun h213 => ?_)
            · skip
              have hcd : ((gR (D.2.1 s) 0) 0 = 0 ∧ 0 < (gR (D.2.1 s) 0) 2) ∨ (gR (D.2.1 s) 0) 0 = 1 ∨ (gR (D.2.1 s) 0) 0 = 3 := Or.inr (Or.inl (by omega))
              refine M.run 1 (pc' := 222) (lv' := [some (vr (A 13)), some (vi ((s : Nat) : Int)), some (vr (A (3 + 2 * s))), some (vi (gR (D.2.1 s) 0 0)), some (vi (((gR (D.2.1 s) 0 1).toNat : Nat) : Int)), some (vi (mBy (gR (D.2.1 s) 0))), some (vi 0), none]) (st' := [vr (A 13)]) rfl ?_
              refine M.get fl_X1_24 rfl hE628.2.2.1 (kf := 2) (v := vr (A 14)) rfl ?_
              refine M.run 1 (pc' := 226) (lv' := [some (vr (A 13)), some (vi ((s : Nat) : Int)), some (vr (A (3 + 2 * s))), some (vi (gR (D.2.1 s) 0 0)), some (vi (((gR (D.2.1 s) 0 1).toNat : Nat) : Int)), some (vi (mBy (gR (D.2.1 s) 0))), some (vi 0), none]) (st' := [vr (A 13), vr (A 14)]) rfl ?_
              refine M.get fl_X1_9 rfl hE628.2.2.1 (kf := 0) (v := vr (T 0)) rfl ?_
              refine M.callV (qO_rul l G hb A T tl fx X cl dr (mS2 X tl (1 - dr) s (gR (D.2.1 s) 0) (mS1 s D)) hT) cv_X1_168 cd_X9_rulingText rfl (st := [vr (A 14)]) rfl hE628.2.1.1 (by decide) (by decide) rfl (Nat.zero_le _) (Nat.zero_le _) hE628 (fun r634 w635 q636 => ?_)
              rw [q636.1, q636.2]
              refine M.run 5 (pc' := 239) (lv' := [some (vr (A 13)), some (vi ((s : Nat) : Int)), some (vr (A (3 + 2 * s))), some (vi (gR (D.2.1 s) 0 0)), some (vi (((gR (D.2.1 s) 0 1).toNat : Nat) : Int)), some (vi (mBy (gR (D.2.1 s) 0))), some (vi 0), none]) (st' := [vi 6, vi 0, vr (A (3 + 2 * s)), vi (((gR (D.2.1 s) 0 1).toNat : Nat) : Int), vi (gR (D.2.1 s) 0 0), .inr (.inr (if 0 ≤ tl 2 ∧ tl 2 < tl 1 then rfO (fx (tl 2).toNat) else none)), vr (A 14)]) rfl ?_
              refine M.callV (qL_get l G hb A T tl fx X cl dr (mS2 X tl (1 - dr) s (gR (D.2.1 s) 0) (mS1 s D)) s (by omega) 0 6 (by rw [mS2_2]; exact h0) (by decide)) cv_X1_88 cd_X4_get rfl (st := [vi (((gR (D.2.1 s) 0 1).toNat : Nat) : Int), vi (gR (D.2.1 s) 0 0), .inr (.inr (if 0 ≤ tl 2 ∧ tl 2 < tl 1 then rfO (fx (tl 2).toNat) else none)), vr (A 14)]) rfl (iS_l hE628.1 (s := s) (by omega)).1 (by decide) (by decide) rfl (Nat.zero_le _) (Nat.zero_le _) hE628 (fun r638 w639 q640 => ?_)
              rw [q640.1, q640.2]
              rw [show gR ((mS2 X tl (1 - dr) s (gR (D.2.1 s) 0) (mS1 s D)).2.1 s) 0 6 = gR (D.2.1 s) 0 6 from by rw [mS2_2]; rfl]
              obtain ⟨_, _, _, _, _, hLa642⟩ := hE628.2.2.2.1
              refine M.callV (qW_wai l G hb A T tl fx X cl dr (mS2 X tl (1 - dr) s (gR (D.2.1 s) 0) (mS1 s D)) hT (n + 31) hd633 (gR (D.2.1 s) 0 0) (((gR (D.2.1 s) 0 1).toNat : Nat) : Int) (gR (D.2.1 s) 0 6) (by omega) (by omega) (by omega) (tl 2) (by omega)) cv_X1_186 cd_X2_waiting rfl (st := []) rfl hLa642.1 (by decide) (by decide) rfl (Nat.zero_le _) (Nat.zero_le _) hE628 (fun r644 w645 q646 => ?_)
              obtain ⟨q646r, q646e, q646f⟩ := q646
              rw [q646r, show sayV (X (tl 2).toNat 1) (tl 2) (2 * tl 6 + 2) 1 60 (enA (stA tl (mS2 X tl (1 - dr) s (gR (D.2.1 s) 0) (mS1 s D))) (gR (D.2.1 s) 0 0) (((gR (D.2.1 s) 0 1).toNat : Nat) : Int) (gR (D.2.1 s) 0 6)) (ofA (stA tl (mS2 X tl (1 - dr) s (gR (D.2.1 s) 0) (mS1 s D)))) = mWaitA X (stA tl (mS2 X tl (1 - dr) s (gR (D.2.1 s) 0) (mS1 s D))) (gR (D.2.1 s) 0 0) (((gR (D.2.1 s) 0 1).toNat : Nat) : Int) (gR (D.2.1 s) 0 6) from rfl]
              have hE643 : isEn G hb A T tl fx X cl dr (mS2 X tl (1 - dr) s (gR (D.2.1 s) 0) (mS1 s D)) w645 := q646e
              have hF643 : FrE A w w645 := FrE.tr hF628 q646f
              refine M.run 2 (pc' := 248) (lv' := [some (vr (A 13)), some (vi ((s : Nat) : Int)), some (vr (A (3 + 2 * s))), some (vi (gR (D.2.1 s) 0 0)), some (vi (((gR (D.2.1 s) 0 1).toNat : Nat) : Int)), some (vi (mBy (gR (D.2.1 s) 0))), some (vi 0), some (vi (mWaitA X (stA tl (mS2 X tl (1 - dr) s (gR (D.2.1 s) 0) (mS1 s D))) (gR (D.2.1 s) 0 0) (((gR (D.2.1 s) 0 1).toNat : Nat) : Int) (gR (D.2.1 s) 0 6)))]) (st' := [vr (A 13)]) rfl ?_
              refine M.get fl_X1_15 rfl hE643.2.2.1 (kf := 1) (v := vr (A 0)) rfl ?_
              refine M.get fl_X1_145 rfl hE643.1.1 (kf := 9) (v := vr (A 9)) rfl ?_
              refine M.run 2 (pc' := 256) (lv' := [some (vr (A 13)), some (vi ((s : Nat) : Int)), some (vr (A (3 + 2 * s))), some (vi (gR (D.2.1 s) 0 0)), some (vi (((gR (D.2.1 s) 0 1).toNat : Nat) : Int)), some (vi (mBy (gR (D.2.1 s) 0))), some (vi 0), some (vi (mWaitA X (stA tl (mS2 X tl (1 - dr) s (gR (D.2.1 s) 0) (mS1 s D))) (gR (D.2.1 s) 0 0) (((gR (D.2.1 s) 0 1).toNat : Nat) : Int) (gR (D.2.1 s) 0 6)))]) (st' := [vr (A 13), vr (A (3 + 2 * s)), vr (A 9)]) rfl ?_
              refine M.get fl_X1_15 rfl hE643.2.2.1 (kf := 1) (v := vr (A 0)) rfl ?_
              refine M.get fl_X1_116 rfl hE643.1.1 (kf := 1) (v := vi ((mS2 X tl (1 - dr) s (gR (D.2.1 s) 0) (mS1 s D)).1 20)) rfl ?_
              refine M.run 3 (pc' := 266) (lv' := [some (vr (A 13)), some (vi ((s : Nat) : Int)), some (vr (A (3 + 2 * s))), some (vi (gR (D.2.1 s) 0 0)), some (vi (((gR (D.2.1 s) 0 1).toNat : Nat) : Int)), some (vi (mBy (gR (D.2.1 s) 0))), some (vi 0), some (vi (mWaitA X (stA tl (mS2 X tl (1 - dr) s (gR (D.2.1 s) 0) (mS1 s D))) (gR (D.2.1 s) 0 0) (((gR (D.2.1 s) 0 1).toNat : Nat) : Int) (gR (D.2.1 s) 0 6)))]) (st' := [vi ((s : Nat) : Int), vi (((mS2 X tl (1 - dr) s (gR (D.2.1 s) 0) (mS1 s D)).1 20) + (mWaitA X (stA tl (mS2 X tl (1 - dr) s (gR (D.2.1 s) 0) (mS1 s D))) (gR (D.2.1 s) 0 0) (((gR (D.2.1 s) 0 1).toNat : Nat) : Int) (gR (D.2.1 s) 0 6))), vr (A (3 + 2 * s)), vr (A 9)]) rfl ?_
              refine M.callV (qT_add l G hb A T tl fx X cl dr (mS2 X tl (1 - dr) s (gR (D.2.1 s) 0) (mS1 s D)) s (by omega) (by rw [mS2_2]; exact h0) (((mS2 X tl (1 - dr) s (gR (D.2.1 s) 0) (mS1 s D)).1 20) + (mWaitA X (stA tl (mS2 X tl (1 - dr) s (gR (D.2.1 s) 0) (mS1 s D))) (gR (D.2.1 s) 0 0) (((gR (D.2.1 s) 0 1).toNat : Nat) : Int) (gR (D.2.1 s) 0 6))) ((s : Nat) : Int)) cv_X1_182 cd_X4_addFirstOf rfl (st := []) rfl (iS_t hE643.1).1 (by decide) (by decide) rfl (Nat.zero_le _) (Nat.zero_le _) hE643 (fun r649 w650 q651 => ?_)
              obtain ⟨q651r, q651e, q651f⟩ := q651
              rw [q651r]
              have hE648 : isEn G hb A T tl fx X cl dr (mTimer X tl s (mS2 X tl (1 - dr) s (gR (D.2.1 s) 0) (mS1 s D))) w650 := by rw [← tmr_eq (X := X) (a0 := tl) (s := s) (D := (mS2 X tl (1 - dr) s (gR (D.2.1 s) 0) (mS1 s D))) (kd := (gR (D.2.1 s) 0) 0) (bl := (((gR (D.2.1 s) 0 1).toNat : Nat) : Int)) (tr := (gR (D.2.1 s) 0) 6) (by rw [mS2_2]; rfl) (by rw [mS2_2]; exact Int.toNat_of_nonneg hr1.1) (by rw [mS2_2]; rfl)]; exact q651e
              have hF648 : FrE A w w650 := FrE.tr hF643 q651f
              refine M.run 2 (pc' := 271) (lv' := [some (vr (A 13)), some (vi ((s : Nat) : Int)), some (vr (A (3 + 2 * s))), some (vi (gR (D.2.1 s) 0 0)), some (vi (((gR (D.2.1 s) 0 1).toNat : Nat) : Int)), some (vi (mBy (gR (D.2.1 s) 0))), some (vi 0), some (vi (mWaitA X (stA tl (mS2 X tl (1 - dr) s (gR (D.2.1 s) 0) (mS1 s D))) (gR (D.2.1 s) 0 0) (((gR (D.2.1 s) 0 1).toNat : Nat) : Int) (gR (D.2.1 s) 0 6)))]) (st' := [vi 0, vr (A (3 + 2 * s))]) rfl ?_
              refine M.callV (qL_rem l G hb A T tl fx X cl dr (mTimer X tl s (mS2 X tl (1 - dr) s (gR (D.2.1 s) 0) (mS1 s D))) s (by omega) 0 (by rw [mTimer_2, mS2_2]; exact h0)) cv_X1_106 cd_X4_remove rfl (st := []) rfl (iS_l hE648.1 (s := s) (by omega)).1 (by decide) (by decide) rfl (Nat.zero_le _) (Nat.zero_le _) hE648 (fun r654 w655 q656 => ?_)
              obtain ⟨q656r, q656e, q656f⟩ := q656
              rw [q656r]
              have hE653 : isEn G hb A T tl fx X cl dr (mSend X tl (1 - dr) s D) w655 := by unfold mSend mS3; rw [if_pos hcd]; exact q656e
              have hF653 : FrE A w w655 := FrE.tr hF648 q656f
              exact M.vret rfl (Nat.zero_le _) (Nat.zero_le _) ⟨rfl, (by unfold mSnd; rw [if_pos h0]; exact hE653), hF653⟩
            · skip
              refine M.run 2 (pc' := 218) (lv' := [some (vr (A 13)), some (vi ((s : Nat) : Int)), some (vr (A (3 + 2 * s))), some (vi (gR (D.2.1 s) 0 0)), some (vi (((gR (D.2.1 s) 0 1).toNat : Nat) : Int)), some (vi (mBy (gR (D.2.1 s) 0))), some (vi 0), none]) (st' := [vi 3, vi (gR (D.2.1 s) 0 0)]) rfl ?_
              refine M.icmp_ne (tgt := 269) rfl (qI (by omega)) (qI (by decide)) (by decide) (fun h218 => ?_) (fun h218 => ?_)
              · skip
                have hcd : ¬ (((gR (D.2.1 s) 0) 0 = 0 ∧ 0 < (gR (D.2.1 s) 0) 2) ∨ (gR (D.2.1 s) 0) 0 = 1 ∨ (gR (D.2.1 s) 0) 0 = 3) := by omega
                refine M.run 2 (pc' := 271) (lv' := [some (vr (A 13)), some (vi ((s : Nat) : Int)), some (vr (A (3 + 2 * s))), some (vi (gR (D.2.1 s) 0 0)), some (vi (((gR (D.2.1 s) 0 1).toNat : Nat) : Int)), some (vi (mBy (gR (D.2.1 s) 0))), some (vi 0), none]) (st' := [vi 0, vr (A (3 + 2 * s))]) rfl ?_
                refine M.callV (qL_rem l G hb A T tl fx X cl dr (mS2 X tl (1 - dr) s (gR (D.2.1 s) 0) (mS1 s D)) s (by omega) 0 (by rw [mS2_2]; exact h0)) cv_X1_106 cd_X4_remove rfl (st := []) rfl (iS_l hE628.1 (s := s) (by omega)).1 (by decide) (by decide) rfl (Nat.zero_le _) (Nat.zero_le _) hE628 (fun r659 w660 q661 => ?_)
                obtain ⟨q661r, q661e, q661f⟩ := q661
                rw [q661r]
                have hE658 : isEn G hb A T tl fx X cl dr (mSend X tl (1 - dr) s D) w660 := by unfold mSend mS3; rw [if_neg hcd]; exact q661e
                have hF658 : FrE A w w660 := FrE.tr hF628 q661f
                exact M.vret rfl (Nat.zero_le _) (Nat.zero_le _) ⟨rfl, (by unfold mSnd; rw [if_pos h0]; exact hE658), hF658⟩
              · skip
                have hcd : ((gR (D.2.1 s) 0) 0 = 0 ∧ 0 < (gR (D.2.1 s) 0) 2) ∨ (gR (D.2.1 s) 0) 0 = 1 ∨ (gR (D.2.1 s) 0) 0 = 3 := Or.inr (Or.inr (by omega))
                refine M.run 1 (pc' := 222) (lv' := [some (vr (A 13)), some (vi ((s : Nat) : Int)), some (vr (A (3 + 2 * s))), some (vi (gR (D.2.1 s) 0 0)), some (vi (((gR (D.2.1 s) 0 1).toNat : Nat) : Int)), some (vi (mBy (gR (D.2.1 s) 0))), some (vi 0), none]) (st' := [vr (A 13)]) rfl ?_
                refine M.get fl_X1_24 rfl hE628.2.2.1 (kf := 2) (v := vr (A 14)) rfl ?_
                refine M.run 1 (pc' := 226) (lv' := [some (vr (A 13)), some (vi ((s : Nat) : Int)), some (vr (A (3 + 2 * s))), some (vi (gR (D.2.1 s) 0 0)), some (vi (((gR (D.2.1 s) 0 1).toNat : Nat) : Int)), some (vi (mBy (gR (D.2.1 s) 0))), some (vi 0), none]) (st' := [vr (A 13), vr (A 14)]) rfl ?_
                refine M.get fl_X1_9 rfl hE628.2.2.1 (kf := 0) (v := vr (T 0)) rfl ?_
                refine M.callV (qO_rul l G hb A T tl fx X cl dr (mS2 X tl (1 - dr) s (gR (D.2.1 s) 0) (mS1 s D)) hT) cv_X1_168 cd_X9_rulingText rfl (st := [vr (A 14)]) rfl hE628.2.1.1 (by decide) (by decide) rfl (Nat.zero_le _) (Nat.zero_le _) hE628 (fun r663 w664 q665 => ?_)
                rw [q665.1, q665.2]
                refine M.run 5 (pc' := 239) (lv' := [some (vr (A 13)), some (vi ((s : Nat) : Int)), some (vr (A (3 + 2 * s))), some (vi (gR (D.2.1 s) 0 0)), some (vi (((gR (D.2.1 s) 0 1).toNat : Nat) : Int)), some (vi (mBy (gR (D.2.1 s) 0))), some (vi 0), none]) (st' := [vi 6, vi 0, vr (A (3 + 2 * s)), vi (((gR (D.2.1 s) 0 1).toNat : Nat) : Int), vi (gR (D.2.1 s) 0 0), .inr (.inr (if 0 ≤ tl 2 ∧ tl 2 < tl 1 then rfO (fx (tl 2).toNat) else none)), vr (A 14)]) rfl ?_
                refine M.callV (qL_get l G hb A T tl fx X cl dr (mS2 X tl (1 - dr) s (gR (D.2.1 s) 0) (mS1 s D)) s (by omega) 0 6 (by rw [mS2_2]; exact h0) (by decide)) cv_X1_88 cd_X4_get rfl (st := [vi (((gR (D.2.1 s) 0 1).toNat : Nat) : Int), vi (gR (D.2.1 s) 0 0), .inr (.inr (if 0 ≤ tl 2 ∧ tl 2 < tl 1 then rfO (fx (tl 2).toNat) else none)), vr (A 14)]) rfl (iS_l hE628.1 (s := s) (by omega)).1 (by decide) (by decide) rfl (Nat.zero_le _) (Nat.zero_le _) hE628 (fun r667 w668 q669 => ?_)
                rw [q669.1, q669.2]
                rw [show gR ((mS2 X tl (1 - dr) s (gR (D.2.1 s) 0) (mS1 s D)).2.1 s) 0 6 = gR (D.2.1 s) 0 6 from by rw [mS2_2]; rfl]
                obtain ⟨_, _, _, _, _, hLa671⟩ := hE628.2.2.2.1
                refine M.callV (qW_wai l G hb A T tl fx X cl dr (mS2 X tl (1 - dr) s (gR (D.2.1 s) 0) (mS1 s D)) hT (n + 31) hd633 (gR (D.2.1 s) 0 0) (((gR (D.2.1 s) 0 1).toNat : Nat) : Int) (gR (D.2.1 s) 0 6) (by omega) (by omega) (by omega) (tl 2) (by omega)) cv_X1_186 cd_X2_waiting rfl (st := []) rfl hLa671.1 (by decide) (by decide) rfl (Nat.zero_le _) (Nat.zero_le _) hE628 (fun r673 w674 q675 => ?_)
                obtain ⟨q675r, q675e, q675f⟩ := q675
                rw [q675r, show sayV (X (tl 2).toNat 1) (tl 2) (2 * tl 6 + 2) 1 60 (enA (stA tl (mS2 X tl (1 - dr) s (gR (D.2.1 s) 0) (mS1 s D))) (gR (D.2.1 s) 0 0) (((gR (D.2.1 s) 0 1).toNat : Nat) : Int) (gR (D.2.1 s) 0 6)) (ofA (stA tl (mS2 X tl (1 - dr) s (gR (D.2.1 s) 0) (mS1 s D)))) = mWaitA X (stA tl (mS2 X tl (1 - dr) s (gR (D.2.1 s) 0) (mS1 s D))) (gR (D.2.1 s) 0 0) (((gR (D.2.1 s) 0 1).toNat : Nat) : Int) (gR (D.2.1 s) 0 6) from rfl]
                have hE672 : isEn G hb A T tl fx X cl dr (mS2 X tl (1 - dr) s (gR (D.2.1 s) 0) (mS1 s D)) w674 := q675e
                have hF672 : FrE A w w674 := FrE.tr hF628 q675f
                refine M.run 2 (pc' := 248) (lv' := [some (vr (A 13)), some (vi ((s : Nat) : Int)), some (vr (A (3 + 2 * s))), some (vi (gR (D.2.1 s) 0 0)), some (vi (((gR (D.2.1 s) 0 1).toNat : Nat) : Int)), some (vi (mBy (gR (D.2.1 s) 0))), some (vi 0), some (vi (mWaitA X (stA tl (mS2 X tl (1 - dr) s (gR (D.2.1 s) 0) (mS1 s D))) (gR (D.2.1 s) 0 0) (((gR (D.2.1 s) 0 1).toNat : Nat) : Int) (gR (D.2.1 s) 0 6)))]) (st' := [vr (A 13)]) rfl ?_
                refine M.get fl_X1_15 rfl hE672.2.2.1 (kf := 1) (v := vr (A 0)) rfl ?_
                refine M.get fl_X1_145 rfl hE672.1.1 (kf := 9) (v := vr (A 9)) rfl ?_
                refine M.run 2 (pc' := 256) (lv' := [some (vr (A 13)), some (vi ((s : Nat) : Int)), some (vr (A (3 + 2 * s))), some (vi (gR (D.2.1 s) 0 0)), some (vi (((gR (D.2.1 s) 0 1).toNat : Nat) : Int)), some (vi (mBy (gR (D.2.1 s) 0))), some (vi 0), some (vi (mWaitA X (stA tl (mS2 X tl (1 - dr) s (gR (D.2.1 s) 0) (mS1 s D))) (gR (D.2.1 s) 0 0) (((gR (D.2.1 s) 0 1).toNat : Nat) : Int) (gR (D.2.1 s) 0 6)))]) (st' := [vr (A 13), vr (A (3 + 2 * s)), vr (A 9)]) rfl ?_
                refine M.get fl_X1_15 rfl hE672.2.2.1 (kf := 1) (v := vr (A 0)) rfl ?_
                refine M.get fl_X1_116 rfl hE672.1.1 (kf := 1) (v := vi ((mS2 X tl (1 - dr) s (gR (D.2.1 s) 0) (mS1 s D)).1 20)) rfl ?_
                refine M.run 3 (pc' := 266) (lv' := [some (vr (A 13)), some (vi ((s : Nat) : Int)), some (vr (A (3 + 2 * s))), some (vi (gR (D.2.1 s) 0 0)), some (vi (((gR (D.2.1 s) 0 1).toNat : Nat) : Int)), some (vi (mBy (gR (D.2.1 s) 0))), some (vi 0), some (vi (mWaitA X (stA tl (mS2 X tl (1 - dr) s (gR (D.2.1 s) 0) (mS1 s D))) (gR (D.2.1 s) 0 0) (((gR (D.2.1 s) 0 1).toNat : Nat) : Int) (gR (D.2.1 s) 0 6)))]) (st' := [vi ((s : Nat) : Int), vi (((mS2 X tl (1 - dr) s (gR (D.2.1 s) 0) (mS1 s D)).1 20) + (mWaitA X (stA tl (mS2 X tl (1 - dr) s (gR (D.2.1 s) 0) (mS1 s D))) (gR (D.2.1 s) 0 0) (((gR (D.2.1 s) 0 1).toNat : Nat) : Int) (gR (D.2.1 s) 0 6))), vr (A (3 + 2 * s)), vr (A 9)]) rfl ?_
                refine M.callV (qT_add l G hb A T tl fx X cl dr (mS2 X tl (1 - dr) s (gR (D.2.1 s) 0) (mS1 s D)) s (by omega) (by rw [mS2_2]; exact h0) (((mS2 X tl (1 - dr) s (gR (D.2.1 s) 0) (mS1 s D)).1 20) + (mWaitA X (stA tl (mS2 X tl (1 - dr) s (gR (D.2.1 s) 0) (mS1 s D))) (gR (D.2.1 s) 0 0) (((gR (D.2.1 s) 0 1).toNat : Nat) : Int) (gR (D.2.1 s) 0 6))) ((s : Nat) : Int)) cv_X1_182 cd_X4_addFirstOf rfl (st := []) rfl (iS_t hE672.1).1 (by decide) (by decide) rfl (Nat.zero_le _) (Nat.zero_le _) hE672 (fun r678 w679 q680 => ?_)
                obtain ⟨q680r, q680e, q680f⟩ := q680
                rw [q680r]
                have hE677 : isEn G hb A T tl fx X cl dr (mTimer X tl s (mS2 X tl (1 - dr) s (gR (D.2.1 s) 0) (mS1 s D))) w679 := by rw [← tmr_eq (X := X) (a0 := tl) (s := s) (D := (mS2 X tl (1 - dr) s (gR (D.2.1 s) 0) (mS1 s D))) (kd := (gR (D.2.1 s) 0) 0) (bl := (((gR (D.2.1 s) 0 1).toNat : Nat) : Int)) (tr := (gR (D.2.1 s) 0) 6) (by rw [mS2_2]; rfl) (by rw [mS2_2]; exact Int.toNat_of_nonneg hr1.1) (by rw [mS2_2]; rfl)]; exact q680e
                have hF677 : FrE A w w679 := FrE.tr hF672 q680f
                refine M.run 2 (pc' := 271) (lv' := [some (vr (A 13)), some (vi ((s : Nat) : Int)), some (vr (A (3 + 2 * s))), some (vi (gR (D.2.1 s) 0 0)), some (vi (((gR (D.2.1 s) 0 1).toNat : Nat) : Int)), some (vi (mBy (gR (D.2.1 s) 0))), some (vi 0), some (vi (mWaitA X (stA tl (mS2 X tl (1 - dr) s (gR (D.2.1 s) 0) (mS1 s D))) (gR (D.2.1 s) 0 0) (((gR (D.2.1 s) 0 1).toNat : Nat) : Int) (gR (D.2.1 s) 0 6)))]) (st' := [vi 0, vr (A (3 + 2 * s))]) rfl ?_
                refine M.callV (qL_rem l G hb A T tl fx X cl dr (mTimer X tl s (mS2 X tl (1 - dr) s (gR (D.2.1 s) 0) (mS1 s D))) s (by omega) 0 (by rw [mTimer_2, mS2_2]; exact h0)) cv_X1_106 cd_X4_remove rfl (st := []) rfl (iS_l hE677.1 (s := s) (by omega)).1 (by decide) (by decide) rfl (Nat.zero_le _) (Nat.zero_le _) hE677 (fun r683 w684 q685 => ?_)
                obtain ⟨q685r, q685e, q685f⟩ := q685
                rw [q685r]
                have hE682 : isEn G hb A T tl fx X cl dr (mSend X tl (1 - dr) s D) w684 := by unfold mSend mS3; rw [if_pos hcd]; exact q685e
                have hF682 : FrE A w w684 := FrE.tr hF677 q685f
                exact M.vret rfl (Nat.zero_le _) (Nat.zero_le _) ⟨rfl, (by unfold mSnd; rw [if_pos h0]; exact hE682), hF682⟩
          · skip
            refine M.run 3 (pc' := 193) (lv' := [some (vr (A 13)), some (vi ((s : Nat) : Int)), some (vr (A (3 + 2 * s))), some (vi (gR (D.2.1 s) 0 0)), some (vi (((gR (D.2.1 s) 0 1).toNat : Nat) : Int)), some (vi (mBy (gR (D.2.1 s) 0))), none, none]) (st' := [vi 2, vi 0, vr (A (3 + 2 * s))]) rfl ?_
            refine M.callV (qL_get l G hb A T tl fx X cl dr (mS2 X tl (1 - dr) s (gR (D.2.1 s) 0) (mS1 s D)) s (by omega) 0 2 (by rw [mS2_2]; exact h0) (by decide)) cv_X1_88 cd_X4_get rfl (st := []) rfl (iS_l hE628.1 (s := s) (by omega)).1 (by decide) (by decide) rfl (Nat.zero_le _) (Nat.zero_le _) hE628 (fun r687 w688 q689 => ?_)
            rw [q689.1, q689.2]
            rw [show gR ((mS2 X tl (1 - dr) s (gR (D.2.1 s) 0) (mS1 s D)).2.1 s) 0 2 = gR (D.2.1 s) 0 2 from by rw [mS2_2]; rfl]
            refine M.if_le (tgt := 203) rfl (qI (by omega)) (by decide) (fun h196 => ?_) (fun h196 => ?_)
            · skip
              refine M.run 3 (pc' := 208) (lv' := [some (vr (A 13)), some (vi ((s : Nat) : Int)), some (vr (A (3 + 2 * s))), some (vi (gR (D.2.1 s) 0 0)), some (vi (((gR (D.2.1 s) 0 1).toNat : Nat) : Int)), some (vi (mBy (gR (D.2.1 s) 0))), some (vi 0), none]) (st' := [vi 0]) rfl ?_
              refine M.if_ne (tgt := 221) rfl (qI (by decide)) (by decide) (fun q => absurd q (by decide)) (fun _ => ?_)
              refine M.run 2 (pc' := 213) (lv' := [some (vr (A 13)), some (vi ((s : Nat) : Int)), some (vr (A (3 + 2 * s))), some (vi (gR (D.2.1 s) 0 0)), some (vi (((gR (D.2.1 s) 0 1).toNat : Nat) : Int)), some (vi (mBy (gR (D.2.1 s) 0))), some (vi 0), none]) (st' := [vi 1, vi (gR (D.2.1 s) 0 0)]) rfl ?_
              refine M.icmp_eq (tgt := 221) rfl (qI (by omega)) (qI (by decide)) (by decide) (fun h213 => ?_) (fun h213 => ?_)
              · skip
                have hcd : ((gR (D.2.1 s) 0) 0 = 0 ∧ 0 < (gR (D.2.1 s) 0) 2) ∨ (gR (D.2.1 s) 0) 0 = 1 ∨ (gR (D.2.1 s) 0) 0 = 3 := Or.inr (Or.inl (by omega))
                refine M.run 1 (pc' := 222) (lv' := [some (vr (A 13)), some (vi ((s : Nat) : Int)), some (vr (A (3 + 2 * s))), some (vi (gR (D.2.1 s) 0 0)), some (vi (((gR (D.2.1 s) 0 1).toNat : Nat) : Int)), some (vi (mBy (gR (D.2.1 s) 0))), some (vi 0), none]) (st' := [vr (A 13)]) rfl ?_
                refine M.get fl_X1_24 rfl hE628.2.2.1 (kf := 2) (v := vr (A 14)) rfl ?_
                refine M.run 1 (pc' := 226) (lv' := [some (vr (A 13)), some (vi ((s : Nat) : Int)), some (vr (A (3 + 2 * s))), some (vi (gR (D.2.1 s) 0 0)), some (vi (((gR (D.2.1 s) 0 1).toNat : Nat) : Int)), some (vi (mBy (gR (D.2.1 s) 0))), some (vi 0), none]) (st' := [vr (A 13), vr (A 14)]) rfl ?_
                refine M.get fl_X1_9 rfl hE628.2.2.1 (kf := 0) (v := vr (T 0)) rfl ?_
                refine M.callV (qO_rul l G hb A T tl fx X cl dr (mS2 X tl (1 - dr) s (gR (D.2.1 s) 0) (mS1 s D)) hT) cv_X1_168 cd_X9_rulingText rfl (st := [vr (A 14)]) rfl hE628.2.1.1 (by decide) (by decide) rfl (Nat.zero_le _) (Nat.zero_le _) hE628 (fun r691 w692 q693 => ?_)
                rw [q693.1, q693.2]
                refine M.run 5 (pc' := 239) (lv' := [some (vr (A 13)), some (vi ((s : Nat) : Int)), some (vr (A (3 + 2 * s))), some (vi (gR (D.2.1 s) 0 0)), some (vi (((gR (D.2.1 s) 0 1).toNat : Nat) : Int)), some (vi (mBy (gR (D.2.1 s) 0))), some (vi 0), none]) (st' := [vi 6, vi 0, vr (A (3 + 2 * s)), vi (((gR (D.2.1 s) 0 1).toNat : Nat) : Int), vi (gR (D.2.1 s) 0 0), .inr (.inr (if 0 ≤ tl 2 ∧ tl 2 < tl 1 then rfO (fx (tl 2).toNat) else none)), vr (A 14)]) rfl ?_
                refine M.callV (qL_get l G hb A T tl fx X cl dr (mS2 X tl (1 - dr) s (gR (D.2.1 s) 0) (mS1 s D)) s (by omega) 0 6 (by rw [mS2_2]; exact h0) (by decide)) cv_X1_88 cd_X4_get rfl (st := [vi (((gR (D.2.1 s) 0 1).toNat : Nat) : Int), vi (gR (D.2.1 s) 0 0), .inr (.inr (if 0 ≤ tl 2 ∧ tl 2 < tl 1 then rfO (fx (tl 2).toNat) else none)), vr (A 14)]) rfl (iS_l hE628.1 (s := s) (by omega)).1 (by decide) (by decide) rfl (Nat.zero_le _) (Nat.zero_le _) hE628 (fun r695 w696 q697 => ?_)
                rw [q697.1, q697.2]
                rw [show gR ((mS2 X tl (1 - dr) s (gR (D.2.1 s) 0) (mS1 s D)).2.1 s) 0 6 = gR (D.2.1 s) 0 6 from by rw [mS2_2]; rfl]
                obtain ⟨_, _, _, _, _, hLa699⟩ := hE628.2.2.2.1
                refine M.callV (qW_wai l G hb A T tl fx X cl dr (mS2 X tl (1 - dr) s (gR (D.2.1 s) 0) (mS1 s D)) hT (n + 31) hd633 (gR (D.2.1 s) 0 0) (((gR (D.2.1 s) 0 1).toNat : Nat) : Int) (gR (D.2.1 s) 0 6) (by omega) (by omega) (by omega) (tl 2) (by omega)) cv_X1_186 cd_X2_waiting rfl (st := []) rfl hLa699.1 (by decide) (by decide) rfl (Nat.zero_le _) (Nat.zero_le _) hE628 (fun r701 w702 q703 => ?_)
                obtain ⟨q703r, q703e, q703f⟩ := q703
                rw [q703r, show sayV (X (tl 2).toNat 1) (tl 2) (2 * tl 6 + 2) 1 60 (enA (stA tl (mS2 X tl (1 - dr) s (gR (D.2.1 s) 0) (mS1 s D))) (gR (D.2.1 s) 0 0) (((gR (D.2.1 s) 0 1).toNat : Nat) : Int) (gR (D.2.1 s) 0 6)) (ofA (stA tl (mS2 X tl (1 - dr) s (gR (D.2.1 s) 0) (mS1 s D)))) = mWaitA X (stA tl (mS2 X tl (1 - dr) s (gR (D.2.1 s) 0) (mS1 s D))) (gR (D.2.1 s) 0 0) (((gR (D.2.1 s) 0 1).toNat : Nat) : Int) (gR (D.2.1 s) 0 6) from rfl]
                have hE700 : isEn G hb A T tl fx X cl dr (mS2 X tl (1 - dr) s (gR (D.2.1 s) 0) (mS1 s D)) w702 := q703e
                have hF700 : FrE A w w702 := FrE.tr hF628 q703f
                refine M.run 2 (pc' := 248) (lv' := [some (vr (A 13)), some (vi ((s : Nat) : Int)), some (vr (A (3 + 2 * s))), some (vi (gR (D.2.1 s) 0 0)), some (vi (((gR (D.2.1 s) 0 1).toNat : Nat) : Int)), some (vi (mBy (gR (D.2.1 s) 0))), some (vi 0), some (vi (mWaitA X (stA tl (mS2 X tl (1 - dr) s (gR (D.2.1 s) 0) (mS1 s D))) (gR (D.2.1 s) 0 0) (((gR (D.2.1 s) 0 1).toNat : Nat) : Int) (gR (D.2.1 s) 0 6)))]) (st' := [vr (A 13)]) rfl ?_
                refine M.get fl_X1_15 rfl hE700.2.2.1 (kf := 1) (v := vr (A 0)) rfl ?_
                refine M.get fl_X1_145 rfl hE700.1.1 (kf := 9) (v := vr (A 9)) rfl ?_
                refine M.run 2 (pc' := 256) (lv' := [some (vr (A 13)), some (vi ((s : Nat) : Int)), some (vr (A (3 + 2 * s))), some (vi (gR (D.2.1 s) 0 0)), some (vi (((gR (D.2.1 s) 0 1).toNat : Nat) : Int)), some (vi (mBy (gR (D.2.1 s) 0))), some (vi 0), some (vi (mWaitA X (stA tl (mS2 X tl (1 - dr) s (gR (D.2.1 s) 0) (mS1 s D))) (gR (D.2.1 s) 0 0) (((gR (D.2.1 s) 0 1).toNat : Nat) : Int) (gR (D.2.1 s) 0 6)))]) (st' := [vr (A 13), vr (A (3 + 2 * s)), vr (A 9)]) rfl ?_
                refine M.get fl_X1_15 rfl hE700.2.2.1 (kf := 1) (v := vr (A 0)) rfl ?_
                refine M.get fl_X1_116 rfl hE700.1.1 (kf := 1) (v := vi ((mS2 X tl (1 - dr) s (gR (D.2.1 s) 0) (mS1 s D)).1 20)) rfl ?_
                refine M.run 3 (pc' := 266) (lv' := [some (vr (A 13)), some (vi ((s : Nat) : Int)), some (vr (A (3 + 2 * s))), some (vi (gR (D.2.1 s) 0 0)), some (vi (((gR (D.2.1 s) 0 1).toNat : Nat) : Int)), some (vi (mBy (gR (D.2.1 s) 0))), some (vi 0), some (vi (mWaitA X (stA tl (mS2 X tl (1 - dr) s (gR (D.2.1 s) 0) (mS1 s D))) (gR (D.2.1 s) 0 0) (((gR (D.2.1 s) 0 1).toNat : Nat) : Int) (gR (D.2.1 s) 0 6)))]) (st' := [vi ((s : Nat) : Int), vi (((mS2 X tl (1 - dr) s (gR (D.2.1 s) 0) (mS1 s D)).1 20) + (mWaitA X (stA tl (mS2 X tl (1 - dr) s (gR (D.2.1 s) 0) (mS1 s D))) (gR (D.2.1 s) 0 0) (((gR (D.2.1 s) 0 1).toNat : Nat) : Int) (gR (D.2.1 s) 0 6))), vr (A (3 + 2 * s)), vr (A 9)]) rfl ?_
                refine M.callV (qT_add l G hb A T tl fx X cl dr (mS2 X tl (1 - dr) s (gR (D.2.1 s) 0) (mS1 s D)) s (by omega) (by rw [mS2_2]; exact h0) (((mS2 X tl (1 - dr) s (gR (D.2.1 s) 0) (mS1 s D)).1 20) + (mWaitA X (stA tl (mS2 X tl (1 - dr) s (gR (D.2.1 s) 0) (mS1 s D))) (gR (D.2.1 s) 0 0) (((gR (D.2.1 s) 0 1).toNat : Nat) : Int) (gR (D.2.1 s) 0 6))) ((s : Nat) : Int)) cv_X1_182 cd_X4_addFirstOf rfl (st := []) rfl (iS_t hE700.1).1 (by decide) (by decide) rfl (Nat.zero_le _) (Nat.zero_le _) hE700 (fun r706 w707 q708 => ?_)
                obtain ⟨q708r, q708e, q708f⟩ := q708
                rw [q708r]
                have hE705 : isEn G hb A T tl fx X cl dr (mTimer X tl s (mS2 X tl (1 - dr) s (gR (D.2.1 s) 0) (mS1 s D))) w707 := by rw [← tmr_eq (X := X) (a0 := tl) (s := s) (D := (mS2 X tl (1 - dr) s (gR (D.2.1 s) 0) (mS1 s D))) (kd := (gR (D.2.1 s) 0) 0) (bl := (((gR (D.2.1 s) 0 1).toNat : Nat) : Int)) (tr := (gR (D.2.1 s) 0) 6) (by rw [mS2_2]; rfl) (by rw [mS2_2]; exact Int.toNat_of_nonneg hr1.1) (by rw [mS2_2]; rfl)]; exact q708e
                have hF705 : FrE A w w707 := FrE.tr hF700 q708f
                refine M.run 2 (pc' := 271) (lv' := [some (vr (A 13)), some (vi ((s : Nat) : Int)), some (vr (A (3 + 2 * s))), some (vi (gR (D.2.1 s) 0 0)), some (vi (((gR (D.2.1 s) 0 1).toNat : Nat) : Int)), some (vi (mBy (gR (D.2.1 s) 0))), some (vi 0), some (vi (mWaitA X (stA tl (mS2 X tl (1 - dr) s (gR (D.2.1 s) 0) (mS1 s D))) (gR (D.2.1 s) 0 0) (((gR (D.2.1 s) 0 1).toNat : Nat) : Int) (gR (D.2.1 s) 0 6)))]) (st' := [vi 0, vr (A (3 + 2 * s))]) rfl ?_
                refine M.callV (qL_rem l G hb A T tl fx X cl dr (mTimer X tl s (mS2 X tl (1 - dr) s (gR (D.2.1 s) 0) (mS1 s D))) s (by omega) 0 (by rw [mTimer_2, mS2_2]; exact h0)) cv_X1_106 cd_X4_remove rfl (st := []) rfl (iS_l hE705.1 (s := s) (by omega)).1 (by decide) (by decide) rfl (Nat.zero_le _) (Nat.zero_le _) hE705 (fun r711 w712 q713 => ?_)
                obtain ⟨q713r, q713e, q713f⟩ := q713
                rw [q713r]
                have hE710 : isEn G hb A T tl fx X cl dr (mSend X tl (1 - dr) s D) w712 := by unfold mSend mS3; rw [if_pos hcd]; exact q713e
                have hF710 : FrE A w w712 := FrE.tr hF705 q713f
                exact M.vret rfl (Nat.zero_le _) (Nat.zero_le _) ⟨rfl, (by unfold mSnd; rw [if_pos h0]; exact hE710), hF710⟩
              · skip
                refine M.run 2 (pc' := 218) (lv' := [some (vr (A 13)), some (vi ((s : Nat) : Int)), some (vr (A (3 + 2 * s))), some (vi (gR (D.2.1 s) 0 0)), some (vi (((gR (D.2.1 s) 0 1).toNat : Nat) : Int)), some (vi (mBy (gR (D.2.1 s) 0))), some (vi 0), none]) (st' := [vi 3, vi (gR (D.2.1 s) 0 0)]) rfl ?_
                refine M.icmp_ne (tgt := 269) rfl (qI (by omega)) (qI (by decide)) (by decide) (fun h218 => ?_) (fun h218 => ?_)
                · skip
                  have hcd : ¬ (((gR (D.2.1 s) 0) 0 = 0 ∧ 0 < (gR (D.2.1 s) 0) 2) ∨ (gR (D.2.1 s) 0) 0 = 1 ∨ (gR (D.2.1 s) 0) 0 = 3) := by omega
                  refine M.run 2 (pc' := 271) (lv' := [some (vr (A 13)), some (vi ((s : Nat) : Int)), some (vr (A (3 + 2 * s))), some (vi (gR (D.2.1 s) 0 0)), some (vi (((gR (D.2.1 s) 0 1).toNat : Nat) : Int)), some (vi (mBy (gR (D.2.1 s) 0))), some (vi 0), none]) (st' := [vi 0, vr (A (3 + 2 * s))]) rfl ?_
                  refine M.callV (qL_rem l G hb A T tl fx X cl dr (mS2 X tl (1 - dr) s (gR (D.2.1 s) 0) (mS1 s D)) s (by omega) 0 (by rw [mS2_2]; exact h0)) cv_X1_106 cd_X4_remove rfl (st := []) rfl (iS_l hE628.1 (s := s) (by omega)).1 (by decide) (by decide) rfl (Nat.zero_le _) (Nat.zero_le _) hE628 (fun r716 w717 q718 => ?_)
                  obtain ⟨q718r, q718e, q718f⟩ := q718
                  rw [q718r]
                  have hE715 : isEn G hb A T tl fx X cl dr (mSend X tl (1 - dr) s D) w717 := by unfold mSend mS3; rw [if_neg hcd]; exact q718e
                  have hF715 : FrE A w w717 := FrE.tr hF628 q718f
                  exact M.vret rfl (Nat.zero_le _) (Nat.zero_le _) ⟨rfl, (by unfold mSnd; rw [if_pos h0]; exact hE715), hF715⟩
                · skip
                  have hcd : ((gR (D.2.1 s) 0) 0 = 0 ∧ 0 < (gR (D.2.1 s) 0) 2) ∨ (gR (D.2.1 s) 0) 0 = 1 ∨ (gR (D.2.1 s) 0) 0 = 3 := Or.inr (Or.inr (by omega))
                  refine M.run 1 (pc' := 222) (lv' := [some (vr (A 13)), some (vi ((s : Nat) : Int)), some (vr (A (3 + 2 * s))), some (vi (gR (D.2.1 s) 0 0)), some (vi (((gR (D.2.1 s) 0 1).toNat : Nat) : Int)), some (vi (mBy (gR (D.2.1 s) 0))), some (vi 0), none]) (st' := [vr (A 13)]) rfl ?_
                  refine M.get fl_X1_24 rfl hE628.2.2.1 (kf := 2) (v := vr (A 14)) rfl ?_
                  refine M.run 1 (pc' := 226) (lv' := [some (vr (A 13)), some (vi ((s : Nat) : Int)), some (vr (A (3 + 2 * s))), some (vi (gR (D.2.1 s) 0 0)), some (vi (((gR (D.2.1 s) 0 1).toNat : Nat) : Int)), some (vi (mBy (gR (D.2.1 s) 0))), some (vi 0), none]) (st' := [vr (A 13), vr (A 14)]) rfl ?_
                  refine M.get fl_X1_9 rfl hE628.2.2.1 (kf := 0) (v := vr (T 0)) rfl ?_
                  refine M.callV (qO_rul l G hb A T tl fx X cl dr (mS2 X tl (1 - dr) s (gR (D.2.1 s) 0) (mS1 s D)) hT) cv_X1_168 cd_X9_rulingText rfl (st := [vr (A 14)]) rfl hE628.2.1.1 (by decide) (by decide) rfl (Nat.zero_le _) (Nat.zero_le _) hE628 (fun r720 w721 q722 => ?_)
                  rw [q722.1, q722.2]
                  refine M.run 5 (pc' := 239) (lv' := [some (vr (A 13)), some (vi ((s : Nat) : Int)), some (vr (A (3 + 2 * s))), some (vi (gR (D.2.1 s) 0 0)), some (vi (((gR (D.2.1 s) 0 1).toNat : Nat) : Int)), some (vi (mBy (gR (D.2.1 s) 0))), some (vi 0), none]) (st' := [vi 6, vi 0, vr (A (3 + 2 * s)), vi (((gR (D.2.1 s) 0 1).toNat : Nat) : Int), vi (gR (D.2.1 s) 0 0), .inr (.inr (if 0 ≤ tl 2 ∧ tl 2 < tl 1 then rfO (fx (tl 2).toNat) else none)), vr (A 14)]) rfl ?_
                  refine M.callV (qL_get l G hb A T tl fx X cl dr (mS2 X tl (1 - dr) s (gR (D.2.1 s) 0) (mS1 s D)) s (by omega) 0 6 (by rw [mS2_2]; exact h0) (by decide)) cv_X1_88 cd_X4_get rfl (st := [vi (((gR (D.2.1 s) 0 1).toNat : Nat) : Int), vi (gR (D.2.1 s) 0 0), .inr (.inr (if 0 ≤ tl 2 ∧ tl 2 < tl 1 then rfO (fx (tl 2).toNat) else none)), vr (A 14)]) rfl (iS_l hE628.1 (s := s) (by omega)).1 (by decide) (by decide) rfl (Nat.zero_le _) (Nat.zero_le _) hE628 (fun r724 w725 q726 => ?_)
                  rw [q726.1, q726.2]
                  rw [show gR ((mS2 X tl (1 - dr) s (gR (D.2.1 s) 0) (mS1 s D)).2.1 s) 0 6 = gR (D.2.1 s) 0 6 from by rw [mS2_2]; rfl]
                  obtain ⟨_, _, _, _, _, hLa728⟩ := hE628.2.2.2.1
                  refine M.callV (qW_wai l G hb A T tl fx X cl dr (mS2 X tl (1 - dr) s (gR (D.2.1 s) 0) (mS1 s D)) hT (n + 31) hd633 (gR (D.2.1 s) 0 0) (((gR (D.2.1 s) 0 1).toNat : Nat) : Int) (gR (D.2.1 s) 0 6) (by omega) (by omega) (by omega) (tl 2) (by omega)) cv_X1_186 cd_X2_waiting rfl (st := []) rfl hLa728.1 (by decide) (by decide) rfl (Nat.zero_le _) (Nat.zero_le _) hE628 (fun r730 w731 q732 => ?_)
                  obtain ⟨q732r, q732e, q732f⟩ := q732
                  rw [q732r, show sayV (X (tl 2).toNat 1) (tl 2) (2 * tl 6 + 2) 1 60 (enA (stA tl (mS2 X tl (1 - dr) s (gR (D.2.1 s) 0) (mS1 s D))) (gR (D.2.1 s) 0 0) (((gR (D.2.1 s) 0 1).toNat : Nat) : Int) (gR (D.2.1 s) 0 6)) (ofA (stA tl (mS2 X tl (1 - dr) s (gR (D.2.1 s) 0) (mS1 s D)))) = mWaitA X (stA tl (mS2 X tl (1 - dr) s (gR (D.2.1 s) 0) (mS1 s D))) (gR (D.2.1 s) 0 0) (((gR (D.2.1 s) 0 1).toNat : Nat) : Int) (gR (D.2.1 s) 0 6) from rfl]
                  have hE729 : isEn G hb A T tl fx X cl dr (mS2 X tl (1 - dr) s (gR (D.2.1 s) 0) (mS1 s D)) w731 := q732e
                  have hF729 : FrE A w w731 := FrE.tr hF628 q732f
                  refine M.run 2 (pc' := 248) (lv' := [some (vr (A 13)), some (vi ((s : Nat) : Int)), some (vr (A (3 + 2 * s))), some (vi (gR (D.2.1 s) 0 0)), some (vi (((gR (D.2.1 s) 0 1).toNat : Nat) : Int)), some (vi (mBy (gR (D.2.1 s) 0))), some (vi 0), some (vi (mWaitA X (stA tl (mS2 X tl (1 - dr) s (gR (D.2.1 s) 0) (mS1 s D))) (gR (D.2.1 s) 0 0) (((gR (D.2.1 s) 0 1).toNat : Nat) : Int) (gR (D.2.1 s) 0 6)))]) (st' := [vr (A 13)]) rfl ?_
                  refine M.get fl_X1_15 rfl hE729.2.2.1 (kf := 1) (v := vr (A 0)) rfl ?_
                  refine M.get fl_X1_145 rfl hE729.1.1 (kf := 9) (v := vr (A 9)) rfl ?_
                  refine M.run 2 (pc' := 256) (lv' := [some (vr (A 13)), some (vi ((s : Nat) : Int)), some (vr (A (3 + 2 * s))), some (vi (gR (D.2.1 s) 0 0)), some (vi (((gR (D.2.1 s) 0 1).toNat : Nat) : Int)), some (vi (mBy (gR (D.2.1 s) 0))), some (vi 0), some (vi (mWaitA X (stA tl (mS2 X tl (1 - dr) s (gR (D.2.1 s) 0) (mS1 s D))) (gR (D.2.1 s) 0 0) (((gR (D.2.1 s) 0 1).toNat : Nat) : Int) (gR (D.2.1 s) 0 6)))]) (st' := [vr (A 13), vr (A (3 + 2 * s)), vr (A 9)]) rfl ?_
                  refine M.get fl_X1_15 rfl hE729.2.2.1 (kf := 1) (v := vr (A 0)) rfl ?_
                  refine M.get fl_X1_116 rfl hE729.1.1 (kf := 1) (v := vi ((mS2 X tl (1 - dr) s (gR (D.2.1 s) 0) (mS1 s D)).1 20)) rfl ?_
                  refine M.run 3 (pc' := 266) (lv' := [some (vr (A 13)), some (vi ((s : Nat) : Int)), some (vr (A (3 + 2 * s))), some (vi (gR (D.2.1 s) 0 0)), some (vi (((gR (D.2.1 s) 0 1).toNat : Nat) : Int)), some (vi (mBy (gR (D.2.1 s) 0))), some (vi 0), some (vi (mWaitA X (stA tl (mS2 X tl (1 - dr) s (gR (D.2.1 s) 0) (mS1 s D))) (gR (D.2.1 s) 0 0) (((gR (D.2.1 s) 0 1).toNat : Nat) : Int) (gR (D.2.1 s) 0 6)))]) (st' := [vi ((s : Nat) : Int), vi (((mS2 X tl (1 - dr) s (gR (D.2.1 s) 0) (mS1 s D)).1 20) + (mWaitA X (stA tl (mS2 X tl (1 - dr) s (gR (D.2.1 s) 0) (mS1 s D))) (gR (D.2.1 s) 0 0) (((gR (D.2.1 s) 0 1).toNat : Nat) : Int) (gR (D.2.1 s) 0 6))), vr (A (3 + 2 * s)), vr (A 9)]) rfl ?_
                  refine M.callV (qT_add l G hb A T tl fx X cl dr (mS2 X tl (1 - dr) s (gR (D.2.1 s) 0) (mS1 s D)) s (by omega) (by rw [mS2_2]; exact h0) (((mS2 X tl (1 - dr) s (gR (D.2.1 s) 0) (mS1 s D)).1 20) + (mWaitA X (stA tl (mS2 X tl (1 - dr) s (gR (D.2.1 s) 0) (mS1 s D))) (gR (D.2.1 s) 0 0) (((gR (D.2.1 s) 0 1).toNat : Nat) : Int) (gR (D.2.1 s) 0 6))) ((s : Nat) : Int)) cv_X1_182 cd_X4_addFirstOf rfl (st := []) rfl (iS_t hE729.1).1 (by decide) (by decide) rfl (Nat.zero_le _) (Nat.zero_le _) hE729 (fun r735 w736 q737 => ?_)
                  obtain ⟨q737r, q737e, q737f⟩ := q737
                  rw [q737r]
                  have hE734 : isEn G hb A T tl fx X cl dr (mTimer X tl s (mS2 X tl (1 - dr) s (gR (D.2.1 s) 0) (mS1 s D))) w736 := by rw [← tmr_eq (X := X) (a0 := tl) (s := s) (D := (mS2 X tl (1 - dr) s (gR (D.2.1 s) 0) (mS1 s D))) (kd := (gR (D.2.1 s) 0) 0) (bl := (((gR (D.2.1 s) 0 1).toNat : Nat) : Int)) (tr := (gR (D.2.1 s) 0) 6) (by rw [mS2_2]; rfl) (by rw [mS2_2]; exact Int.toNat_of_nonneg hr1.1) (by rw [mS2_2]; rfl)]; exact q737e
                  have hF734 : FrE A w w736 := FrE.tr hF729 q737f
                  refine M.run 2 (pc' := 271) (lv' := [some (vr (A 13)), some (vi ((s : Nat) : Int)), some (vr (A (3 + 2 * s))), some (vi (gR (D.2.1 s) 0 0)), some (vi (((gR (D.2.1 s) 0 1).toNat : Nat) : Int)), some (vi (mBy (gR (D.2.1 s) 0))), some (vi 0), some (vi (mWaitA X (stA tl (mS2 X tl (1 - dr) s (gR (D.2.1 s) 0) (mS1 s D))) (gR (D.2.1 s) 0 0) (((gR (D.2.1 s) 0 1).toNat : Nat) : Int) (gR (D.2.1 s) 0 6)))]) (st' := [vi 0, vr (A (3 + 2 * s))]) rfl ?_
                  refine M.callV (qL_rem l G hb A T tl fx X cl dr (mTimer X tl s (mS2 X tl (1 - dr) s (gR (D.2.1 s) 0) (mS1 s D))) s (by omega) 0 (by rw [mTimer_2, mS2_2]; exact h0)) cv_X1_106 cd_X4_remove rfl (st := []) rfl (iS_l hE734.1 (s := s) (by omega)).1 (by decide) (by decide) rfl (Nat.zero_le _) (Nat.zero_le _) hE734 (fun r740 w741 q742 => ?_)
                  obtain ⟨q742r, q742e, q742f⟩ := q742
                  rw [q742r]
                  have hE739 : isEn G hb A T tl fx X cl dr (mSend X tl (1 - dr) s D) w741 := by unfold mSend mS3; rw [if_pos hcd]; exact q742e
                  have hF739 : FrE A w w741 := FrE.tr hF734 q742f
                  exact M.vret rfl (Nat.zero_le _) (Nat.zero_le _) ⟨rfl, (by unfold mSnd; rw [if_pos h0]; exact hE739), hF739⟩
            · skip
              refine M.run 4 (pc' := 208) (lv' := [some (vr (A 13)), some (vi ((s : Nat) : Int)), some (vr (A (3 + 2 * s))), some (vi (gR (D.2.1 s) 0 0)), some (vi (((gR (D.2.1 s) 0 1).toNat : Nat) : Int)), some (vi (mBy (gR (D.2.1 s) 0))), some (vi 1), none]) (st' := [vi 1]) rfl ?_
              refine M.if_ne (tgt := 221) rfl (qI (by decide)) (by decide) (fun _ => ?_) (fun q => absurd q (by decide))
              have hcd : ((gR (D.2.1 s) 0) 0 = 0 ∧ 0 < (gR (D.2.1 s) 0) 2) ∨ (gR (D.2.1 s) 0) 0 = 1 ∨ (gR (D.2.1 s) 0) 0 = 3 := Or.inl ⟨by omega, by omega⟩
              refine M.run 1 (pc' := 222) (lv' := [some (vr (A 13)), some (vi ((s : Nat) : Int)), some (vr (A (3 + 2 * s))), some (vi (gR (D.2.1 s) 0 0)), some (vi (((gR (D.2.1 s) 0 1).toNat : Nat) : Int)), some (vi (mBy (gR (D.2.1 s) 0))), some (vi 1), none]) (st' := [vr (A 13)]) rfl ?_
              refine M.get fl_X1_24 rfl hE628.2.2.1 (kf := 2) (v := vr (A 14)) rfl ?_
              refine M.run 1 (pc' := 226) (lv' := [some (vr (A 13)), some (vi ((s : Nat) : Int)), some (vr (A (3 + 2 * s))), some (vi (gR (D.2.1 s) 0 0)), some (vi (((gR (D.2.1 s) 0 1).toNat : Nat) : Int)), some (vi (mBy (gR (D.2.1 s) 0))), some (vi 1), none]) (st' := [vr (A 13), vr (A 14)]) rfl ?_
              refine M.get fl_X1_9 rfl hE628.2.2.1 (kf := 0) (v := vr (T 0)) rfl ?_
              refine M.callV (qO_rul l G hb A T tl fx X cl dr (mS2 X tl (1 - dr) s (gR (D.2.1 s) 0) (mS1 s D)) hT) cv_X1_168 cd_X9_rulingText rfl (st := [vr (A 14)]) rfl hE628.2.1.1 (by decide) (by decide) rfl (Nat.zero_le _) (Nat.zero_le _) hE628 (fun r744 w745 q746 => ?_)
              rw [q746.1, q746.2]
              refine M.run 5 (pc' := 239) (lv' := [some (vr (A 13)), some (vi ((s : Nat) : Int)), some (vr (A (3 + 2 * s))), some (vi (gR (D.2.1 s) 0 0)), some (vi (((gR (D.2.1 s) 0 1).toNat : Nat) : Int)), some (vi (mBy (gR (D.2.1 s) 0))), some (vi 1), none]) (st' := [vi 6, vi 0, vr (A (3 + 2 * s)), vi (((gR (D.2.1 s) 0 1).toNat : Nat) : Int), vi (gR (D.2.1 s) 0 0), .inr (.inr (if 0 ≤ tl 2 ∧ tl 2 < tl 1 then rfO (fx (tl 2).toNat) else none)), vr (A 14)]) rfl ?_
              refine M.callV (qL_get l G hb A T tl fx X cl dr (mS2 X tl (1 - dr) s (gR (D.2.1 s) 0) (mS1 s D)) s (by omega) 0 6 (by rw [mS2_2]; exact h0) (by decide)) cv_X1_88 cd_X4_get rfl (st := [vi (((gR (D.2.1 s) 0 1).toNat : Nat) : Int), vi (gR (D.2.1 s) 0 0), .inr (.inr (if 0 ≤ tl 2 ∧ tl 2 < tl 1 then rfO (fx (tl 2).toNat) else none)), vr (A 14)]) rfl (iS_l hE628.1 (s := s) (by omega)).1 (by decide) (by decide) rfl (Nat.zero_le _) (Nat.zero_le _) hE628 (fun r748 w749 q750 => ?_)
              rw [q750.1, q750.2]
              rw [show gR ((mS2 X tl (1 - dr) s (gR (D.2.1 s) 0) (mS1 s D)).2.1 s) 0 6 = gR (D.2.1 s) 0 6 from by rw [mS2_2]; rfl]
              obtain ⟨_, _, _, _, _, hLa752⟩ := hE628.2.2.2.1
              refine M.callV (qW_wai l G hb A T tl fx X cl dr (mS2 X tl (1 - dr) s (gR (D.2.1 s) 0) (mS1 s D)) hT (n + 31) hd633 (gR (D.2.1 s) 0 0) (((gR (D.2.1 s) 0 1).toNat : Nat) : Int) (gR (D.2.1 s) 0 6) (by omega) (by omega) (by omega) (tl 2) (by omega)) cv_X1_186 cd_X2_waiting rfl (st := []) rfl hLa752.1 (by decide) (by decide) rfl (Nat.zero_le _) (Nat.zero_le _) hE628 (fun r754 w755 q756 => ?_)
              obtain ⟨q756r, q756e, q756f⟩ := q756
              rw [q756r, show sayV (X (tl 2).toNat 1) (tl 2) (2 * tl 6 + 2) 1 60 (enA (stA tl (mS2 X tl (1 - dr) s (gR (D.2.1 s) 0) (mS1 s D))) (gR (D.2.1 s) 0 0) (((gR (D.2.1 s) 0 1).toNat : Nat) : Int) (gR (D.2.1 s) 0 6)) (ofA (stA tl (mS2 X tl (1 - dr) s (gR (D.2.1 s) 0) (mS1 s D)))) = mWaitA X (stA tl (mS2 X tl (1 - dr) s (gR (D.2.1 s) 0) (mS1 s D))) (gR (D.2.1 s) 0 0) (((gR (D.2.1 s) 0 1).toNat : Nat) : Int) (gR (D.2.1 s) 0 6) from rfl]
              have hE753 : isEn G hb A T tl fx X cl dr (mS2 X tl (1 - dr) s (gR (D.2.1 s) 0) (mS1 s D)) w755 := q756e
              have hF753 : FrE A w w755 := FrE.tr hF628 q756f
              refine M.run 2 (pc' := 248) (lv' := [some (vr (A 13)), some (vi ((s : Nat) : Int)), some (vr (A (3 + 2 * s))), some (vi (gR (D.2.1 s) 0 0)), some (vi (((gR (D.2.1 s) 0 1).toNat : Nat) : Int)), some (vi (mBy (gR (D.2.1 s) 0))), some (vi 1), some (vi (mWaitA X (stA tl (mS2 X tl (1 - dr) s (gR (D.2.1 s) 0) (mS1 s D))) (gR (D.2.1 s) 0 0) (((gR (D.2.1 s) 0 1).toNat : Nat) : Int) (gR (D.2.1 s) 0 6)))]) (st' := [vr (A 13)]) rfl ?_
              refine M.get fl_X1_15 rfl hE753.2.2.1 (kf := 1) (v := vr (A 0)) rfl ?_
              refine M.get fl_X1_145 rfl hE753.1.1 (kf := 9) (v := vr (A 9)) rfl ?_
              refine M.run 2 (pc' := 256) (lv' := [some (vr (A 13)), some (vi ((s : Nat) : Int)), some (vr (A (3 + 2 * s))), some (vi (gR (D.2.1 s) 0 0)), some (vi (((gR (D.2.1 s) 0 1).toNat : Nat) : Int)), some (vi (mBy (gR (D.2.1 s) 0))), some (vi 1), some (vi (mWaitA X (stA tl (mS2 X tl (1 - dr) s (gR (D.2.1 s) 0) (mS1 s D))) (gR (D.2.1 s) 0 0) (((gR (D.2.1 s) 0 1).toNat : Nat) : Int) (gR (D.2.1 s) 0 6)))]) (st' := [vr (A 13), vr (A (3 + 2 * s)), vr (A 9)]) rfl ?_
              refine M.get fl_X1_15 rfl hE753.2.2.1 (kf := 1) (v := vr (A 0)) rfl ?_
              refine M.get fl_X1_116 rfl hE753.1.1 (kf := 1) (v := vi ((mS2 X tl (1 - dr) s (gR (D.2.1 s) 0) (mS1 s D)).1 20)) rfl ?_
              refine M.run 3 (pc' := 266) (lv' := [some (vr (A 13)), some (vi ((s : Nat) : Int)), some (vr (A (3 + 2 * s))), some (vi (gR (D.2.1 s) 0 0)), some (vi (((gR (D.2.1 s) 0 1).toNat : Nat) : Int)), some (vi (mBy (gR (D.2.1 s) 0))), some (vi 1), some (vi (mWaitA X (stA tl (mS2 X tl (1 - dr) s (gR (D.2.1 s) 0) (mS1 s D))) (gR (D.2.1 s) 0 0) (((gR (D.2.1 s) 0 1).toNat : Nat) : Int) (gR (D.2.1 s) 0 6)))]) (st' := [vi ((s : Nat) : Int), vi (((mS2 X tl (1 - dr) s (gR (D.2.1 s) 0) (mS1 s D)).1 20) + (mWaitA X (stA tl (mS2 X tl (1 - dr) s (gR (D.2.1 s) 0) (mS1 s D))) (gR (D.2.1 s) 0 0) (((gR (D.2.1 s) 0 1).toNat : Nat) : Int) (gR (D.2.1 s) 0 6))), vr (A (3 + 2 * s)), vr (A 9)]) rfl ?_
              refine M.callV (qT_add l G hb A T tl fx X cl dr (mS2 X tl (1 - dr) s (gR (D.2.1 s) 0) (mS1 s D)) s (by omega) (by rw [mS2_2]; exact h0) (((mS2 X tl (1 - dr) s (gR (D.2.1 s) 0) (mS1 s D)).1 20) + (mWaitA X (stA tl (mS2 X tl (1 - dr) s (gR (D.2.1 s) 0) (mS1 s D))) (gR (D.2.1 s) 0 0) (((gR (D.2.1 s) 0 1).toNat : Nat) : Int) (gR (D.2.1 s) 0 6))) ((s : Nat) : Int)) cv_X1_182 cd_X4_addFirstOf rfl (st := []) rfl (iS_t hE753.1).1 (by decide) (by decide) rfl (Nat.zero_le _) (Nat.zero_le _) hE753 (fun r759 w760 q761 => ?_)
              obtain ⟨q761r, q761e, q761f⟩ := q761
              rw [q761r]
              have hE758 : isEn G hb A T tl fx X cl dr (mTimer X tl s (mS2 X tl (1 - dr) s (gR (D.2.1 s) 0) (mS1 s D))) w760 := by rw [← tmr_eq (X := X) (a0 := tl) (s := s) (D := (mS2 X tl (1 - dr) s (gR (D.2.1 s) 0) (mS1 s D))) (kd := (gR (D.2.1 s) 0) 0) (bl := (((gR (D.2.1 s) 0 1).toNat : Nat) : Int)) (tr := (gR (D.2.1 s) 0) 6) (by rw [mS2_2]; rfl) (by rw [mS2_2]; exact Int.toNat_of_nonneg hr1.1) (by rw [mS2_2]; rfl)]; exact q761e
              have hF758 : FrE A w w760 := FrE.tr hF753 q761f
              refine M.run 2 (pc' := 271) (lv' := [some (vr (A 13)), some (vi ((s : Nat) : Int)), some (vr (A (3 + 2 * s))), some (vi (gR (D.2.1 s) 0 0)), some (vi (((gR (D.2.1 s) 0 1).toNat : Nat) : Int)), some (vi (mBy (gR (D.2.1 s) 0))), some (vi 1), some (vi (mWaitA X (stA tl (mS2 X tl (1 - dr) s (gR (D.2.1 s) 0) (mS1 s D))) (gR (D.2.1 s) 0 0) (((gR (D.2.1 s) 0 1).toNat : Nat) : Int) (gR (D.2.1 s) 0 6)))]) (st' := [vi 0, vr (A (3 + 2 * s))]) rfl ?_
              refine M.callV (qL_rem l G hb A T tl fx X cl dr (mTimer X tl s (mS2 X tl (1 - dr) s (gR (D.2.1 s) 0) (mS1 s D))) s (by omega) 0 (by rw [mTimer_2, mS2_2]; exact h0)) cv_X1_106 cd_X4_remove rfl (st := []) rfl (iS_l hE758.1 (s := s) (by omega)).1 (by decide) (by decide) rfl (Nat.zero_le _) (Nat.zero_le _) hE758 (fun r764 w765 q766 => ?_)
              obtain ⟨q766r, q766e, q766f⟩ := q766
              rw [q766r]
              have hE763 : isEn G hb A T tl fx X cl dr (mSend X tl (1 - dr) s D) w765 := by unfold mSend mS3; rw [if_pos hcd]; exact q766e
              have hF763 : FrE A w w765 := FrE.tr hF758 q766f
              exact M.vret rfl (Nat.zero_le _) (Nat.zero_le _) ⟨rfl, (by unfold mSnd; rw [if_pos h0]; exact hE763), hF763⟩
        · skip
          refine M.run 1 (pc' := 121) (lv' := [some (vr (A 13)), some (vi ((s : Nat) : Int)), some (vr (A (3 + 2 * s))), some (vi (gR (D.2.1 s) 0 0)), some (vi (((gR (D.2.1 s) 0 1).toNat : Nat) : Int)), some (vi (mBy (gR (D.2.1 s) 0))), none, none]) (st' := [vr (A 13)]) rfl ?_
          refine M.get fl_X1_15 rfl hE623.2.2.1 (kf := 1) (v := vr (A 0)) rfl ?_
          refine M.run 1 (pc' := 125) (lv' := [some (vr (A 13)), some (vi ((s : Nat) : Int)), some (vr (A (3 + 2 * s))), some (vi (gR (D.2.1 s) 0 0)), some (vi (((gR (D.2.1 s) 0 1).toNat : Nat) : Int)), some (vi (mBy (gR (D.2.1 s) 0))), none, none]) (st' := [vr (A 0), vr (A 0)]) rfl ?_
          refine M.get fl_X1_176 rfl hE623.1.1 (kf := 4) (v := vi ((mAnew (mS1 s D)).1 22)) rfl ?_
          refine M.run 2 (pc' := 130) (lv' := [some (vr (A 13)), some (vi ((s : Nat) : Int)), some (vr (A (3 + 2 * s))), some (vi (gR (D.2.1 s) 0 0)), some (vi (((gR (D.2.1 s) 0 1).toNat : Nat) : Int)), some (vi (mBy (gR (D.2.1 s) 0))), none, none]) (st' := [vi (((mAnew (mS1 s D)).1 22) + 1), vr (A 0)]) rfl ?_
          refine M.put fl_X1_176 rfl (hE623.1.1) rfl rfl (Nat.le_of_ble_eq_true rfl) ?_
          obtain ⟨hE768, hFf768⟩ := isEn_n (k := 22) (kf := 4) (v := ((mAnew (mS1 s D)).1 22) + 1) hE623 (by decide)
          have hF768 : FrE A w (up w625 (A 0) (Ob 5 ([vi ((mAnew (mS1 s D)).1 18), vi ((mAnew (mS1 s D)).1 20), vi ((mAnew (mS1 s D)).1 19), vi ((mAnew (mS1 s D)).1 21), vi ((mAnew (mS1 s D)).1 22), vr (A 1), vr (A 3), vr (A 5), vr (A 7), vr (A 9), vr (A 11)].set 4 (vi (((mAnew (mS1 s D)).1 22) + 1))))) := FrE.tr hF623 hFf768
          generalize up w625 (A 0) (Ob 5 ([vi ((mAnew (mS1 s D)).1 18), vi ((mAnew (mS1 s D)).1 20), vi ((mAnew (mS1 s D)).1 19), vi ((mAnew (mS1 s D)).1 21), vi ((mAnew (mS1 s D)).1 22), vr (A 1), vr (A 3), vr (A 5), vr (A 7), vr (A 9), vr (A 11)].set 4 (vi (((mAnew (mS1 s D)).1 22) + 1)))) = w768 at hE768 hF768 ⊢
          refine M.run 1 (pc' := 134) (lv' := [some (vr (A 13)), some (vi ((s : Nat) : Int)), some (vr (A (3 + 2 * s))), some (vi (gR (D.2.1 s) 0 0)), some (vi (((gR (D.2.1 s) 0 1).toNat : Nat) : Int)), some (vi (mBy (gR (D.2.1 s) 0))), none, none]) (st' := [vr (A 13)]) rfl ?_
          refine M.get fl_X1_15 rfl hE768.2.2.1 (kf := 1) (v := vr (A 0)) rfl ?_
          refine M.get fl_X1_58 rfl hE768.1.1 (kf := 10) (v := vr (A 11)) rfl ?_
          refine M.run 1 (pc' := 141) (lv' := [some (vr (A 13)), some (vi ((s : Nat) : Int)), some (vr (A (3 + 2 * s))), some (vi (gR (D.2.1 s) 0 0)), some (vi (((gR (D.2.1 s) 0 1).toNat : Nat) : Int)), some (vi (mBy (gR (D.2.1 s) 0))), none, none]) (st' := [vr (A 13), vr (A 11)]) rfl ?_
          refine M.get fl_X1_15 rfl hE768.2.2.1 (kf := 1) (v := vr (A 0)) rfl ?_
          refine M.get fl_X1_61 rfl hE768.1.1 (kf := 0) (v := vi ((mS 22 (((mAnew (mS1 s D)).1 22) + 1) (mAnew (mS1 s D))).1 18)) rfl ?_
          rw [show (mS 22 ((mAnew (mS1 s D)).1 22 + 1) (mAnew (mS1 s D))).1 18 = (mAnew (mS1 s D)).1 18 from mS_o (by decide)]
          refine M.run 3 (pc' := 151) (lv' := [some (vr (A 13)), some (vi ((s : Nat) : Int)), some (vr (A (3 + 2 * s))), some (vi (gR (D.2.1 s) 0 0)), some (vi (((gR (D.2.1 s) 0 1).toNat : Nat) : Int)), some (vi (mBy (gR (D.2.1 s) 0))), none, none]) (st' := [vi (gR (D.2.1 s) 0 0), vi (((gR (D.2.1 s) 0 1).toNat : Nat) : Int), vi 4, vi ((mAnew (mS1 s D)).1 18), vr (A 11)]) rfl ?_
          refine M.callV (qK_note l G hb A T tl fx X cl dr (mS 22 (((mAnew (mS1 s D)).1 22) + 1) (mAnew (mS1 s D))) ((mAnew (mS1 s D)).1 18) 4 (((gR (D.2.1 s) 0 1).toNat : Nat) : Int) (gR (D.2.1 s) 0 0)) cv_X1_64 cd_X4_addNote rfl (st := []) rfl (iS_k hE768.1).1 (by decide) (by decide) rfl (Nat.zero_le _) (Nat.zero_le _) hE768 (fun r770 w771 q772 => ?_)
          obtain ⟨q772r, q772e, q772f⟩ := q772
          rw [q772r]
          have hE769 : isEn G hb A T tl fx X cl dr (mS2 X tl (1 - dr) s (gR (D.2.1 s) 0) (mS1 s D)) w771 := by unfold mS2; rw [if_pos (by omega), if_pos (by omega)]; exact q772e
          have hF769 : FrE A w w771 := FrE.tr hF768 q772f
          refine M.run 1 (pc' := 186) (lv' := [some (vr (A 13)), some (vi ((s : Nat) : Int)), some (vr (A (3 + 2 * s))), some (vi (gR (D.2.1 s) 0 0)), some (vi (((gR (D.2.1 s) 0 1).toNat : Nat) : Int)), some (vi (mBy (gR (D.2.1 s) 0))), none, none]) (st' := []) rfl ?_
          have hd774 : Dok (n + 31) (mS2 X tl (1 - dr) s (gR (D.2.1 s) 0) (mS1 s D)) := hd2
          refine M.run 1 (pc' := 187) (lv' := [some (vr (A 13)), some (vi ((s : Nat) : Int)), some (vr (A (3 + 2 * s))), some (vi (gR (D.2.1 s) 0 0)), some (vi (((gR (D.2.1 s) 0 1).toNat : Nat) : Int)), some (vi (mBy (gR (D.2.1 s) 0))), none, none]) (st' := [vi (gR (D.2.1 s) 0 0)]) rfl ?_
          refine M.if_ne (tgt := 203) rfl (qI (by omega)) (by decide) (fun h187 => ?_) (fun h187 => ?_)
          · skip
            refine M.run 3 (pc' := 208) (lv' := [some (vr (A 13)), some (vi ((s : Nat) : Int)), some (vr (A (3 + 2 * s))), some (vi (gR (D.2.1 s) 0 0)), some (vi (((gR (D.2.1 s) 0 1).toNat : Nat) : Int)), some (vi (mBy (gR (D.2.1 s) 0))), some (vi 0), none]) (st' := [vi 0]) rfl ?_
            refine M.if_ne (tgt := 221) rfl (qI (by decide)) (by decide) (fun q => absurd q (by decide)) (fun _ => ?_)
            refine M.run 2 (pc' := 213) (lv' := [some (vr (A 13)), some (vi ((s : Nat) : Int)), some (vr (A (3 + 2 * s))), some (vi (gR (D.2.1 s) 0 0)), some (vi (((gR (D.2.1 s) 0 1).toNat : Nat) : Int)), some (vi (mBy (gR (D.2.1 s) 0))), some (vi 0), none]) (st' := [vi 1, vi (gR (D.2.1 s) 0 0)]) rfl ?_
            refine M.icmp_eq (tgt := 221) rfl (qI (by omega)) (qI (by decide)) (by decide) (fun h213 => ?_) (fun h213 => ?_)
            · skip
              have hcd : ((gR (D.2.1 s) 0) 0 = 0 ∧ 0 < (gR (D.2.1 s) 0) 2) ∨ (gR (D.2.1 s) 0) 0 = 1 ∨ (gR (D.2.1 s) 0) 0 = 3 := Or.inr (Or.inl (by omega))
              refine M.run 1 (pc' := 222) (lv' := [some (vr (A 13)), some (vi ((s : Nat) : Int)), some (vr (A (3 + 2 * s))), some (vi (gR (D.2.1 s) 0 0)), some (vi (((gR (D.2.1 s) 0 1).toNat : Nat) : Int)), some (vi (mBy (gR (D.2.1 s) 0))), some (vi 0), none]) (st' := [vr (A 13)]) rfl ?_
              refine M.get fl_X1_24 rfl hE769.2.2.1 (kf := 2) (v := vr (A 14)) rfl ?_
              refine M.run 1 (pc' := 226) (lv' := [some (vr (A 13)), some (vi ((s : Nat) : Int)), some (vr (A (3 + 2 * s))), some (vi (gR (D.2.1 s) 0 0)), some (vi (((gR (D.2.1 s) 0 1).toNat : Nat) : Int)), some (vi (mBy (gR (D.2.1 s) 0))), some (vi 0), none]) (st' := [vr (A 13), vr (A 14)]) rfl ?_
              refine M.get fl_X1_9 rfl hE769.2.2.1 (kf := 0) (v := vr (T 0)) rfl ?_
              refine M.callV (qO_rul l G hb A T tl fx X cl dr (mS2 X tl (1 - dr) s (gR (D.2.1 s) 0) (mS1 s D)) hT) cv_X1_168 cd_X9_rulingText rfl (st := [vr (A 14)]) rfl hE769.2.1.1 (by decide) (by decide) rfl (Nat.zero_le _) (Nat.zero_le _) hE769 (fun r775 w776 q777 => ?_)
              rw [q777.1, q777.2]
              refine M.run 5 (pc' := 239) (lv' := [some (vr (A 13)), some (vi ((s : Nat) : Int)), some (vr (A (3 + 2 * s))), some (vi (gR (D.2.1 s) 0 0)), some (vi (((gR (D.2.1 s) 0 1).toNat : Nat) : Int)), some (vi (mBy (gR (D.2.1 s) 0))), some (vi 0), none]) (st' := [vi 6, vi 0, vr (A (3 + 2 * s)), vi (((gR (D.2.1 s) 0 1).toNat : Nat) : Int), vi (gR (D.2.1 s) 0 0), .inr (.inr (if 0 ≤ tl 2 ∧ tl 2 < tl 1 then rfO (fx (tl 2).toNat) else none)), vr (A 14)]) rfl ?_
              refine M.callV (qL_get l G hb A T tl fx X cl dr (mS2 X tl (1 - dr) s (gR (D.2.1 s) 0) (mS1 s D)) s (by omega) 0 6 (by rw [mS2_2]; exact h0) (by decide)) cv_X1_88 cd_X4_get rfl (st := [vi (((gR (D.2.1 s) 0 1).toNat : Nat) : Int), vi (gR (D.2.1 s) 0 0), .inr (.inr (if 0 ≤ tl 2 ∧ tl 2 < tl 1 then rfO (fx (tl 2).toNat) else none)), vr (A 14)]) rfl (iS_l hE769.1 (s := s) (by omega)).1 (by decide) (by decide) rfl (Nat.zero_le _) (Nat.zero_le _) hE769 (fun r779 w780 q781 => ?_)
              rw [q781.1, q781.2]
              rw [show gR ((mS2 X tl (1 - dr) s (gR (D.2.1 s) 0) (mS1 s D)).2.1 s) 0 6 = gR (D.2.1 s) 0 6 from by rw [mS2_2]; rfl]
              obtain ⟨_, _, _, _, _, hLa783⟩ := hE769.2.2.2.1
              refine M.callV (qW_wai l G hb A T tl fx X cl dr (mS2 X tl (1 - dr) s (gR (D.2.1 s) 0) (mS1 s D)) hT (n + 31) hd774 (gR (D.2.1 s) 0 0) (((gR (D.2.1 s) 0 1).toNat : Nat) : Int) (gR (D.2.1 s) 0 6) (by omega) (by omega) (by omega) (tl 2) (by omega)) cv_X1_186 cd_X2_waiting rfl (st := []) rfl hLa783.1 (by decide) (by decide) rfl (Nat.zero_le _) (Nat.zero_le _) hE769 (fun r785 w786 q787 => ?_)
              obtain ⟨q787r, q787e, q787f⟩ := q787
              rw [q787r, show sayV (X (tl 2).toNat 1) (tl 2) (2 * tl 6 + 2) 1 60 (enA (stA tl (mS2 X tl (1 - dr) s (gR (D.2.1 s) 0) (mS1 s D))) (gR (D.2.1 s) 0 0) (((gR (D.2.1 s) 0 1).toNat : Nat) : Int) (gR (D.2.1 s) 0 6)) (ofA (stA tl (mS2 X tl (1 - dr) s (gR (D.2.1 s) 0) (mS1 s D)))) = mWaitA X (stA tl (mS2 X tl (1 - dr) s (gR (D.2.1 s) 0) (mS1 s D))) (gR (D.2.1 s) 0 0) (((gR (D.2.1 s) 0 1).toNat : Nat) : Int) (gR (D.2.1 s) 0 6) from rfl]
              have hE784 : isEn G hb A T tl fx X cl dr (mS2 X tl (1 - dr) s (gR (D.2.1 s) 0) (mS1 s D)) w786 := q787e
              have hF784 : FrE A w w786 := FrE.tr hF769 q787f
              refine M.run 2 (pc' := 248) (lv' := [some (vr (A 13)), some (vi ((s : Nat) : Int)), some (vr (A (3 + 2 * s))), some (vi (gR (D.2.1 s) 0 0)), some (vi (((gR (D.2.1 s) 0 1).toNat : Nat) : Int)), some (vi (mBy (gR (D.2.1 s) 0))), some (vi 0), some (vi (mWaitA X (stA tl (mS2 X tl (1 - dr) s (gR (D.2.1 s) 0) (mS1 s D))) (gR (D.2.1 s) 0 0) (((gR (D.2.1 s) 0 1).toNat : Nat) : Int) (gR (D.2.1 s) 0 6)))]) (st' := [vr (A 13)]) rfl ?_
              refine M.get fl_X1_15 rfl hE784.2.2.1 (kf := 1) (v := vr (A 0)) rfl ?_
              refine M.get fl_X1_145 rfl hE784.1.1 (kf := 9) (v := vr (A 9)) rfl ?_
              refine M.run 2 (pc' := 256) (lv' := [some (vr (A 13)), some (vi ((s : Nat) : Int)), some (vr (A (3 + 2 * s))), some (vi (gR (D.2.1 s) 0 0)), some (vi (((gR (D.2.1 s) 0 1).toNat : Nat) : Int)), some (vi (mBy (gR (D.2.1 s) 0))), some (vi 0), some (vi (mWaitA X (stA tl (mS2 X tl (1 - dr) s (gR (D.2.1 s) 0) (mS1 s D))) (gR (D.2.1 s) 0 0) (((gR (D.2.1 s) 0 1).toNat : Nat) : Int) (gR (D.2.1 s) 0 6)))]) (st' := [vr (A 13), vr (A (3 + 2 * s)), vr (A 9)]) rfl ?_
              refine M.get fl_X1_15 rfl hE784.2.2.1 (kf := 1) (v := vr (A 0)) rfl ?_
              refine M.get fl_X1_116 rfl hE784.1.1 (kf := 1) (v := vi ((mS2 X tl (1 - dr) s (gR (D.2.1 s) 0) (mS1 s D)).1 20)) rfl ?_
              refine M.run 3 (pc' := 266) (lv' := [some (vr (A 13)), some (vi ((s : Nat) : Int)), some (vr (A (3 + 2 * s))), some (vi (gR (D.2.1 s) 0 0)), some (vi (((gR (D.2.1 s) 0 1).toNat : Nat) : Int)), some (vi (mBy (gR (D.2.1 s) 0))), some (vi 0), some (vi (mWaitA X (stA tl (mS2 X tl (1 - dr) s (gR (D.2.1 s) 0) (mS1 s D))) (gR (D.2.1 s) 0 0) (((gR (D.2.1 s) 0 1).toNat : Nat) : Int) (gR (D.2.1 s) 0 6)))]) (st' := [vi ((s : Nat) : Int), vi (((mS2 X tl (1 - dr) s (gR (D.2.1 s) 0) (mS1 s D)).1 20) + (mWaitA X (stA tl (mS2 X tl (1 - dr) s (gR (D.2.1 s) 0) (mS1 s D))) (gR (D.2.1 s) 0 0) (((gR (D.2.1 s) 0 1).toNat : Nat) : Int) (gR (D.2.1 s) 0 6))), vr (A (3 + 2 * s)), vr (A 9)]) rfl ?_
              refine M.callV (qT_add l G hb A T tl fx X cl dr (mS2 X tl (1 - dr) s (gR (D.2.1 s) 0) (mS1 s D)) s (by omega) (by rw [mS2_2]; exact h0) (((mS2 X tl (1 - dr) s (gR (D.2.1 s) 0) (mS1 s D)).1 20) + (mWaitA X (stA tl (mS2 X tl (1 - dr) s (gR (D.2.1 s) 0) (mS1 s D))) (gR (D.2.1 s) 0 0) (((gR (D.2.1 s) 0 1).toNat : Nat) : Int) (gR (D.2.1 s) 0 6))) ((s : Nat) : Int)) cv_X1_182 cd_X4_addFirstOf rfl (st := []) rfl (iS_t hE784.1).1 (by decide) (by decide) rfl (Nat.zero_le _) (Nat.zero_le _) hE784 (fun r790 w791 q792 => ?_)
              obtain ⟨q792r, q792e, q792f⟩ := q792
              rw [q792r]
              have hE789 : isEn G hb A T tl fx X cl dr (mTimer X tl s (mS2 X tl (1 - dr) s (gR (D.2.1 s) 0) (mS1 s D))) w791 := by rw [← tmr_eq (X := X) (a0 := tl) (s := s) (D := (mS2 X tl (1 - dr) s (gR (D.2.1 s) 0) (mS1 s D))) (kd := (gR (D.2.1 s) 0) 0) (bl := (((gR (D.2.1 s) 0 1).toNat : Nat) : Int)) (tr := (gR (D.2.1 s) 0) 6) (by rw [mS2_2]; rfl) (by rw [mS2_2]; exact Int.toNat_of_nonneg hr1.1) (by rw [mS2_2]; rfl)]; exact q792e
              have hF789 : FrE A w w791 := FrE.tr hF784 q792f
              refine M.run 2 (pc' := 271) (lv' := [some (vr (A 13)), some (vi ((s : Nat) : Int)), some (vr (A (3 + 2 * s))), some (vi (gR (D.2.1 s) 0 0)), some (vi (((gR (D.2.1 s) 0 1).toNat : Nat) : Int)), some (vi (mBy (gR (D.2.1 s) 0))), some (vi 0), some (vi (mWaitA X (stA tl (mS2 X tl (1 - dr) s (gR (D.2.1 s) 0) (mS1 s D))) (gR (D.2.1 s) 0 0) (((gR (D.2.1 s) 0 1).toNat : Nat) : Int) (gR (D.2.1 s) 0 6)))]) (st' := [vi 0, vr (A (3 + 2 * s))]) rfl ?_
              refine M.callV (qL_rem l G hb A T tl fx X cl dr (mTimer X tl s (mS2 X tl (1 - dr) s (gR (D.2.1 s) 0) (mS1 s D))) s (by omega) 0 (by rw [mTimer_2, mS2_2]; exact h0)) cv_X1_106 cd_X4_remove rfl (st := []) rfl (iS_l hE789.1 (s := s) (by omega)).1 (by decide) (by decide) rfl (Nat.zero_le _) (Nat.zero_le _) hE789 (fun r795 w796 q797 => ?_)
              obtain ⟨q797r, q797e, q797f⟩ := q797
              rw [q797r]
              have hE794 : isEn G hb A T tl fx X cl dr (mSend X tl (1 - dr) s D) w796 := by unfold mSend mS3; rw [if_pos hcd]; exact q797e
              have hF794 : FrE A w w796 := FrE.tr hF789 q797f
              exact M.vret rfl (Nat.zero_le _) (Nat.zero_le _) ⟨rfl, (by unfold mSnd; rw [if_pos h0]; exact hE794), hF794⟩
            · skip
              refine M.run 2 (pc' := 218) (lv' := [some (vr (A 13)), some (vi ((s : Nat) : Int)), some (vr (A (3 + 2 * s))), some (vi (gR (D.2.1 s) 0 0)), some (vi (((gR (D.2.1 s) 0 1).toNat : Nat) : Int)), some (vi (mBy (gR (D.2.1 s) 0))), some (vi 0), none]) (st' := [vi 3, vi (gR (D.2.1 s) 0 0)]) rfl ?_
              refine M.icmp_ne (tgt := 269) rfl (qI (by omega)) (qI (by decide)) (by decide) (fun h218 => ?_) (fun h218 => ?_)
              · skip
                have hcd : ¬ (((gR (D.2.1 s) 0) 0 = 0 ∧ 0 < (gR (D.2.1 s) 0) 2) ∨ (gR (D.2.1 s) 0) 0 = 1 ∨ (gR (D.2.1 s) 0) 0 = 3) := by omega
                refine M.run 2 (pc' := 271) (lv' := [some (vr (A 13)), some (vi ((s : Nat) : Int)), some (vr (A (3 + 2 * s))), some (vi (gR (D.2.1 s) 0 0)), some (vi (((gR (D.2.1 s) 0 1).toNat : Nat) : Int)), some (vi (mBy (gR (D.2.1 s) 0))), some (vi 0), none]) (st' := [vi 0, vr (A (3 + 2 * s))]) rfl ?_
                refine M.callV (qL_rem l G hb A T tl fx X cl dr (mS2 X tl (1 - dr) s (gR (D.2.1 s) 0) (mS1 s D)) s (by omega) 0 (by rw [mS2_2]; exact h0)) cv_X1_106 cd_X4_remove rfl (st := []) rfl (iS_l hE769.1 (s := s) (by omega)).1 (by decide) (by decide) rfl (Nat.zero_le _) (Nat.zero_le _) hE769 (fun r800 w801 q802 => ?_)
                obtain ⟨q802r, q802e, q802f⟩ := q802
                rw [q802r]
                have hE799 : isEn G hb A T tl fx X cl dr (mSend X tl (1 - dr) s D) w801 := by unfold mSend mS3; rw [if_neg hcd]; exact q802e
                have hF799 : FrE A w w801 := FrE.tr hF769 q802f
                exact M.vret rfl (Nat.zero_le _) (Nat.zero_le _) ⟨rfl, (by unfold mSnd; rw [if_pos h0]; exact hE799), hF799⟩
              · skip
                have hcd : ((gR (D.2.1 s) 0) 0 = 0 ∧ 0 < (gR (D.2.1 s) 0) 2) ∨ (gR (D.2.1 s) 0) 0 = 1 ∨ (gR (D.2.1 s) 0) 0 = 3 := Or.inr (Or.inr (by omega))
                refine M.run 1 (pc' := 222) (lv' := [some (vr (A 13)), some (vi ((s : Nat) : Int)), some (vr (A (3 + 2 * s))), some (vi (gR (D.2.1 s) 0 0)), some (vi (((gR (D.2.1 s) 0 1).toNat : Nat) : Int)), some (vi (mBy (gR (D.2.1 s) 0))), some (vi 0), none]) (st' := [vr (A 13)]) rfl ?_
                refine M.get fl_X1_24 rfl hE769.2.2.1 (kf := 2) (v := vr (A 14)) rfl ?_
                refine M.run 1 (pc' := 226) (lv' := [some (vr (A 13)), some (vi ((s : Nat) : Int)), some (vr (A (3 + 2 * s))), some (vi (gR (D.2.1 s) 0 0)), some (vi (((gR (D.2.1 s) 0 1).toNat : Nat) : Int)), some (vi (mBy (gR (D.2.1 s) 0))), some (vi 0), none]) (st' := [vr (A 13), vr (A 14)]) rfl ?_
                refine M.get fl_X1_9 rfl hE769.2.2.1 (kf := 0) (v := vr (T 0)) rfl ?_
                refine M.callV (qO_rul l G hb A T tl fx X cl dr (mS2 X tl (1 - dr) s (gR (D.2.1 s) 0) (mS1 s D)) hT) cv_X1_168 cd_X9_rulingText rfl (st := [vr (A 14)]) rfl hE769.2.1.1 (by decide) (by decide) rfl (Nat.zero_le _) (Nat.zero_le _) hE769 (fun r804 w805 q806 => ?_)
                rw [q806.1, q806.2]
                refine M.run 5 (pc' := 239) (lv' := [some (vr (A 13)), some (vi ((s : Nat) : Int)), some (vr (A (3 + 2 * s))), some (vi (gR (D.2.1 s) 0 0)), some (vi (((gR (D.2.1 s) 0 1).toNat : Nat) : Int)), some (vi (mBy (gR (D.2.1 s) 0))), some (vi 0), none]) (st' := [vi 6, vi 0, vr (A (3 + 2 * s)), vi (((gR (D.2.1 s) 0 1).toNat : Nat) : Int), vi (gR (D.2.1 s) 0 0), .inr (.inr (if 0 ≤ tl 2 ∧ tl 2 < tl 1 then rfO (fx (tl 2).toNat) else none)), vr (A 14)]) rfl ?_
                refine M.callV (qL_get l G hb A T tl fx X cl dr (mS2 X tl (1 - dr) s (gR (D.2.1 s) 0) (mS1 s D)) s (by omega) 0 6 (by rw [mS2_2]; exact h0) (by decide)) cv_X1_88 cd_X4_get rfl (st := [vi (((gR (D.2.1 s) 0 1).toNat : Nat) : Int), vi (gR (D.2.1 s) 0 0), .inr (.inr (if 0 ≤ tl 2 ∧ tl 2 < tl 1 then rfO (fx (tl 2).toNat) else none)), vr (A 14)]) rfl (iS_l hE769.1 (s := s) (by omega)).1 (by decide) (by decide) rfl (Nat.zero_le _) (Nat.zero_le _) hE769 (fun r808 w809 q810 => ?_)
                rw [q810.1, q810.2]
                rw [show gR ((mS2 X tl (1 - dr) s (gR (D.2.1 s) 0) (mS1 s D)).2.1 s) 0 6 = gR (D.2.1 s) 0 6 from by rw [mS2_2]; rfl]
                obtain ⟨_, _, _, _, _, hLa812⟩ := hE769.2.2.2.1
                refine M.callV (qW_wai l G hb A T tl fx X cl dr (mS2 X tl (1 - dr) s (gR (D.2.1 s) 0) (mS1 s D)) hT (n + 31) hd774 (gR (D.2.1 s) 0 0) (((gR (D.2.1 s) 0 1).toNat : Nat) : Int) (gR (D.2.1 s) 0 6) (by omega) (by omega) (by omega) (tl 2) (by omega)) cv_X1_186 cd_X2_waiting rfl (st := []) rfl hLa812.1 (by decide) (by decide) rfl (Nat.zero_le _) (Nat.zero_le _) hE769 (fun r814 w815 q816 => ?_)
                obtain ⟨q816r, q816e, q816f⟩ := q816
                rw [q816r, show sayV (X (tl 2).toNat 1) (tl 2) (2 * tl 6 + 2) 1 60 (enA (stA tl (mS2 X tl (1 - dr) s (gR (D.2.1 s) 0) (mS1 s D))) (gR (D.2.1 s) 0 0) (((gR (D.2.1 s) 0 1).toNat : Nat) : Int) (gR (D.2.1 s) 0 6)) (ofA (stA tl (mS2 X tl (1 - dr) s (gR (D.2.1 s) 0) (mS1 s D)))) = mWaitA X (stA tl (mS2 X tl (1 - dr) s (gR (D.2.1 s) 0) (mS1 s D))) (gR (D.2.1 s) 0 0) (((gR (D.2.1 s) 0 1).toNat : Nat) : Int) (gR (D.2.1 s) 0 6) from rfl]
                have hE813 : isEn G hb A T tl fx X cl dr (mS2 X tl (1 - dr) s (gR (D.2.1 s) 0) (mS1 s D)) w815 := q816e
                have hF813 : FrE A w w815 := FrE.tr hF769 q816f
                refine M.run 2 (pc' := 248) (lv' := [some (vr (A 13)), some (vi ((s : Nat) : Int)), some (vr (A (3 + 2 * s))), some (vi (gR (D.2.1 s) 0 0)), some (vi (((gR (D.2.1 s) 0 1).toNat : Nat) : Int)), some (vi (mBy (gR (D.2.1 s) 0))), some (vi 0), some (vi (mWaitA X (stA tl (mS2 X tl (1 - dr) s (gR (D.2.1 s) 0) (mS1 s D))) (gR (D.2.1 s) 0 0) (((gR (D.2.1 s) 0 1).toNat : Nat) : Int) (gR (D.2.1 s) 0 6)))]) (st' := [vr (A 13)]) rfl ?_
                refine M.get fl_X1_15 rfl hE813.2.2.1 (kf := 1) (v := vr (A 0)) rfl ?_
                refine M.get fl_X1_145 rfl hE813.1.1 (kf := 9) (v := vr (A 9)) rfl ?_
                refine M.run 2 (pc' := 256) (lv' := [some (vr (A 13)), some (vi ((s : Nat) : Int)), some (vr (A (3 + 2 * s))), some (vi (gR (D.2.1 s) 0 0)), some (vi (((gR (D.2.1 s) 0 1).toNat : Nat) : Int)), some (vi (mBy (gR (D.2.1 s) 0))), some (vi 0), some (vi (mWaitA X (stA tl (mS2 X tl (1 - dr) s (gR (D.2.1 s) 0) (mS1 s D))) (gR (D.2.1 s) 0 0) (((gR (D.2.1 s) 0 1).toNat : Nat) : Int) (gR (D.2.1 s) 0 6)))]) (st' := [vr (A 13), vr (A (3 + 2 * s)), vr (A 9)]) rfl ?_
                refine M.get fl_X1_15 rfl hE813.2.2.1 (kf := 1) (v := vr (A 0)) rfl ?_
                refine M.get fl_X1_116 rfl hE813.1.1 (kf := 1) (v := vi ((mS2 X tl (1 - dr) s (gR (D.2.1 s) 0) (mS1 s D)).1 20)) rfl ?_
                refine M.run 3 (pc' := 266) (lv' := [some (vr (A 13)), some (vi ((s : Nat) : Int)), some (vr (A (3 + 2 * s))), some (vi (gR (D.2.1 s) 0 0)), some (vi (((gR (D.2.1 s) 0 1).toNat : Nat) : Int)), some (vi (mBy (gR (D.2.1 s) 0))), some (vi 0), some (vi (mWaitA X (stA tl (mS2 X tl (1 - dr) s (gR (D.2.1 s) 0) (mS1 s D))) (gR (D.2.1 s) 0 0) (((gR (D.2.1 s) 0 1).toNat : Nat) : Int) (gR (D.2.1 s) 0 6)))]) (st' := [vi ((s : Nat) : Int), vi (((mS2 X tl (1 - dr) s (gR (D.2.1 s) 0) (mS1 s D)).1 20) + (mWaitA X (stA tl (mS2 X tl (1 - dr) s (gR (D.2.1 s) 0) (mS1 s D))) (gR (D.2.1 s) 0 0) (((gR (D.2.1 s) 0 1).toNat : Nat) : Int) (gR (D.2.1 s) 0 6))), vr (A (3 + 2 * s)), vr (A 9)]) rfl ?_
                refine M.callV (qT_add l G hb A T tl fx X cl dr (mS2 X tl (1 - dr) s (gR (D.2.1 s) 0) (mS1 s D)) s (by omega) (by rw [mS2_2]; exact h0) (((mS2 X tl (1 - dr) s (gR (D.2.1 s) 0) (mS1 s D)).1 20) + (mWaitA X (stA tl (mS2 X tl (1 - dr) s (gR (D.2.1 s) 0) (mS1 s D))) (gR (D.2.1 s) 0 0) (((gR (D.2.1 s) 0 1).toNat : Nat) : Int) (gR (D.2.1 s) 0 6))) ((s : Nat) : Int)) cv_X1_182 cd_X4_addFirstOf rfl (st := []) rfl (iS_t hE813.1).1 (by decide) (by decide) rfl (Nat.zero_le _) (Nat.zero_le _) hE813 (fun r819 w820 q821 => ?_)
                obtain ⟨q821r, q821e, q821f⟩ := q821
                rw [q821r]
                have hE818 : isEn G hb A T tl fx X cl dr (mTimer X tl s (mS2 X tl (1 - dr) s (gR (D.2.1 s) 0) (mS1 s D))) w820 := by rw [← tmr_eq (X := X) (a0 := tl) (s := s) (D := (mS2 X tl (1 - dr) s (gR (D.2.1 s) 0) (mS1 s D))) (kd := (gR (D.2.1 s) 0) 0) (bl := (((gR (D.2.1 s) 0 1).toNat : Nat) : Int)) (tr := (gR (D.2.1 s) 0) 6) (by rw [mS2_2]; rfl) (by rw [mS2_2]; exact Int.toNat_of_nonneg hr1.1) (by rw [mS2_2]; rfl)]; exact q821e
                have hF818 : FrE A w w820 := FrE.tr hF813 q821f
                refine M.run 2 (pc' := 271) (lv' := [some (vr (A 13)), some (vi ((s : Nat) : Int)), some (vr (A (3 + 2 * s))), some (vi (gR (D.2.1 s) 0 0)), some (vi (((gR (D.2.1 s) 0 1).toNat : Nat) : Int)), some (vi (mBy (gR (D.2.1 s) 0))), some (vi 0), some (vi (mWaitA X (stA tl (mS2 X tl (1 - dr) s (gR (D.2.1 s) 0) (mS1 s D))) (gR (D.2.1 s) 0 0) (((gR (D.2.1 s) 0 1).toNat : Nat) : Int) (gR (D.2.1 s) 0 6)))]) (st' := [vi 0, vr (A (3 + 2 * s))]) rfl ?_
                refine M.callV (qL_rem l G hb A T tl fx X cl dr (mTimer X tl s (mS2 X tl (1 - dr) s (gR (D.2.1 s) 0) (mS1 s D))) s (by omega) 0 (by rw [mTimer_2, mS2_2]; exact h0)) cv_X1_106 cd_X4_remove rfl (st := []) rfl (iS_l hE818.1 (s := s) (by omega)).1 (by decide) (by decide) rfl (Nat.zero_le _) (Nat.zero_le _) hE818 (fun r824 w825 q826 => ?_)
                obtain ⟨q826r, q826e, q826f⟩ := q826
                rw [q826r]
                have hE823 : isEn G hb A T tl fx X cl dr (mSend X tl (1 - dr) s D) w825 := by unfold mSend mS3; rw [if_pos hcd]; exact q826e
                have hF823 : FrE A w w825 := FrE.tr hF818 q826f
                exact M.vret rfl (Nat.zero_le _) (Nat.zero_le _) ⟨rfl, (by unfold mSnd; rw [if_pos h0]; exact hE823), hF823⟩
          · skip
            refine M.run 3 (pc' := 193) (lv' := [some (vr (A 13)), some (vi ((s : Nat) : Int)), some (vr (A (3 + 2 * s))), some (vi (gR (D.2.1 s) 0 0)), some (vi (((gR (D.2.1 s) 0 1).toNat : Nat) : Int)), some (vi (mBy (gR (D.2.1 s) 0))), none, none]) (st' := [vi 2, vi 0, vr (A (3 + 2 * s))]) rfl ?_
            refine M.callV (qL_get l G hb A T tl fx X cl dr (mS2 X tl (1 - dr) s (gR (D.2.1 s) 0) (mS1 s D)) s (by omega) 0 2 (by rw [mS2_2]; exact h0) (by decide)) cv_X1_88 cd_X4_get rfl (st := []) rfl (iS_l hE769.1 (s := s) (by omega)).1 (by decide) (by decide) rfl (Nat.zero_le _) (Nat.zero_le _) hE769 (fun r828 w829 q830 => ?_)
            rw [q830.1, q830.2]
            rw [show gR ((mS2 X tl (1 - dr) s (gR (D.2.1 s) 0) (mS1 s D)).2.1 s) 0 2 = gR (D.2.1 s) 0 2 from by rw [mS2_2]; rfl]
            refine M.if_le (tgt := 203) rfl (qI (by omega)) (by decide) (fun h196 => ?_) (fun h196 => ?_)
            · skip
              refine M.run 3 (pc' := 208) (lv' := [some (vr (A 13)), some (vi ((s : Nat) : Int)), some (vr (A (3 + 2 * s))), some (vi (gR (D.2.1 s) 0 0)), some (vi (((gR (D.2.1 s) 0 1).toNat : Nat) : Int)), some (vi (mBy (gR (D.2.1 s) 0))), some (vi 0), none]) (st' := [vi 0]) rfl ?_
              refine M.if_ne (tgt := 221) rfl (qI (by decide)) (by decide) (fun q => absurd q (by decide)) (fun _ => ?_)
              refine M.run 2 (pc' := 213) (lv' := [some (vr (A 13)), some (vi ((s : Nat) : Int)), some (vr (A (3 + 2 * s))), some (vi (gR (D.2.1 s) 0 0)), some (vi (((gR (D.2.1 s) 0 1).toNat : Nat) : Int)), some (vi (mBy (gR (D.2.1 s) 0))), some (vi 0), none]) (st' := [vi 1, vi (gR (D.2.1 s) 0 0)]) rfl ?_
              refine M.icmp_eq (tgt := 221) rfl (qI (by omega)) (qI (by decide)) (by decide) (fun h213 => ?_) (fun h213 => ?_)
              · skip
                have hcd : ((gR (D.2.1 s) 0) 0 = 0 ∧ 0 < (gR (D.2.1 s) 0) 2) ∨ (gR (D.2.1 s) 0) 0 = 1 ∨ (gR (D.2.1 s) 0) 0 = 3 := Or.inr (Or.inl (by omega))
                refine M.run 1 (pc' := 222) (lv' := [some (vr (A 13)), some (vi ((s : Nat) : Int)), some (vr (A (3 + 2 * s))), some (vi (gR (D.2.1 s) 0 0)), some (vi (((gR (D.2.1 s) 0 1).toNat : Nat) : Int)), some (vi (mBy (gR (D.2.1 s) 0))), some (vi 0), none]) (st' := [vr (A 13)]) rfl ?_
                refine M.get fl_X1_24 rfl hE769.2.2.1 (kf := 2) (v := vr (A 14)) rfl ?_
                refine M.run 1 (pc' := 226) (lv' := [some (vr (A 13)), some (vi ((s : Nat) : Int)), some (vr (A (3 + 2 * s))), some (vi (gR (D.2.1 s) 0 0)), some (vi (((gR (D.2.1 s) 0 1).toNat : Nat) : Int)), some (vi (mBy (gR (D.2.1 s) 0))), some (vi 0), none]) (st' := [vr (A 13), vr (A 14)]) rfl ?_
                refine M.get fl_X1_9 rfl hE769.2.2.1 (kf := 0) (v := vr (T 0)) rfl ?_
                refine M.callV (qO_rul l G hb A T tl fx X cl dr (mS2 X tl (1 - dr) s (gR (D.2.1 s) 0) (mS1 s D)) hT) cv_X1_168 cd_X9_rulingText rfl (st := [vr (A 14)]) rfl hE769.2.1.1 (by decide) (by decide) rfl (Nat.zero_le _) (Nat.zero_le _) hE769 (fun r832 w833 q834 => ?_)
                rw [q834.1, q834.2]
                refine M.run 5 (pc' := 239) (lv' := [some (vr (A 13)), some (vi ((s : Nat) : Int)), some (vr (A (3 + 2 * s))), some (vi (gR (D.2.1 s) 0 0)), some (vi (((gR (D.2.1 s) 0 1).toNat : Nat) : Int)), some (vi (mBy (gR (D.2.1 s) 0))), some (vi 0), none]) (st' := [vi 6, vi 0, vr (A (3 + 2 * s)), vi (((gR (D.2.1 s) 0 1).toNat : Nat) : Int), vi (gR (D.2.1 s) 0 0), .inr (.inr (if 0 ≤ tl 2 ∧ tl 2 < tl 1 then rfO (fx (tl 2).toNat) else none)), vr (A 14)]) rfl ?_
                refine M.callV (qL_get l G hb A T tl fx X cl dr (mS2 X tl (1 - dr) s (gR (D.2.1 s) 0) (mS1 s D)) s (by omega) 0 6 (by rw [mS2_2]; exact h0) (by decide)) cv_X1_88 cd_X4_get rfl (st := [vi (((gR (D.2.1 s) 0 1).toNat : Nat) : Int), vi (gR (D.2.1 s) 0 0), .inr (.inr (if 0 ≤ tl 2 ∧ tl 2 < tl 1 then rfO (fx (tl 2).toNat) else none)), vr (A 14)]) rfl (iS_l hE769.1 (s := s) (by omega)).1 (by decide) (by decide) rfl (Nat.zero_le _) (Nat.zero_le _) hE769 (fun r836 w837 q838 => ?_)
                rw [q838.1, q838.2]
                rw [show gR ((mS2 X tl (1 - dr) s (gR (D.2.1 s) 0) (mS1 s D)).2.1 s) 0 6 = gR (D.2.1 s) 0 6 from by rw [mS2_2]; rfl]
                obtain ⟨_, _, _, _, _, hLa840⟩ := hE769.2.2.2.1
                refine M.callV (qW_wai l G hb A T tl fx X cl dr (mS2 X tl (1 - dr) s (gR (D.2.1 s) 0) (mS1 s D)) hT (n + 31) hd774 (gR (D.2.1 s) 0 0) (((gR (D.2.1 s) 0 1).toNat : Nat) : Int) (gR (D.2.1 s) 0 6) (by omega) (by omega) (by omega) (tl 2) (by omega)) cv_X1_186 cd_X2_waiting rfl (st := []) rfl hLa840.1 (by decide) (by decide) rfl (Nat.zero_le _) (Nat.zero_le _) hE769 (fun r842 w843 q844 => ?_)
                obtain ⟨q844r, q844e, q844f⟩ := q844
                rw [q844r, show sayV (X (tl 2).toNat 1) (tl 2) (2 * tl 6 + 2) 1 60 (enA (stA tl (mS2 X tl (1 - dr) s (gR (D.2.1 s) 0) (mS1 s D))) (gR (D.2.1 s) 0 0) (((gR (D.2.1 s) 0 1).toNat : Nat) : Int) (gR (D.2.1 s) 0 6)) (ofA (stA tl (mS2 X tl (1 - dr) s (gR (D.2.1 s) 0) (mS1 s D)))) = mWaitA X (stA tl (mS2 X tl (1 - dr) s (gR (D.2.1 s) 0) (mS1 s D))) (gR (D.2.1 s) 0 0) (((gR (D.2.1 s) 0 1).toNat : Nat) : Int) (gR (D.2.1 s) 0 6) from rfl]
                have hE841 : isEn G hb A T tl fx X cl dr (mS2 X tl (1 - dr) s (gR (D.2.1 s) 0) (mS1 s D)) w843 := q844e
                have hF841 : FrE A w w843 := FrE.tr hF769 q844f
                refine M.run 2 (pc' := 248) (lv' := [some (vr (A 13)), some (vi ((s : Nat) : Int)), some (vr (A (3 + 2 * s))), some (vi (gR (D.2.1 s) 0 0)), some (vi (((gR (D.2.1 s) 0 1).toNat : Nat) : Int)), some (vi (mBy (gR (D.2.1 s) 0))), some (vi 0), some (vi (mWaitA X (stA tl (mS2 X tl (1 - dr) s (gR (D.2.1 s) 0) (mS1 s D))) (gR (D.2.1 s) 0 0) (((gR (D.2.1 s) 0 1).toNat : Nat) : Int) (gR (D.2.1 s) 0 6)))]) (st' := [vr (A 13)]) rfl ?_
                refine M.get fl_X1_15 rfl hE841.2.2.1 (kf := 1) (v := vr (A 0)) rfl ?_
                refine M.get fl_X1_145 rfl hE841.1.1 (kf := 9) (v := vr (A 9)) rfl ?_
                refine M.run 2 (pc' := 256) (lv' := [some (vr (A 13)), some (vi ((s : Nat) : Int)), some (vr (A (3 + 2 * s))), some (vi (gR (D.2.1 s) 0 0)), some (vi (((gR (D.2.1 s) 0 1).toNat : Nat) : Int)), some (vi (mBy (gR (D.2.1 s) 0))), some (vi 0), some (vi (mWaitA X (stA tl (mS2 X tl (1 - dr) s (gR (D.2.1 s) 0) (mS1 s D))) (gR (D.2.1 s) 0 0) (((gR (D.2.1 s) 0 1).toNat : Nat) : Int) (gR (D.2.1 s) 0 6)))]) (st' := [vr (A 13), vr (A (3 + 2 * s)), vr (A 9)]) rfl ?_
                refine M.get fl_X1_15 rfl hE841.2.2.1 (kf := 1) (v := vr (A 0)) rfl ?_
                refine M.get fl_X1_116 rfl hE841.1.1 (kf := 1) (v := vi ((mS2 X tl (1 - dr) s (gR (D.2.1 s) 0) (mS1 s D)).1 20)) rfl ?_
                refine M.run 3 (pc' := 266) (lv' := [some (vr (A 13)), some (vi ((s : Nat) : Int)), some (vr (A (3 + 2 * s))), some (vi (gR (D.2.1 s) 0 0)), some (vi (((gR (D.2.1 s) 0 1).toNat : Nat) : Int)), some (vi (mBy (gR (D.2.1 s) 0))), some (vi 0), some (vi (mWaitA X (stA tl (mS2 X tl (1 - dr) s (gR (D.2.1 s) 0) (mS1 s D))) (gR (D.2.1 s) 0 0) (((gR (D.2.1 s) 0 1).toNat : Nat) : Int) (gR (D.2.1 s) 0 6)))]) (st' := [vi ((s : Nat) : Int), vi (((mS2 X tl (1 - dr) s (gR (D.2.1 s) 0) (mS1 s D)).1 20) + (mWaitA X (stA tl (mS2 X tl (1 - dr) s (gR (D.2.1 s) 0) (mS1 s D))) (gR (D.2.1 s) 0 0) (((gR (D.2.1 s) 0 1).toNat : Nat) : Int) (gR (D.2.1 s) 0 6))), vr (A (3 + 2 * s)), vr (A 9)]) rfl ?_
                refine M.callV (qT_add l G hb A T tl fx X cl dr (mS2 X tl (1 - dr) s (gR (D.2.1 s) 0) (mS1 s D)) s (by omega) (by rw [mS2_2]; exact h0) (((mS2 X tl (1 - dr) s (gR (D.2.1 s) 0) (mS1 s D)).1 20) + (mWaitA X (stA tl (mS2 X tl (1 - dr) s (gR (D.2.1 s) 0) (mS1 s D))) (gR (D.2.1 s) 0 0) (((gR (D.2.1 s) 0 1).toNat : Nat) : Int) (gR (D.2.1 s) 0 6))) ((s : Nat) : Int)) cv_X1_182 cd_X4_addFirstOf rfl (st := []) rfl (iS_t hE841.1).1 (by decide) (by decide) rfl (Nat.zero_le _) (Nat.zero_le _) hE841 (fun r847 w848 q849 => ?_)
                obtain ⟨q849r, q849e, q849f⟩ := q849
                rw [q849r]
                have hE846 : isEn G hb A T tl fx X cl dr (mTimer X tl s (mS2 X tl (1 - dr) s (gR (D.2.1 s) 0) (mS1 s D))) w848 := by rw [← tmr_eq (X := X) (a0 := tl) (s := s) (D := (mS2 X tl (1 - dr) s (gR (D.2.1 s) 0) (mS1 s D))) (kd := (gR (D.2.1 s) 0) 0) (bl := (((gR (D.2.1 s) 0 1).toNat : Nat) : Int)) (tr := (gR (D.2.1 s) 0) 6) (by rw [mS2_2]; rfl) (by rw [mS2_2]; exact Int.toNat_of_nonneg hr1.1) (by rw [mS2_2]; rfl)]; exact q849e
                have hF846 : FrE A w w848 := FrE.tr hF841 q849f
                refine M.run 2 (pc' := 271) (lv' := [some (vr (A 13)), some (vi ((s : Nat) : Int)), some (vr (A (3 + 2 * s))), some (vi (gR (D.2.1 s) 0 0)), some (vi (((gR (D.2.1 s) 0 1).toNat : Nat) : Int)), some (vi (mBy (gR (D.2.1 s) 0))), some (vi 0), some (vi (mWaitA X (stA tl (mS2 X tl (1 - dr) s (gR (D.2.1 s) 0) (mS1 s D))) (gR (D.2.1 s) 0 0) (((gR (D.2.1 s) 0 1).toNat : Nat) : Int) (gR (D.2.1 s) 0 6)))]) (st' := [vi 0, vr (A (3 + 2 * s))]) rfl ?_
                refine M.callV (qL_rem l G hb A T tl fx X cl dr (mTimer X tl s (mS2 X tl (1 - dr) s (gR (D.2.1 s) 0) (mS1 s D))) s (by omega) 0 (by rw [mTimer_2, mS2_2]; exact h0)) cv_X1_106 cd_X4_remove rfl (st := []) rfl (iS_l hE846.1 (s := s) (by omega)).1 (by decide) (by decide) rfl (Nat.zero_le _) (Nat.zero_le _) hE846 (fun r852 w853 q854 => ?_)
                obtain ⟨q854r, q854e, q854f⟩ := q854
                rw [q854r]
                have hE851 : isEn G hb A T tl fx X cl dr (mSend X tl (1 - dr) s D) w853 := by unfold mSend mS3; rw [if_pos hcd]; exact q854e
                have hF851 : FrE A w w853 := FrE.tr hF846 q854f
                exact M.vret rfl (Nat.zero_le _) (Nat.zero_le _) ⟨rfl, (by unfold mSnd; rw [if_pos h0]; exact hE851), hF851⟩
              · skip
                refine M.run 2 (pc' := 218) (lv' := [some (vr (A 13)), some (vi ((s : Nat) : Int)), some (vr (A (3 + 2 * s))), some (vi (gR (D.2.1 s) 0 0)), some (vi (((gR (D.2.1 s) 0 1).toNat : Nat) : Int)), some (vi (mBy (gR (D.2.1 s) 0))), some (vi 0), none]) (st' := [vi 3, vi (gR (D.2.1 s) 0 0)]) rfl ?_
                refine M.icmp_ne (tgt := 269) rfl (qI (by omega)) (qI (by decide)) (by decide) (fun h218 => ?_) (fun h218 => ?_)
                · skip
                  have hcd : ¬ (((gR (D.2.1 s) 0) 0 = 0 ∧ 0 < (gR (D.2.1 s) 0) 2) ∨ (gR (D.2.1 s) 0) 0 = 1 ∨ (gR (D.2.1 s) 0) 0 = 3) := by omega
                  refine M.run 2 (pc' := 271) (lv' := [some (vr (A 13)), some (vi ((s : Nat) : Int)), some (vr (A (3 + 2 * s))), some (vi (gR (D.2.1 s) 0 0)), some (vi (((gR (D.2.1 s) 0 1).toNat : Nat) : Int)), some (vi (mBy (gR (D.2.1 s) 0))), some (vi 0), none]) (st' := [vi 0, vr (A (3 + 2 * s))]) rfl ?_
                  refine M.callV (qL_rem l G hb A T tl fx X cl dr (mS2 X tl (1 - dr) s (gR (D.2.1 s) 0) (mS1 s D)) s (by omega) 0 (by rw [mS2_2]; exact h0)) cv_X1_106 cd_X4_remove rfl (st := []) rfl (iS_l hE769.1 (s := s) (by omega)).1 (by decide) (by decide) rfl (Nat.zero_le _) (Nat.zero_le _) hE769 (fun r857 w858 q859 => ?_)
                  obtain ⟨q859r, q859e, q859f⟩ := q859
                  rw [q859r]
                  have hE856 : isEn G hb A T tl fx X cl dr (mSend X tl (1 - dr) s D) w858 := by unfold mSend mS3; rw [if_neg hcd]; exact q859e
                  have hF856 : FrE A w w858 := FrE.tr hF769 q859f
                  exact M.vret rfl (Nat.zero_le _) (Nat.zero_le _) ⟨rfl, (by unfold mSnd; rw [if_pos h0]; exact hE856), hF856⟩
                · skip
                  have hcd : ((gR (D.2.1 s) 0) 0 = 0 ∧ 0 < (gR (D.2.1 s) 0) 2) ∨ (gR (D.2.1 s) 0) 0 = 1 ∨ (gR (D.2.1 s) 0) 0 = 3 := Or.inr (Or.inr (by omega))
                  refine M.run 1 (pc' := 222) (lv' := [some (vr (A 13)), some (vi ((s : Nat) : Int)), some (vr (A (3 + 2 * s))), some (vi (gR (D.2.1 s) 0 0)), some (vi (((gR (D.2.1 s) 0 1).toNat : Nat) : Int)), some (vi (mBy (gR (D.2.1 s) 0))), some (vi 0), none]) (st' := [vr (A 13)]) rfl ?_
                  refine M.get fl_X1_24 rfl hE769.2.2.1 (kf := 2) (v := vr (A 14)) rfl ?_
                  refine M.run 1 (pc' := 226) (lv' := [some (vr (A 13)), some (vi ((s : Nat) : Int)), some (vr (A (3 + 2 * s))), some (vi (gR (D.2.1 s) 0 0)), some (vi (((gR (D.2.1 s) 0 1).toNat : Nat) : Int)), some (vi (mBy (gR (D.2.1 s) 0))), some (vi 0), none]) (st' := [vr (A 13), vr (A 14)]) rfl ?_
                  refine M.get fl_X1_9 rfl hE769.2.2.1 (kf := 0) (v := vr (T 0)) rfl ?_
                  refine M.callV (qO_rul l G hb A T tl fx X cl dr (mS2 X tl (1 - dr) s (gR (D.2.1 s) 0) (mS1 s D)) hT) cv_X1_168 cd_X9_rulingText rfl (st := [vr (A 14)]) rfl hE769.2.1.1 (by decide) (by decide) rfl (Nat.zero_le _) (Nat.zero_le _) hE769 (fun r861 w862 q863 => ?_)
                  rw [q863.1, q863.2]
                  refine M.run 5 (pc' := 239) (lv' := [some (vr (A 13)), some (vi ((s : Nat) : Int)), some (vr (A (3 + 2 * s))), some (vi (gR (D.2.1 s) 0 0)), some (vi (((gR (D.2.1 s) 0 1).toNat : Nat) : Int)), some (vi (mBy (gR (D.2.1 s) 0))), some (vi 0), none]) (st' := [vi 6, vi 0, vr (A (3 + 2 * s)), vi (((gR (D.2.1 s) 0 1).toNat : Nat) : Int), vi (gR (D.2.1 s) 0 0), .inr (.inr (if 0 ≤ tl 2 ∧ tl 2 < tl 1 then rfO (fx (tl 2).toNat) else none)), vr (A 14)]) rfl ?_
                  refine M.callV (qL_get l G hb A T tl fx X cl dr (mS2 X tl (1 - dr) s (gR (D.2.1 s) 0) (mS1 s D)) s (by omega) 0 6 (by rw [mS2_2]; exact h0) (by decide)) cv_X1_88 cd_X4_get rfl (st := [vi (((gR (D.2.1 s) 0 1).toNat : Nat) : Int), vi (gR (D.2.1 s) 0 0), .inr (.inr (if 0 ≤ tl 2 ∧ tl 2 < tl 1 then rfO (fx (tl 2).toNat) else none)), vr (A 14)]) rfl (iS_l hE769.1 (s := s) (by omega)).1 (by decide) (by decide) rfl (Nat.zero_le _) (Nat.zero_le _) hE769 (fun r865 w866 q867 => ?_)
                  rw [q867.1, q867.2]
                  rw [show gR ((mS2 X tl (1 - dr) s (gR (D.2.1 s) 0) (mS1 s D)).2.1 s) 0 6 = gR (D.2.1 s) 0 6 from by rw [mS2_2]; rfl]
                  obtain ⟨_, _, _, _, _, hLa869⟩ := hE769.2.2.2.1
                  refine M.callV (qW_wai l G hb A T tl fx X cl dr (mS2 X tl (1 - dr) s (gR (D.2.1 s) 0) (mS1 s D)) hT (n + 31) hd774 (gR (D.2.1 s) 0 0) (((gR (D.2.1 s) 0 1).toNat : Nat) : Int) (gR (D.2.1 s) 0 6) (by omega) (by omega) (by omega) (tl 2) (by omega)) cv_X1_186 cd_X2_waiting rfl (st := []) rfl hLa869.1 (by decide) (by decide) rfl (Nat.zero_le _) (Nat.zero_le _) hE769 (fun r871 w872 q873 => ?_)
                  obtain ⟨q873r, q873e, q873f⟩ := q873
                  rw [q873r, show sayV (X (tl 2).toNat 1) (tl 2) (2 * tl 6 + 2) 1 60 (enA (stA tl (mS2 X tl (1 - dr) s (gR (D.2.1 s) 0) (mS1 s D))) (gR (D.2.1 s) 0 0) (((gR (D.2.1 s) 0 1).toNat : Nat) : Int) (gR (D.2.1 s) 0 6)) (ofA (stA tl (mS2 X tl (1 - dr) s (gR (D.2.1 s) 0) (mS1 s D)))) = mWaitA X (stA tl (mS2 X tl (1 - dr) s (gR (D.2.1 s) 0) (mS1 s D))) (gR (D.2.1 s) 0 0) (((gR (D.2.1 s) 0 1).toNat : Nat) : Int) (gR (D.2.1 s) 0 6) from rfl]
                  have hE870 : isEn G hb A T tl fx X cl dr (mS2 X tl (1 - dr) s (gR (D.2.1 s) 0) (mS1 s D)) w872 := q873e
                  have hF870 : FrE A w w872 := FrE.tr hF769 q873f
                  refine M.run 2 (pc' := 248) (lv' := [some (vr (A 13)), some (vi ((s : Nat) : Int)), some (vr (A (3 + 2 * s))), some (vi (gR (D.2.1 s) 0 0)), some (vi (((gR (D.2.1 s) 0 1).toNat : Nat) : Int)), some (vi (mBy (gR (D.2.1 s) 0))), some (vi 0), some (vi (mWaitA X (stA tl (mS2 X tl (1 - dr) s (gR (D.2.1 s) 0) (mS1 s D))) (gR (D.2.1 s) 0 0) (((gR (D.2.1 s) 0 1).toNat : Nat) : Int) (gR (D.2.1 s) 0 6)))]) (st' := [vr (A 13)]) rfl ?_
                  refine M.get fl_X1_15 rfl hE870.2.2.1 (kf := 1) (v := vr (A 0)) rfl ?_
                  refine M.get fl_X1_145 rfl hE870.1.1 (kf := 9) (v := vr (A 9)) rfl ?_
                  refine M.run 2 (pc' := 256) (lv' := [some (vr (A 13)), some (vi ((s : Nat) : Int)), some (vr (A (3 + 2 * s))), some (vi (gR (D.2.1 s) 0 0)), some (vi (((gR (D.2.1 s) 0 1).toNat : Nat) : Int)), some (vi (mBy (gR (D.2.1 s) 0))), some (vi 0), some (vi (mWaitA X (stA tl (mS2 X tl (1 - dr) s (gR (D.2.1 s) 0) (mS1 s D))) (gR (D.2.1 s) 0 0) (((gR (D.2.1 s) 0 1).toNat : Nat) : Int) (gR (D.2.1 s) 0 6)))]) (st' := [vr (A 13), vr (A (3 + 2 * s)), vr (A 9)]) rfl ?_
                  refine M.get fl_X1_15 rfl hE870.2.2.1 (kf := 1) (v := vr (A 0)) rfl ?_
                  refine M.get fl_X1_116 rfl hE870.1.1 (kf := 1) (v := vi ((mS2 X tl (1 - dr) s (gR (D.2.1 s) 0) (mS1 s D)).1 20)) rfl ?_
                  refine M.run 3 (pc' := 266) (lv' := [some (vr (A 13)), some (vi ((s : Nat) : Int)), some (vr (A (3 + 2 * s))), some (vi (gR (D.2.1 s) 0 0)), some (vi (((gR (D.2.1 s) 0 1).toNat : Nat) : Int)), some (vi (mBy (gR (D.2.1 s) 0))), some (vi 0), some (vi (mWaitA X (stA tl (mS2 X tl (1 - dr) s (gR (D.2.1 s) 0) (mS1 s D))) (gR (D.2.1 s) 0 0) (((gR (D.2.1 s) 0 1).toNat : Nat) : Int) (gR (D.2.1 s) 0 6)))]) (st' := [vi ((s : Nat) : Int), vi (((mS2 X tl (1 - dr) s (gR (D.2.1 s) 0) (mS1 s D)).1 20) + (mWaitA X (stA tl (mS2 X tl (1 - dr) s (gR (D.2.1 s) 0) (mS1 s D))) (gR (D.2.1 s) 0 0) (((gR (D.2.1 s) 0 1).toNat : Nat) : Int) (gR (D.2.1 s) 0 6))), vr (A (3 + 2 * s)), vr (A 9)]) rfl ?_
                  refine M.callV (qT_add l G hb A T tl fx X cl dr (mS2 X tl (1 - dr) s (gR (D.2.1 s) 0) (mS1 s D)) s (by omega) (by rw [mS2_2]; exact h0) (((mS2 X tl (1 - dr) s (gR (D.2.1 s) 0) (mS1 s D)).1 20) + (mWaitA X (stA tl (mS2 X tl (1 - dr) s (gR (D.2.1 s) 0) (mS1 s D))) (gR (D.2.1 s) 0 0) (((gR (D.2.1 s) 0 1).toNat : Nat) : Int) (gR (D.2.1 s) 0 6))) ((s : Nat) : Int)) cv_X1_182 cd_X4_addFirstOf rfl (st := []) rfl (iS_t hE870.1).1 (by decide) (by decide) rfl (Nat.zero_le _) (Nat.zero_le _) hE870 (fun r876 w877 q878 => ?_)
                  obtain ⟨q878r, q878e, q878f⟩ := q878
                  rw [q878r]
                  have hE875 : isEn G hb A T tl fx X cl dr (mTimer X tl s (mS2 X tl (1 - dr) s (gR (D.2.1 s) 0) (mS1 s D))) w877 := by rw [← tmr_eq (X := X) (a0 := tl) (s := s) (D := (mS2 X tl (1 - dr) s (gR (D.2.1 s) 0) (mS1 s D))) (kd := (gR (D.2.1 s) 0) 0) (bl := (((gR (D.2.1 s) 0 1).toNat : Nat) : Int)) (tr := (gR (D.2.1 s) 0) 6) (by rw [mS2_2]; rfl) (by rw [mS2_2]; exact Int.toNat_of_nonneg hr1.1) (by rw [mS2_2]; rfl)]; exact q878e
                  have hF875 : FrE A w w877 := FrE.tr hF870 q878f
                  refine M.run 2 (pc' := 271) (lv' := [some (vr (A 13)), some (vi ((s : Nat) : Int)), some (vr (A (3 + 2 * s))), some (vi (gR (D.2.1 s) 0 0)), some (vi (((gR (D.2.1 s) 0 1).toNat : Nat) : Int)), some (vi (mBy (gR (D.2.1 s) 0))), some (vi 0), some (vi (mWaitA X (stA tl (mS2 X tl (1 - dr) s (gR (D.2.1 s) 0) (mS1 s D))) (gR (D.2.1 s) 0 0) (((gR (D.2.1 s) 0 1).toNat : Nat) : Int) (gR (D.2.1 s) 0 6)))]) (st' := [vi 0, vr (A (3 + 2 * s))]) rfl ?_
                  refine M.callV (qL_rem l G hb A T tl fx X cl dr (mTimer X tl s (mS2 X tl (1 - dr) s (gR (D.2.1 s) 0) (mS1 s D))) s (by omega) 0 (by rw [mTimer_2, mS2_2]; exact h0)) cv_X1_106 cd_X4_remove rfl (st := []) rfl (iS_l hE875.1 (s := s) (by omega)).1 (by decide) (by decide) rfl (Nat.zero_le _) (Nat.zero_le _) hE875 (fun r881 w882 q883 => ?_)
                  obtain ⟨q883r, q883e, q883f⟩ := q883
                  rw [q883r]
                  have hE880 : isEn G hb A T tl fx X cl dr (mSend X tl (1 - dr) s D) w882 := by unfold mSend mS3; rw [if_pos hcd]; exact q883e
                  have hF880 : FrE A w w882 := FrE.tr hF875 q883f
                  exact M.vret rfl (Nat.zero_le _) (Nat.zero_le _) ⟨rfl, (by unfold mSnd; rw [if_pos h0]; exact hE880), hF880⟩
            · skip
              refine M.run 4 (pc' := 208) (lv' := [some (vr (A 13)), some (vi ((s : Nat) : Int)), some (vr (A (3 + 2 * s))), some (vi (gR (D.2.1 s) 0 0)), some (vi (((gR (D.2.1 s) 0 1).toNat : Nat) : Int)), some (vi (mBy (gR (D.2.1 s) 0))), some (vi 1), none]) (st' := [vi 1]) rfl ?_
              refine M.if_ne (tgt := 221) rfl (qI (by decide)) (by decide) (fun _ => ?_) (fun q => absurd q (by decide))
              have hcd : ((gR (D.2.1 s) 0) 0 = 0 ∧ 0 < (gR (D.2.1 s) 0) 2) ∨ (gR (D.2.1 s) 0) 0 = 1 ∨ (gR (D.2.1 s) 0) 0 = 3 := Or.inl ⟨by omega, by omega⟩
              refine M.run 1 (pc' := 222) (lv' := [some (vr (A 13)), some (vi ((s : Nat) : Int)), some (vr (A (3 + 2 * s))), some (vi (gR (D.2.1 s) 0 0)), some (vi (((gR (D.2.1 s) 0 1).toNat : Nat) : Int)), some (vi (mBy (gR (D.2.1 s) 0))), some (vi 1), none]) (st' := [vr (A 13)]) rfl ?_
              refine M.get fl_X1_24 rfl hE769.2.2.1 (kf := 2) (v := vr (A 14)) rfl ?_
              refine M.run 1 (pc' := 226) (lv' := [some (vr (A 13)), some (vi ((s : Nat) : Int)), some (vr (A (3 + 2 * s))), some (vi (gR (D.2.1 s) 0 0)), some (vi (((gR (D.2.1 s) 0 1).toNat : Nat) : Int)), some (vi (mBy (gR (D.2.1 s) 0))), some (vi 1), none]) (st' := [vr (A 13), vr (A 14)]) rfl ?_
              refine M.get fl_X1_9 rfl hE769.2.2.1 (kf := 0) (v := vr (T 0)) rfl ?_
              refine M.callV (qO_rul l G hb A T tl fx X cl dr (mS2 X tl (1 - dr) s (gR (D.2.1 s) 0) (mS1 s D)) hT) cv_X1_168 cd_X9_rulingText rfl (st := [vr (A 14)]) rfl hE769.2.1.1 (by decide) (by decide) rfl (Nat.zero_le _) (Nat.zero_le _) hE769 (fun r885 w886 q887 => ?_)
              rw [q887.1, q887.2]
              refine M.run 5 (pc' := 239) (lv' := [some (vr (A 13)), some (vi ((s : Nat) : Int)), some (vr (A (3 + 2 * s))), some (vi (gR (D.2.1 s) 0 0)), some (vi (((gR (D.2.1 s) 0 1).toNat : Nat) : Int)), some (vi (mBy (gR (D.2.1 s) 0))), some (vi 1), none]) (st' := [vi 6, vi 0, vr (A (3 + 2 * s)), vi (((gR (D.2.1 s) 0 1).toNat : Nat) : Int), vi (gR (D.2.1 s) 0 0), .inr (.inr (if 0 ≤ tl 2 ∧ tl 2 < tl 1 then rfO (fx (tl 2).toNat) else none)), vr (A 14)]) rfl ?_
              refine M.callV (qL_get l G hb A T tl fx X cl dr (mS2 X tl (1 - dr) s (gR (D.2.1 s) 0) (mS1 s D)) s (by omega) 0 6 (by rw [mS2_2]; exact h0) (by decide)) cv_X1_88 cd_X4_get rfl (st := [vi (((gR (D.2.1 s) 0 1).toNat : Nat) : Int), vi (gR (D.2.1 s) 0 0), .inr (.inr (if 0 ≤ tl 2 ∧ tl 2 < tl 1 then rfO (fx (tl 2).toNat) else none)), vr (A 14)]) rfl (iS_l hE769.1 (s := s) (by omega)).1 (by decide) (by decide) rfl (Nat.zero_le _) (Nat.zero_le _) hE769 (fun r889 w890 q891 => ?_)
              rw [q891.1, q891.2]
              rw [show gR ((mS2 X tl (1 - dr) s (gR (D.2.1 s) 0) (mS1 s D)).2.1 s) 0 6 = gR (D.2.1 s) 0 6 from by rw [mS2_2]; rfl]
              obtain ⟨_, _, _, _, _, hLa893⟩ := hE769.2.2.2.1
              refine M.callV (qW_wai l G hb A T tl fx X cl dr (mS2 X tl (1 - dr) s (gR (D.2.1 s) 0) (mS1 s D)) hT (n + 31) hd774 (gR (D.2.1 s) 0 0) (((gR (D.2.1 s) 0 1).toNat : Nat) : Int) (gR (D.2.1 s) 0 6) (by omega) (by omega) (by omega) (tl 2) (by omega)) cv_X1_186 cd_X2_waiting rfl (st := []) rfl hLa893.1 (by decide) (by decide) rfl (Nat.zero_le _) (Nat.zero_le _) hE769 (fun r895 w896 q897 => ?_)
              obtain ⟨q897r, q897e, q897f⟩ := q897
              rw [q897r, show sayV (X (tl 2).toNat 1) (tl 2) (2 * tl 6 + 2) 1 60 (enA (stA tl (mS2 X tl (1 - dr) s (gR (D.2.1 s) 0) (mS1 s D))) (gR (D.2.1 s) 0 0) (((gR (D.2.1 s) 0 1).toNat : Nat) : Int) (gR (D.2.1 s) 0 6)) (ofA (stA tl (mS2 X tl (1 - dr) s (gR (D.2.1 s) 0) (mS1 s D)))) = mWaitA X (stA tl (mS2 X tl (1 - dr) s (gR (D.2.1 s) 0) (mS1 s D))) (gR (D.2.1 s) 0 0) (((gR (D.2.1 s) 0 1).toNat : Nat) : Int) (gR (D.2.1 s) 0 6) from rfl]
              have hE894 : isEn G hb A T tl fx X cl dr (mS2 X tl (1 - dr) s (gR (D.2.1 s) 0) (mS1 s D)) w896 := q897e
              have hF894 : FrE A w w896 := FrE.tr hF769 q897f
              refine M.run 2 (pc' := 248) (lv' := [some (vr (A 13)), some (vi ((s : Nat) : Int)), some (vr (A (3 + 2 * s))), some (vi (gR (D.2.1 s) 0 0)), some (vi (((gR (D.2.1 s) 0 1).toNat : Nat) : Int)), some (vi (mBy (gR (D.2.1 s) 0))), some (vi 1), some (vi (mWaitA X (stA tl (mS2 X tl (1 - dr) s (gR (D.2.1 s) 0) (mS1 s D))) (gR (D.2.1 s) 0 0) (((gR (D.2.1 s) 0 1).toNat : Nat) : Int) (gR (D.2.1 s) 0 6)))]) (st' := [vr (A 13)]) rfl ?_
              refine M.get fl_X1_15 rfl hE894.2.2.1 (kf := 1) (v := vr (A 0)) rfl ?_
              refine M.get fl_X1_145 rfl hE894.1.1 (kf := 9) (v := vr (A 9)) rfl ?_
              refine M.run 2 (pc' := 256) (lv' := [some (vr (A 13)), some (vi ((s : Nat) : Int)), some (vr (A (3 + 2 * s))), some (vi (gR (D.2.1 s) 0 0)), some (vi (((gR (D.2.1 s) 0 1).toNat : Nat) : Int)), some (vi (mBy (gR (D.2.1 s) 0))), some (vi 1), some (vi (mWaitA X (stA tl (mS2 X tl (1 - dr) s (gR (D.2.1 s) 0) (mS1 s D))) (gR (D.2.1 s) 0 0) (((gR (D.2.1 s) 0 1).toNat : Nat) : Int) (gR (D.2.1 s) 0 6)))]) (st' := [vr (A 13), vr (A (3 + 2 * s)), vr (A 9)]) rfl ?_
              refine M.get fl_X1_15 rfl hE894.2.2.1 (kf := 1) (v := vr (A 0)) rfl ?_
              refine M.get fl_X1_116 rfl hE894.1.1 (kf := 1) (v := vi ((mS2 X tl (1 - dr) s (gR (D.2.1 s) 0) (mS1 s D)).1 20)) rfl ?_
              refine M.run 3 (pc' := 266) (lv' := [some (vr (A 13)), some (vi ((s : Nat) : Int)), some (vr (A (3 + 2 * s))), some (vi (gR (D.2.1 s) 0 0)), some (vi (((gR (D.2.1 s) 0 1).toNat : Nat) : Int)), some (vi (mBy (gR (D.2.1 s) 0))), some (vi 1), some (vi (mWaitA X (stA tl (mS2 X tl (1 - dr) s (gR (D.2.1 s) 0) (mS1 s D))) (gR (D.2.1 s) 0 0) (((gR (D.2.1 s) 0 1).toNat : Nat) : Int) (gR (D.2.1 s) 0 6)))]) (st' := [vi ((s : Nat) : Int), vi (((mS2 X tl (1 - dr) s (gR (D.2.1 s) 0) (mS1 s D)).1 20) + (mWaitA X (stA tl (mS2 X tl (1 - dr) s (gR (D.2.1 s) 0) (mS1 s D))) (gR (D.2.1 s) 0 0) (((gR (D.2.1 s) 0 1).toNat : Nat) : Int) (gR (D.2.1 s) 0 6))), vr (A (3 + 2 * s)), vr (A 9)]) rfl ?_
              refine M.callV (qT_add l G hb A T tl fx X cl dr (mS2 X tl (1 - dr) s (gR (D.2.1 s) 0) (mS1 s D)) s (by omega) (by rw [mS2_2]; exact h0) (((mS2 X tl (1 - dr) s (gR (D.2.1 s) 0) (mS1 s D)).1 20) + (mWaitA X (stA tl (mS2 X tl (1 - dr) s (gR (D.2.1 s) 0) (mS1 s D))) (gR (D.2.1 s) 0 0) (((gR (D.2.1 s) 0 1).toNat : Nat) : Int) (gR (D.2.1 s) 0 6))) ((s : Nat) : Int)) cv_X1_182 cd_X4_addFirstOf rfl (st := []) rfl (iS_t hE894.1).1 (by decide) (by decide) rfl (Nat.zero_le _) (Nat.zero_le _) hE894 (fun r900 w901 q902 => ?_)
              obtain ⟨q902r, q902e, q902f⟩ := q902
              rw [q902r]
              have hE899 : isEn G hb A T tl fx X cl dr (mTimer X tl s (mS2 X tl (1 - dr) s (gR (D.2.1 s) 0) (mS1 s D))) w901 := by rw [← tmr_eq (X := X) (a0 := tl) (s := s) (D := (mS2 X tl (1 - dr) s (gR (D.2.1 s) 0) (mS1 s D))) (kd := (gR (D.2.1 s) 0) 0) (bl := (((gR (D.2.1 s) 0 1).toNat : Nat) : Int)) (tr := (gR (D.2.1 s) 0) 6) (by rw [mS2_2]; rfl) (by rw [mS2_2]; exact Int.toNat_of_nonneg hr1.1) (by rw [mS2_2]; rfl)]; exact q902e
              have hF899 : FrE A w w901 := FrE.tr hF894 q902f
              refine M.run 2 (pc' := 271) (lv' := [some (vr (A 13)), some (vi ((s : Nat) : Int)), some (vr (A (3 + 2 * s))), some (vi (gR (D.2.1 s) 0 0)), some (vi (((gR (D.2.1 s) 0 1).toNat : Nat) : Int)), some (vi (mBy (gR (D.2.1 s) 0))), some (vi 1), some (vi (mWaitA X (stA tl (mS2 X tl (1 - dr) s (gR (D.2.1 s) 0) (mS1 s D))) (gR (D.2.1 s) 0 0) (((gR (D.2.1 s) 0 1).toNat : Nat) : Int) (gR (D.2.1 s) 0 6)))]) (st' := [vi 0, vr (A (3 + 2 * s))]) rfl ?_
              refine M.callV (qL_rem l G hb A T tl fx X cl dr (mTimer X tl s (mS2 X tl (1 - dr) s (gR (D.2.1 s) 0) (mS1 s D))) s (by omega) 0 (by rw [mTimer_2, mS2_2]; exact h0)) cv_X1_106 cd_X4_remove rfl (st := []) rfl (iS_l hE899.1 (s := s) (by omega)).1 (by decide) (by decide) rfl (Nat.zero_le _) (Nat.zero_le _) hE899 (fun r905 w906 q907 => ?_)
              obtain ⟨q907r, q907e, q907f⟩ := q907
              rw [q907r]
              have hE904 : isEn G hb A T tl fx X cl dr (mSend X tl (1 - dr) s D) w906 := by unfold mSend mS3; rw [if_pos hcd]; exact q907e
              have hF904 : FrE A w w906 := FrE.tr hF899 q907f
              exact M.vret rfl (Nat.zero_le _) (Nat.zero_le _) ⟨rfl, (by unfold mSnd; rw [if_pos h0]; exact hE904), hF904⟩
  · skip
    have h0 : ¬ 0 < (D.2.1 s).length := by omega
    exact M.vret rfl (Nat.zero_le _) (Nat.zero_le _) ⟨rfl, (by unfold mSnd; rw [if_neg h0]; exact hP), (FrE.rf (A := A) (w := w))⟩
set_option maxHeartbeats 4000000 in
set_option maxRecDepth 100000 in
theorem nX1_firstDue (l : Launch) (G : GT) (hb : Nat) (A T : Nat → Nat) (tl fx : Nat → Int) (X : Nat → Int → Option Gn) (cl : Nat → Int) (dr : Int) (D : Dy) (hT : Tok tl) (n : Int) (hd : Dok n D) (hn : n ≤ 2000000000) (hJ : Jok D)  : Ctr l G yX1_firstDue cX1_firstDue 2 ((Option.some Jvm.ClassFile.FieldType.int)) 2 0 0 [vr (A 13)] (fun w => isEn G hb A T tl fx X cl dr D w) (fun w r w' => r = some (vi (if mDue (D.1 20) D.2.2.2.1 < D.2.2.2.1.length then ((mDue (D.1 20) D.2.2.2.1 : Nat) : Int) else -1)) ∧ w' = w) := by
  refine Ctr.of (t := tX1_firstDue) (lv0 := [some (vr (A 13)), none]) (by decide +kernel) tX1_firstDue_ok rfl rfl (fun w g hP M => ?_)
  have ht := Dok_t hd
  have hsn := Dok_sun hd
  refine M.run 2 (pc' := 2) (lv' := [some (vr (A 13)), some (vi 0)]) (st' := []) rfl ?_
  have Lp2 : ∀ (N : Nat) (i : Nat), (i ≤ D.2.2.2.1.length) → (mDue (D.1 20) D.2.2.2.1 = i + mDue (D.1 20) (D.2.2.2.1.drop i)) → D.2.2.2.1.length - i < N → g 0 0 w 2 [some (vr (A 13)), some (vi ((i : Nat) : Int))] [] := by
    intro N
    induction N with
    | zero => intro i _ _ hN; exact absurd hN (Nat.not_lt_zero _)
    | succ N ih2 =>
      intro i hi hdu hN
      refine M.run 2 (pc' := 4) (lv' := [some (vr (A 13)), some (vi ((i : Nat) : Int))]) (st' := [vr (A 13), vi ((i : Nat) : Int)]) rfl ?_
      refine M.get fl_X1_15 rfl hP.2.2.1 (kf := 1) (v := vr (A 0)) rfl ?_
      refine M.get fl_X1_145 rfl hP.1.1 (kf := 9) (v := vr (A 9)) rfl ?_
      refine M.get fl_X1_38 rfl (iS_t hP.1).1 (kf := 2) (v := vi ((D.2.2.2.1.length : Nat) : Int)) rfl ?_
      refine M.icmp_ge (tgt := 47) rfl (qI (by omega)) (qI (by omega)) (by decide) (fun h13 => ?_) (fun h13 => ?_)
      · skip
        refine M.run 1 (pc' := 48) (lv' := [some (vr (A 13)), some (vi ((i : Nat) : Int))]) (st' := [vi (-1)]) rfl ?_
        exact M.iret rfl (Nat.zero_le _) (Nat.zero_le _) ⟨reI (by rw [hdu, List.drop_eq_nil_of_le (by omega), if_neg (by show ¬ i + 0 < D.2.2.2.1.length; omega)]), rfl⟩
      · skip
        refine M.run 1 (pc' := 17) (lv' := [some (vr (A 13)), some (vi ((i : Nat) : Int))]) (st' := [vr (A 13)]) rfl ?_
        refine M.get fl_X1_15 rfl hP.2.2.1 (kf := 1) (v := vr (A 0)) rfl ?_
        refine M.get fl_X1_145 rfl hP.1.1 (kf := 9) (v := vr (A 9)) rfl ?_
        refine M.run 2 (pc' := 26) (lv' := [some (vr (A 13)), some (vi ((i : Nat) : Int))]) (st' := [vi 7, vi ((i : Nat) : Int), vr (A 9)]) rfl ?_
        refine M.callV (qT_get l G hb A T tl fx X cl dr D i 7 (by omega) (by decide)) cv_X1_88 cd_X4_get rfl (st := []) rfl (iS_t hP.1).1 (by decide) (by decide) rfl (Nat.zero_le _) (Nat.zero_le _) hP (fun r1 w2 q3 => ?_)
        rw [q3.1, q3.2]
        have hr7 := (Dok_tr hd (i := i) (by omega)).2.2.2.2.2.2.2.2.1
        refine M.run 1 (pc' := 30) (lv' := [some (vr (A 13)), some (vi ((i : Nat) : Int))]) (st' := [vr (A 13), vi (gR D.2.2.2.1 i 7)]) rfl ?_
        refine M.get fl_X1_15 rfl hP.2.2.1 (kf := 1) (v := vr (A 0)) rfl ?_
        refine M.get fl_X1_116 rfl hP.1.1 (kf := 1) (v := vi (D.1 20)) rfl ?_
        refine M.icmp_gt (tgt := 41) rfl (qI (by omega)) (qI (by omega)) (by decide) (fun h36 => ?_) (fun h36 => ?_)
        · skip
          refine M.run 2 (pc' := 2) (lv' := [some (vr (A 13)), some (vi (((i : Nat) : Int) + 1))]) (st' := []) rfl ?_
          exact ih2 (i + 1) (by omega) (by rw [hdu, mDue_1 (by omega) (by omega)]; omega) (by omega)
        · skip
          refine M.run 1 (pc' := 40) (lv' := [some (vr (A 13)), some (vi ((i : Nat) : Int))]) (st' := [vi ((i : Nat) : Int)]) rfl ?_
          exact M.iret rfl (Nat.zero_le _) (Nat.zero_le _) ⟨reI (by rw [hdu, mDue_0 (by omega) (by omega), Nat.add_zero, if_pos (by omega)]), rfl⟩
  exact Lp2 _ 0 (Nat.zero_le _) (Nat.zero_add _).symm (Nat.lt_succ_self _)
set_option maxHeartbeats 4000000 in
set_option maxRecDepth 100000 in
theorem nX1_ringOne (l : Launch) (G : GT) (hb : Nat) (A T : Nat → Nat) (tl fx : Nat → Int) (X : Nat → Int → Option Gn) (cl : Nat → Int) (dr : Int) (D : Dy) (hT : Tok tl) (n : Int) (hd : Dok n D) (hn : n ≤ 2000000000) (hJ : Jok D) (i : Nat) (hi : i < D.2.2.2.1.length)  : Ctr l G yX1_ringOne cX1_ringOne 11 ((Option.none : Option Jvm.ClassFile.FieldType)) 4 0 0 [vr (A 13), vi ((i : Nat) : Int)] (fun w => isEn G hb A T tl fx X cl dr D w) (fun w r w' => r = none ∧ isEn G hb A T tl fx X cl dr (mRingOne tl i D) w' ∧ FrE A w w') := by
  refine Ctr.of (t := tX1_ringOne) (lv0 := [some (vr (A 13)), some (vi ((i : Nat) : Int)), none, none, none, none, none, none, none, none, none]) (by decide +kernel) tX1_ringOne_ok rfl rfl (fun w g hP M => ?_)
  have ht := Dok_t hd
  have hck := Dok_clk hd
  have hk8 : 0 ≤ tl 8 ∧ tl 8 ≤ 9 := hT.1 8 (by decide)
  obtain ⟨hr0, hr1, hr2, hr3, hr4, hr5, hr6, hr7, hr8, hr9⟩ := Dok_tr hd hi
  refine M.run 1 (pc' := 1) (lv' := [some (vr (A 13)), some (vi ((i : Nat) : Int)), none, none, none, none, none, none, none, none, none]) (st' := [vr (A 13)]) rfl ?_
  refine M.get fl_X1_15 rfl hP.2.2.1 (kf := 1) (v := vr (A 0)) rfl ?_
  refine M.get fl_X1_145 rfl hP.1.1 (kf := 9) (v := vr (A 9)) rfl ?_
  refine M.run 4 (pc' := 11) (lv' := [some (vr (A 13)), some (vi ((i : Nat) : Int)), some (vr (A 9)), none, none, none, none, none, none, none, none]) (st' := [vi 0, vi ((i : Nat) : Int), vr (A 9)]) rfl ?_
  refine M.callV (qT_get l G hb A T tl fx X cl dr D i 0 (by omega) (by decide)) cv_X1_88 cd_X4_get rfl (st := []) rfl (iS_t hP.1).1 (by decide) (by decide) rfl (Nat.zero_le _) (Nat.zero_le _) hP (fun r1 w2 q3 => ?_)
  rw [q3.1, q3.2]
  refine M.run 4 (pc' := 18) (lv' := [some (vr (A 13)), some (vi ((i : Nat) : Int)), some (vr (A 9)), some (vi (gR D.2.2.2.1 i 0)), none, none, none, none, none, none, none]) (st' := [vi 1, vi ((i : Nat) : Int), vr (A 9)]) rfl ?_
  refine M.callV (qT_get l G hb A T tl fx X cl dr D i 1 (by omega) (by decide)) cv_X1_88 cd_X4_get rfl (st := []) rfl (iS_t hP.1).1 (by decide) (by decide) rfl (Nat.zero_le _) (Nat.zero_le _) hP (fun r5 w6 q7 => ?_)
  rw [q7.1, q7.2]
  refine M.run 4 (pc' := 26) (lv' := [some (vr (A 13)), some (vi ((i : Nat) : Int)), some (vr (A 9)), some (vi (gR D.2.2.2.1 i 0)), some (vi (gR D.2.2.2.1 i 1)), none, none, none, none, none, none]) (st' := [vi 2, vi ((i : Nat) : Int), vr (A 9)]) rfl ?_
  refine M.callV (qT_get l G hb A T tl fx X cl dr D i 2 (by omega) (by decide)) cv_X1_88 cd_X4_get rfl (st := []) rfl (iS_t hP.1).1 (by decide) (by decide) rfl (Nat.zero_le _) (Nat.zero_le _) hP (fun r9 w10 q11 => ?_)
  rw [q11.1, q11.2]
  refine M.run 4 (pc' := 34) (lv' := [some (vr (A 13)), some (vi ((i : Nat) : Int)), some (vr (A 9)), some (vi (gR D.2.2.2.1 i 0)), some (vi (gR D.2.2.2.1 i 1)), some (vi (gR D.2.2.2.1 i 2)), none, none, none, none, none]) (st' := [vi 3, vi ((i : Nat) : Int), vr (A 9)]) rfl ?_
  refine M.callV (qT_get l G hb A T tl fx X cl dr D i 3 (by omega) (by decide)) cv_X1_88 cd_X4_get rfl (st := []) rfl (iS_t hP.1).1 (by decide) (by decide) rfl (Nat.zero_le _) (Nat.zero_le _) hP (fun r13 w14 q15 => ?_)
  rw [q15.1, q15.2]
  refine M.run 4 (pc' := 42) (lv' := [some (vr (A 13)), some (vi ((i : Nat) : Int)), some (vr (A 9)), some (vi (gR D.2.2.2.1 i 0)), some (vi (gR D.2.2.2.1 i 1)), some (vi (gR D.2.2.2.1 i 2)), some (vi (gR D.2.2.2.1 i 3)), none, none, none, none]) (st' := [vi 4, vi ((i : Nat) : Int), vr (A 9)]) rfl ?_
  refine M.callV (qT_get l G hb A T tl fx X cl dr D i 4 (by omega) (by decide)) cv_X1_88 cd_X4_get rfl (st := []) rfl (iS_t hP.1).1 (by decide) (by decide) rfl (Nat.zero_le _) (Nat.zero_le _) hP (fun r17 w18 q19 => ?_)
  rw [q19.1, q19.2]
  refine M.run 4 (pc' := 50) (lv' := [some (vr (A 13)), some (vi ((i : Nat) : Int)), some (vr (A 9)), some (vi (gR D.2.2.2.1 i 0)), some (vi (gR D.2.2.2.1 i 1)), some (vi (gR D.2.2.2.1 i 2)), some (vi (gR D.2.2.2.1 i 3)), some (vi (gR D.2.2.2.1 i 4)), none, none, none]) (st' := [vi 5, vi ((i : Nat) : Int), vr (A 9)]) rfl ?_
  refine M.callV (qT_get l G hb A T tl fx X cl dr D i 5 (by omega) (by decide)) cv_X1_88 cd_X4_get rfl (st := []) rfl (iS_t hP.1).1 (by decide) (by decide) rfl (Nat.zero_le _) (Nat.zero_le _) hP (fun r21 w22 q23 => ?_)
  rw [q23.1, q23.2]
  refine M.run 4 (pc' := 59) (lv' := [some (vr (A 13)), some (vi ((i : Nat) : Int)), some (vr (A 9)), some (vi (gR D.2.2.2.1 i 0)), some (vi (gR D.2.2.2.1 i 1)), some (vi (gR D.2.2.2.1 i 2)), some (vi (gR D.2.2.2.1 i 3)), some (vi (gR D.2.2.2.1 i 4)), some (vi (gR D.2.2.2.1 i 5)), none, none]) (st' := [vi 6, vi ((i : Nat) : Int), vr (A 9)]) rfl ?_
  refine M.callV (qT_get l G hb A T tl fx X cl dr D i 6 (by omega) (by decide)) cv_X1_88 cd_X4_get rfl (st := []) rfl (iS_t hP.1).1 (by decide) (by decide) rfl (Nat.zero_le _) (Nat.zero_le _) hP (fun r25 w26 q27 => ?_)
  rw [q27.1, q27.2]
  refine M.run 4 (pc' := 68) (lv' := [some (vr (A 13)), some (vi ((i : Nat) : Int)), some (vr (A 9)), some (vi (gR D.2.2.2.1 i 0)), some (vi (gR D.2.2.2.1 i 1)), some (vi (gR D.2.2.2.1 i 2)), some (vi (gR D.2.2.2.1 i 3)), some (vi (gR D.2.2.2.1 i 4)), some (vi (gR D.2.2.2.1 i 5)), some (vi (gR D.2.2.2.1 i 6)), none]) (st' := [vi 8, vi ((i : Nat) : Int), vr (A 9)]) rfl ?_
  refine M.callV (qT_get l G hb A T tl fx X cl dr D i 8 (by omega) (by decide)) cv_X1_88 cd_X4_get rfl (st := []) rfl (iS_t hP.1).1 (by decide) (by decide) rfl (Nat.zero_le _) (Nat.zero_le _) hP (fun r29 w30 q31 => ?_)
  rw [q31.1, q31.2]
  refine M.run 1 (pc' := 73) (lv' := [some (vr (A 13)), some (vi ((i : Nat) : Int)), some (vr (A 9)), some (vi (gR D.2.2.2.1 i 0)), some (vi (gR D.2.2.2.1 i 1)), some (vi (gR D.2.2.2.1 i 2)), some (vi (gR D.2.2.2.1 i 3)), some (vi (gR D.2.2.2.1 i 4)), some (vi (gR D.2.2.2.1 i 5)), some (vi (gR D.2.2.2.1 i 6)), some (vi (gR D.2.2.2.1 i 8))]) (st' := []) rfl ?_
  rw [show gR D.2.2.2.1 i 1 = (((gR D.2.2.2.1 i 1).toNat : Nat) : Int) from (Int.toNat_of_nonneg hr1.1).symm]
  rw [show gR D.2.2.2.1 i 8 = (((gR D.2.2.2.1 i 8).toNat : Nat) : Int) from (Int.toNat_of_nonneg hr9.1).symm]
  refine M.run 1 (pc' := 74) (lv' := [some (vr (A 13)), some (vi ((i : Nat) : Int)), some (vr (A 9)), some (vi (gR D.2.2.2.1 i 0)), some (vi (((gR D.2.2.2.1 i 1).toNat : Nat) : Int)), some (vi (gR D.2.2.2.1 i 2)), some (vi (gR D.2.2.2.1 i 3)), some (vi (gR D.2.2.2.1 i 4)), some (vi (gR D.2.2.2.1 i 5)), some (vi (gR D.2.2.2.1 i 6)), some (vi (((gR D.2.2.2.1 i 8).toNat : Nat) : Int))]) (st' := [vr (A 13)]) rfl ?_
  refine M.get fl_X1_15 rfl hP.2.2.1 (kf := 1) (v := vr (A 0)) rfl ?_
  refine M.get fl_X1_58 rfl hP.1.1 (kf := 10) (v := vr (A 11)) rfl ?_
  refine M.run 1 (pc' := 81) (lv' := [some (vr (A 13)), some (vi ((i : Nat) : Int)), some (vr (A 9)), some (vi (gR D.2.2.2.1 i 0)), some (vi (((gR D.2.2.2.1 i 1).toNat : Nat) : Int)), some (vi (gR D.2.2.2.1 i 2)), some (vi (gR D.2.2.2.1 i 3)), some (vi (gR D.2.2.2.1 i 4)), some (vi (gR D.2.2.2.1 i 5)), some (vi (gR D.2.2.2.1 i 6)), some (vi (((gR D.2.2.2.1 i 8).toNat : Nat) : Int))]) (st' := [vr (A 13), vr (A 11)]) rfl ?_
  refine M.get fl_X1_15 rfl hP.2.2.1 (kf := 1) (v := vr (A 0)) rfl ?_
  refine M.get fl_X1_61 rfl hP.1.1 (kf := 0) (v := vi (D.1 18)) rfl ?_
  refine M.run 3 (pc' := 91) (lv' := [some (vr (A 13)), some (vi ((i : Nat) : Int)), some (vr (A 9)), some (vi (gR D.2.2.2.1 i 0)), some (vi (((gR D.2.2.2.1 i 1).toNat : Nat) : Int)), some (vi (gR D.2.2.2.1 i 2)), some (vi (gR D.2.2.2.1 i 3)), some (vi (gR D.2.2.2.1 i 4)), some (vi (gR D.2.2.2.1 i 5)), some (vi (gR D.2.2.2.1 i 6)), some (vi (((gR D.2.2.2.1 i 8).toNat : Nat) : Int))]) (st' := [vi (gR D.2.2.2.1 i 0), vi (((gR D.2.2.2.1 i 1).toNat : Nat) : Int), vi 5, vi (D.1 18), vr (A 11)]) rfl ?_
  refine M.callV (qK_note l G hb A T tl fx X cl dr D (D.1 18) 5 (((gR D.2.2.2.1 i 1).toNat : Nat) : Int) (gR D.2.2.2.1 i 0)) cv_X1_64 cd_X4_addNote rfl (st := []) rfl (iS_k hP.1).1 (by decide) (by decide) rfl (Nat.zero_le _) (Nat.zero_le _) hP (fun r34 w35 q36 => ?_)
  obtain ⟨q36r, q36e, q36f⟩ := q36
  rw [q36r]
  have hE33 : isEn G hb A T tl fx X cl dr (mNote (rwB (D.1 18) 5 (((gR D.2.2.2.1 i 1).toNat : Nat) : Int) (gR D.2.2.2.1 i 0)) D) w35 := q36e
  have hF33 : FrE A w w35 := FrE.tr (FrE.rf (A := A) (w := w)) q36f
  refine M.run 2 (pc' := 96) (lv' := [some (vr (A 13)), some (vi ((i : Nat) : Int)), some (vr (A 9)), some (vi (gR D.2.2.2.1 i 0)), some (vi (((gR D.2.2.2.1 i 1).toNat : Nat) : Int)), some (vi (gR D.2.2.2.1 i 2)), some (vi (gR D.2.2.2.1 i 3)), some (vi (gR D.2.2.2.1 i 4)), some (vi (gR D.2.2.2.1 i 5)), some (vi (gR D.2.2.2.1 i 6)), some (vi (((gR D.2.2.2.1 i 8).toNat : Nat) : Int))]) (st' := [vi ((i : Nat) : Int), vr (A 9)]) rfl ?_
  refine M.callV (qT_rem l G hb A T tl fx X cl dr (mNote (rwB (D.1 18) 5 (((gR D.2.2.2.1 i 1).toNat : Nat) : Int) (gR D.2.2.2.1 i 0)) D) i hi) cv_X1_106 cd_X4_remove rfl (st := []) rfl (iS_t hE33.1).1 (by decide) (by decide) rfl (Nat.zero_le _) (Nat.zero_le _) hE33 (fun r39 w40 q41 => ?_)
  obtain ⟨q41r, q41e, q41f⟩ := q41
  rw [q41r]
  have hE38 : isEn G hb A T tl fx X cl dr ((mNote (rwB (D.1 18) 5 (((gR D.2.2.2.1 i 1).toNat : Nat) : Int) (gR D.2.2.2.1 i 0)) D).1, (mNote (rwB (D.1 18) 5 (((gR D.2.2.2.1 i 1).toNat : Nat) : Int) (gR D.2.2.2.1 i 0)) D).2.1, (mNote (rwB (D.1 18) 5 (((gR D.2.2.2.1 i 1).toNat : Nat) : Int) (gR D.2.2.2.1 i 0)) D).2.2.1, (mNote (rwB (D.1 18) 5 (((gR D.2.2.2.1 i 1).toNat : Nat) : Int) (gR D.2.2.2.1 i 0)) D).2.2.2.1.eraseIdx i, (mNote (rwB (D.1 18) 5 (((gR D.2.2.2.1 i 1).toNat : Nat) : Int) (gR D.2.2.2.1 i 0)) D).2.2.2.2) w40 := q41e
  have hF38 : FrE A w w40 := FrE.tr hF33 q41f
  have hE43 : isEn G hb A T tl fx X cl dr (mNote (rwB (D.1 18) 5 ((((gR D.2.2.2.1 i) 1).toNat : Nat) : Int) ((gR D.2.2.2.1 i) 0)) (D.1, D.2.1, D.2.2.1, D.2.2.2.1.eraseIdx i, D.2.2.2.2)) w40 := by exact hE38
  have hd43 : Dok n (mNote (rwB (D.1 18) 5 ((((gR D.2.2.2.1 i) 1).toNat : Nat) : Int) ((gR D.2.2.2.1 i) 0)) (D.1, D.2.1, D.2.2.1, D.2.2.2.1.eraseIdx i, D.2.2.2.2)) := Dok_note (Dok_takeT hd) (bokOk_B ⟨by omega, by omega, by omega, by omega⟩)
  have hJ43 : Jok (mNote (rwB (D.1 18) 5 ((((gR D.2.2.2.1 i) 1).toNat : Nat) : Int) ((gR D.2.2.2.1 i) 0)) (D.1, D.2.1, D.2.2.1, D.2.2.2.1.eraseIdx i, D.2.2.2.2)) := ⟨hJ.1, fun r q => hJ.2.1 r ((List.eraseIdx_sublist _ _).mem q), hJ.2.2⟩
  refine M.run 2 (pc' := 102) (lv' := [some (vr (A 13)), some (vi ((i : Nat) : Int)), some (vr (A 9)), some (vi (gR D.2.2.2.1 i 0)), some (vi (((gR D.2.2.2.1 i 1).toNat : Nat) : Int)), some (vi (gR D.2.2.2.1 i 2)), some (vi (gR D.2.2.2.1 i 3)), some (vi (gR D.2.2.2.1 i 4)), some (vi (gR D.2.2.2.1 i 5)), some (vi (gR D.2.2.2.1 i 6)), some (vi (((gR D.2.2.2.1 i 8).toNat : Nat) : Int))]) (st' := [vr (A 13), vi (gR D.2.2.2.1 i 6)]) rfl ?_
  refine M.get fl_X1_9 rfl hE43.2.2.1 (kf := 0) (v := vr (T 0)) rfl ?_
  refine M.get fl_X1_195 rfl hE43.2.1.1 (kf := 8) (v := vi (tl 8)) rfl ?_
  refine M.icmp_ge (tgt := 141) rfl (qI (by omega)) (qI (by omega)) (by decide) (fun h108 => ?_) (fun h108 => ?_)
  · skip
    refine M.run 2 (pc' := 143) (lv' := [some (vr (A 13)), some (vi ((i : Nat) : Int)), some (vr (A 9)), some (vi (gR D.2.2.2.1 i 0)), some (vi (((gR D.2.2.2.1 i 1).toNat : Nat) : Int)), some (vi (gR D.2.2.2.1 i 2)), some (vi (gR D.2.2.2.1 i 3)), some (vi (gR D.2.2.2.1 i 4)), some (vi (gR D.2.2.2.1 i 5)), some (vi (gR D.2.2.2.1 i 6)), some (vi (((gR D.2.2.2.1 i 8).toNat : Nat) : Int))]) (st' := [vi 3, vi (gR D.2.2.2.1 i 0)]) rfl ?_
    refine M.icmp_eq (tgt := 165) rfl (qI (by omega)) (qI (by decide)) (by decide) (fun h143 => ?_) (fun h143 => ?_)
    · skip
      have hnc : (gR D.2.2.2.1 i) 0 = 3 ∨ ¬ mCan ((gR D.2.2.2.1 i) 1).toNat ((gR D.2.2.2.1 i) 8).toNat D := Or.inl h143
      exact M.vret rfl (Nat.zero_le _) (Nat.zero_le _) ⟨rfl, (by rw [mRingOne_c (by omega) hnc, show (gR D.2.2.2.1 i) 1 = ((((gR D.2.2.2.1 i) 1).toNat : Nat) : Int) from (Int.toNat_of_nonneg hr1.1).symm]; exact hE43), hF38⟩
    · skip
      refine M.run 3 (pc' := 151) (lv' := [some (vr (A 13)), some (vi ((i : Nat) : Int)), some (vr (A 9)), some (vi (gR D.2.2.2.1 i 0)), some (vi (((gR D.2.2.2.1 i 1).toNat : Nat) : Int)), some (vi (gR D.2.2.2.1 i 2)), some (vi (gR D.2.2.2.1 i 3)), some (vi (gR D.2.2.2.1 i 4)), some (vi (gR D.2.2.2.1 i 5)), some (vi (gR D.2.2.2.1 i 6)), some (vi (((gR D.2.2.2.1 i 8).toNat : Nat) : Int))]) (st' := [vi (((gR D.2.2.2.1 i 8).toNat : Nat) : Int), vi (((gR D.2.2.2.1 i 1).toNat : Nat) : Int), vr (A 13)]) rfl ?_
      refine M.callV (nX1_canCancel l G hb A T tl fx X cl dr (mNote (rwB (D.1 18) 5 ((((gR D.2.2.2.1 i) 1).toNat : Nat) : Int) ((gR D.2.2.2.1 i) 0)) (D.1, D.2.1, D.2.2.1, D.2.2.2.1.eraseIdx i, D.2.2.2.2)) hT n hd43 (by omega) hJ43 ((gR D.2.2.2.1 i 1).toNat) (by omega) ((gR D.2.2.2.1 i 8).toNat) (by omega)) cv_X1_198 cd_X1_canCancel rfl (st := []) rfl hE43.2.2.1 (by decide) (by decide) rfl (Nat.zero_le _) (Nat.zero_le _) hE43 (fun r44 w45 q46 => ?_)
      rw [q46.1, q46.2]
      refine M.if_eq (tgt := 165) rfl (inI_zb _) (by decide) (fun h154 => ?_) (fun h154 => ?_)
      · skip
        replace h154 := zb_fd h154
        have hnc : (gR D.2.2.2.1 i) 0 = 3 ∨ ¬ mCan ((gR D.2.2.2.1 i) 1).toNat ((gR D.2.2.2.1 i) 8).toNat D := Or.inr h154
        exact M.vret rfl (Nat.zero_le _) (Nat.zero_le _) ⟨rfl, (by rw [mRingOne_c (by omega) hnc, show (gR D.2.2.2.1 i) 1 = ((((gR D.2.2.2.1 i) 1).toNat : Nat) : Int) from (Int.toNat_of_nonneg hr1.1).symm]; exact hE43), hF38⟩
      · skip
        replace h154 := zb_td h154
        refine M.run 3 (pc' := 162) (lv' := [some (vr (A 13)), some (vi ((i : Nat) : Int)), some (vr (A 9)), some (vi (gR D.2.2.2.1 i 0)), some (vi (((gR D.2.2.2.1 i 1).toNat : Nat) : Int)), some (vi (gR D.2.2.2.1 i 2)), some (vi (gR D.2.2.2.1 i 3)), some (vi (gR D.2.2.2.1 i 4)), some (vi (gR D.2.2.2.1 i 5)), some (vi (gR D.2.2.2.1 i 6)), some (vi (((gR D.2.2.2.1 i 8).toNat : Nat) : Int))]) (st' := [vi (((gR D.2.2.2.1 i 8).toNat : Nat) : Int), vi (((gR D.2.2.2.1 i 1).toNat : Nat) : Int), vr (A 13)]) rfl ?_
        refine M.callV (nX1_cancelBy l G hb A T tl fx X cl dr (mNote (rwB (D.1 18) 5 ((((gR D.2.2.2.1 i) 1).toNat : Nat) : Int) ((gR D.2.2.2.1 i) 0)) (D.1, D.2.1, D.2.2.1, D.2.2.2.1.eraseIdx i, D.2.2.2.2)) hT n hd43 (by omega) hJ43 ((gR D.2.2.2.1 i 1).toNat) (by omega) ((gR D.2.2.2.1 i 8).toNat) (by omega)) cv_X1_202 cd_X1_cancelBy rfl (st := []) rfl hE43.2.2.1 (by decide) (by decide) rfl (Nat.zero_le _) (Nat.zero_le _) hE43 (fun r49 w50 q51 => ?_)
        obtain ⟨q51r, q51e, q51f⟩ := q51
        rw [q51r]
        have hE48 : isEn G hb A T tl fx X cl dr (mRingOne tl i D) w50 := by rw [mRingOne_b (by omega) (by omega) h154, show (gR D.2.2.2.1 i) 1 = ((((gR D.2.2.2.1 i) 1).toNat : Nat) : Int) from (Int.toNat_of_nonneg hr1.1).symm, Int.toNat_natCast]; exact q51e
        have hF48 : FrE A w w50 := FrE.tr hF38 q51f
        exact M.vret rfl (Nat.zero_le _) (Nat.zero_le _) ⟨rfl, hE48, hF48⟩
  · skip
    refine M.run 1 (pc' := 112) (lv' := [some (vr (A 13)), some (vi ((i : Nat) : Int)), some (vr (A 9)), some (vi (gR D.2.2.2.1 i 0)), some (vi (((gR D.2.2.2.1 i 1).toNat : Nat) : Int)), some (vi (gR D.2.2.2.1 i 2)), some (vi (gR D.2.2.2.1 i 3)), some (vi (gR D.2.2.2.1 i 4)), some (vi (gR D.2.2.2.1 i 5)), some (vi (gR D.2.2.2.1 i 6)), some (vi (((gR D.2.2.2.1 i 8).toNat : Nat) : Int))]) (st' := [vr (A 13)]) rfl ?_
    refine M.get fl_X1_15 rfl hE43.2.2.1 (kf := 1) (v := vr (A 0)) rfl ?_
    refine M.run 1 (pc' := 117) (lv' := [some (vr (A 13)), some (vi ((i : Nat) : Int)), some (vr (A 9)), some (vi (gR D.2.2.2.1 i 0)), some (vi (((gR D.2.2.2.1 i 1).toNat : Nat) : Int)), some (vi (gR D.2.2.2.1 i 2)), some (vi (gR D.2.2.2.1 i 3)), some (vi (gR D.2.2.2.1 i 4)), some (vi (gR D.2.2.2.1 i 5)), some (vi (gR D.2.2.2.1 i 6)), some (vi (((gR D.2.2.2.1 i 8).toNat : Nat) : Int))]) (st' := [vi (((gR D.2.2.2.1 i 8).toNat : Nat) : Int), vr (A 0)]) rfl ?_
    refine M.callV (qS_line l G hb A T tl fx X cl dr (mNote (rwB (D.1 18) 5 ((((gR D.2.2.2.1 i) 1).toNat : Nat) : Int) ((gR D.2.2.2.1 i) 0)) (D.1, D.2.1, D.2.2.1, D.2.2.2.1.eraseIdx i, D.2.2.2.2)) ((gR D.2.2.2.1 i 8).toNat) (by omega)) cv_X1_32 cd_X6_line rfl (st := []) rfl hE43.1.1 (by decide) (by decide) rfl (Nat.zero_le _) (Nat.zero_le _) hE43 (fun r53 w54 q55 => ?_)
    rw [q55.1, q55.2]
    refine M.run 9 (pc' := 135) (lv' := [some (vr (A 13)), some (vi ((i : Nat) : Int)), some (vr (A 9)), some (vi (gR D.2.2.2.1 i 0)), some (vi (((gR D.2.2.2.1 i 1).toNat : Nat) : Int)), some (vi (gR D.2.2.2.1 i 2)), some (vi (gR D.2.2.2.1 i 3)), some (vi (gR D.2.2.2.1 i 4)), some (vi (gR D.2.2.2.1 i 5)), some (vi (gR D.2.2.2.1 i 6)), some (vi (((gR D.2.2.2.1 i 8).toNat : Nat) : Int))]) (st' := [vi ((gR D.2.2.2.1 i 6) + 1), vi (gR D.2.2.2.1 i 5), vi (gR D.2.2.2.1 i 4), vi (gR D.2.2.2.1 i 3), vi (gR D.2.2.2.1 i 2), vi (((gR D.2.2.2.1 i 1).toNat : Nat) : Int), vi (gR D.2.2.2.1 i 0), vr (A (3 + 2 * ((gR D.2.2.2.1 i 8).toNat)))]) rfl ?_
    refine M.callV (qL_add l G hb A T tl fx X cl dr (mNote (rwB (D.1 18) 5 ((((gR D.2.2.2.1 i) 1).toNat : Nat) : Int) ((gR D.2.2.2.1 i) 0)) (D.1, D.2.1, D.2.2.1, D.2.2.2.1.eraseIdx i, D.2.2.2.2)) ((gR D.2.2.2.1 i 8).toNat) (by omega) (gR D.2.2.2.1 i 0) (((gR D.2.2.2.1 i 1).toNat : Nat) : Int) (gR D.2.2.2.1 i 2) (gR D.2.2.2.1 i 3) (gR D.2.2.2.1 i 4) (gR D.2.2.2.1 i 5) ((gR D.2.2.2.1 i 6) + 1)) cv_X1_96 cd_X4_addMessage rfl (st := []) rfl (iS_l hE43.1 (s := ((gR D.2.2.2.1 i 8).toNat)) (by omega)).1 (by decide) (by decide) rfl (Nat.zero_le _) (Nat.zero_le _) hE43 (fun r58 w59 q60 => ?_)
    obtain ⟨q60r, q60e, q60f⟩ := q60
    rw [q60r]
    have hE57 : isEn G hb A T tl fx X cl dr (mRingOne tl i D) w59 := by rw [mRingOne_a (by omega), show (gR D.2.2.2.1 i) 1 = ((((gR D.2.2.2.1 i) 1).toNat : Nat) : Int) from (Int.toNat_of_nonneg hr1.1).symm]; exact q60e
    have hF57 : FrE A w w59 := FrE.tr hF38 q60f
    refine M.run 1 (pc' := 165) (lv' := [some (vr (A 13)), some (vi ((i : Nat) : Int)), some (vr (A 9)), some (vi (gR D.2.2.2.1 i 0)), some (vi (((gR D.2.2.2.1 i 1).toNat : Nat) : Int)), some (vi (gR D.2.2.2.1 i 2)), some (vi (gR D.2.2.2.1 i 3)), some (vi (gR D.2.2.2.1 i 4)), some (vi (gR D.2.2.2.1 i 5)), some (vi (gR D.2.2.2.1 i 6)), some (vi (((gR D.2.2.2.1 i 8).toNat : Nat) : Int))]) (st' := []) rfl ?_
    exact M.vret rfl (Nat.zero_le _) (Nat.zero_le _) ⟨rfl, hE57, hF57⟩
set_option maxHeartbeats 4000000 in
set_option maxRecDepth 100000 in
theorem nX1_ring (l : Launch) (G : GT) (hb : Nat) (A T : Nat → Nat) (tl fx : Nat → Int) (X : Nat → Int → Option Gn) (cl : Nat → Int) (dr : Int) (D : Dy) (hT : Tok tl) (n : Int) (hd : Dok n D) (hn : n ≤ 2000000000) (hJ : Jok D)  : Ctr l G yX1_ring cX1_ring 3 ((Option.none : Option Jvm.ClassFile.FieldType)) 5 0 0 [vr (A 13)] (fun w => isEn G hb A T tl fx X cl dr D w) (fun w r w' => r = none ∧ isEn G hb A T tl fx X cl dr (mRings tl 16 D) w' ∧ FrE A w w') := by
  refine Ctr.of (t := tX1_ring) (lv0 := [some (vr (A 13)), none, none]) (by decide +kernel) tX1_ring_ok rfl rfl (fun w g hP M => ?_)
  refine M.run 2 (pc' := 2) (lv' := [some (vr (A 13)), some (vi 0), none]) (st' := []) rfl ?_
  have Lp2 : ∀ (N : Nat) (i : Nat) (Dc : Dy) (wa : Wo), (isEn G hb A T tl fx X cl dr Dc wa) → (FrE A w wa) → (Dok n Dc) → (Jok Dc) → (i ≤ 16) → (mRings tl 16 D = mRings tl (16 - i) Dc) → 16 - i < N → g 0 0 wa 2 [some (vr (A 13)), some (vi ((i : Nat) : Int)), none] [] := by
    intro N
    induction N with
    | zero => intro i Dc wa _ _ _ _ _ _ hN; exact absurd hN (Nat.not_lt_zero _)
    | succ N ih2 =>
      intro i Dc wa hEa hFa hda hJa hi hI hN
      refine M.run 2 (pc' := 5) (lv' := [some (vr (A 13)), some (vi ((i : Nat) : Int)), none]) (st' := [vi 16, vi ((i : Nat) : Int)]) rfl ?_
      refine M.icmp_ge (tgt := 30) rfl (qI (by omega)) (qI (by decide)) (by decide) (fun h5 => ?_) (fun h5 => ?_)
      · skip
        have hE : Dc = mRings tl 16 D := by rw [hI, show 16 - i = 0 by omega]; rfl
        exact M.vret rfl (Nat.zero_le _) (Nat.zero_le _) ⟨rfl, (by rw [← hE]; exact hEa), hFa⟩
      · skip
        refine M.run 1 (pc' := 9) (lv' := [some (vr (A 13)), some (vi ((i : Nat) : Int)), none]) (st' := [vr (A 13)]) rfl ?_
        refine M.callV (nX1_firstDue l G hb A T tl fx X cl dr Dc hT n hda (by omega) hJa ) cv_X1_189 cd_X1_firstDue rfl (st := []) rfl hEa.2.2.1 (by decide) (by decide) rfl (Nat.zero_le _) (Nat.zero_le _) hEa (fun r1 w2 q3 => ?_)
        rw [q3.1, q3.2]
        refine M.run 3 (pc' := 15) (lv' := [some (vr (A 13)), some (vi ((i : Nat) : Int)), some (vi (if mDue (Dc.1 20) Dc.2.2.2.1 < Dc.2.2.2.1.length then ((mDue (Dc.1 20) Dc.2.2.2.1 : Nat) : Int) else -1))]) (st' := [vi (-1), vi (if mDue (Dc.1 20) Dc.2.2.2.1 < Dc.2.2.2.1.length then ((mDue (Dc.1 20) Dc.2.2.2.1 : Nat) : Int) else -1)]) rfl ?_
        have hdt := Dok_t hda
        refine M.icmp_ne (tgt := 19) rfl (qI (by omega)) (qI (by decide)) (by decide) (fun h15 => ?_) (fun h15 => ?_)
        · skip
          have hdu : mDue (Dc.1 20) Dc.2.2.2.1 < Dc.2.2.2.1.length := by by_cases z : mDue (Dc.1 20) Dc.2.2.2.1 < Dc.2.2.2.1.length; exact z; rw [if_neg z] at h15; omega
          rw [if_pos hdu]
          refine M.run 2 (pc' := 21) (lv' := [some (vr (A 13)), some (vi ((i : Nat) : Int)), some (vi ((mDue (Dc.1 20) Dc.2.2.2.1 : Nat) : Int))]) (st' := [vi ((mDue (Dc.1 20) Dc.2.2.2.1 : Nat) : Int), vr (A 13)]) rfl ?_
          refine M.callV (nX1_ringOne l G hb A T tl fx X cl dr Dc hT n hda (by omega) hJa (mDue (Dc.1 20) Dc.2.2.2.1) (by omega)) cv_X1_192 cd_X1_ringOne rfl (st := []) rfl hEa.2.2.1 (by decide) (by decide) rfl (Nat.zero_le _) (Nat.zero_le _) hEa (fun r6 w7 q8 => ?_)
          obtain ⟨q8r, q8e, q8f⟩ := q8
          rw [q8r]
          have hE5 : isEn G hb A T tl fx X cl dr (mRingOne tl (mDue (Dc.1 20) Dc.2.2.2.1) Dc) w7 := q8e
          have hF5 : FrE A w w7 := FrE.tr hFa q8f
          refine M.run 2 (pc' := 2) (lv' := [some (vr (A 13)), some (vi (((i : Nat) : Int) + 1)), some (vi ((mDue (Dc.1 20) Dc.2.2.2.1 : Nat) : Int))]) (st' := []) rfl ?_
          refine M.fgt [false, false, true] ?_
          exact ih2 (i + 1) (mRingOne tl (mDue (Dc.1 20) Dc.2.2.2.1) Dc) w7 hE5 hF5 (Dok_ringOne hT hda hdu) (Jok_ringOne hda hJa hdu) (by omega) (by rw [hI, mRings_s (by omega) hdu, show 16 - i - 1 = 16 - (i + 1) by omega]) (by omega)
        · skip
          have hdu : ¬ mDue (Dc.1 20) Dc.2.2.2.1 < Dc.2.2.2.1.length := fun z => by rw [if_pos z] at h15; omega
          have hE : Dc = mRings tl 16 D := by rw [hI]; exact (mRings_e hdu).symm
          exact M.vret rfl (Nat.zero_le _) (Nat.zero_le _) ⟨rfl, (by rw [← hE]; exact hEa), hFa⟩
  exact Lp2 _ 0 D w hP (FrE.rf (A := A) (w := w)) hd hJ (Nat.zero_le _) rfl (Nat.lt_succ_self _)
