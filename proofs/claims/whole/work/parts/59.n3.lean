/-- blocks that are not told have no bytes -/
def Tz (tl : Nat → Int) : Prop := ∀ x : Nat, x < 3 → tl 0 ≤ ((x : Nat) : Int) → tl (12 + x) = 0 ∧ tl (15 + x) = 0
theorem qO_redZ (l : Launch) (G : GT) (hb : Nat) (A T : Nat → Nat) (tl fx : Nat → Int) (X : Nat → Int → Option Gn) (cl : Nat → Int) (dr : Int) (D : Dy) (hT : Tok tl) (hZ : Tz tl) (b : Nat) (hb3 : b < 3) : Ctr l G yX9_redOf cX9_redOf 2 ((Option.some Jvm.ClassFile.FieldType.int)) 2 0 0 [vr (T 0), vi ((b : Nat) : Int)] (fun w => isEn G hb A T tl fx X cl dr D w) (fun w r w' => r = some (vi (tl (15 + b))) ∧ w' = w) :=
  Ctr.mono (kX9_redOf l G T tl fx hT b (by omega)) (fun w h => h.2.1) (fun w r w' _ q => ⟨q.1.trans (reI (by
    by_cases h : ((b : Nat) : Int) < tl 0
    · exact if_pos ⟨by omega, h⟩
    · rw [if_neg (by omega)]; exact ((hZ b hb3 (by omega)).2).symm)), q.2⟩)
theorem drop_one {s : Nat} {c kind v : Int} {D : Dy} (h : ¬ kind = -1) : mDrop s (pF c kind v v) D = mDrop s (pKS c kind v) D := mDrop_c (fun _ _ => pF_one h) (fun _ _ => pF_one h)
theorem drop_all {s : Nat} {c : Int} {n : Int} {D : Dy} (hd : Dok n D) (hn : n ≤ 2000000000) (hs : s < 2) : mDrop s (pF c (-1) 0 2147483647) D = mDrop s (pKS c (-1) 0) D := mDrop_c (fun r hr => pF_all ((hd.2.1 s hs).2 r hr) (by omega)) (fun r hr => pF_all (hd.2.2.2.1.2 r hr) (by omega))
theorem drop_three {s : Nat} {c : Int} {D : Dy} (h : Jok D) (hs : s < 2) : mDrop s (pF c 3 0 2147483647) D = mDrop s (pKS c 3 0) D := mDrop_c (fun r hr => pF_three (h.1 s hs r hr).2) (fun r hr => pF_three (h.2.1 r hr).2)
section QGB
variable {a0 : Nat → Int} {r : Rw} {D : Dy}
theorem mGotB_0 (h : r 0 = 0) : mGotB a0 r D = mGotData a0 (r 1).toNat (r 2) (r 3).toNat (r 4).toNat D := if_pos h
theorem mGotB_1 (h : r 0 = 1) : mGotB a0 r D = mGotReport a0 (r 1).toNat (r 2) (r 4) (r 5).toNat D := (if_neg (by omega)).trans (if_pos h)
theorem mGotB_2 (h : r 0 = 2) : mGotB a0 r D = mDrop (r 8).toNat (pKS (((r 1).toNat : Nat) : Int) 1 (r 2)) D := ((if_neg (by omega)).trans (if_neg (by omega))).trans (if_pos h)
theorem mGotB_3 (h : r 0 = 3) : mGotB a0 r D = mGotCancel (r 8).toNat (r 1).toNat D := (((if_neg (by omega)).trans (if_neg (by omega))).trans (if_neg (by omega))).trans (if_pos h)
theorem mGotB_4 (h : r 0 = 4) : mGotB a0 r D = mDrop (r 8).toNat (pKS (((r 1).toNat : Nat) : Int) 3 0) D := (((if_neg (by omega)).trans (if_neg (by omega))).trans (if_neg (by omega))).trans (if_neg (by omega))
theorem mGotCancel_a {s b : Nat} (h : s = 1 ∨ D.1 (28 + b) = 1) : mGotCancel s b D = mPut s (rwM 4 b 0 0 0 0 0) (mDrop s (pKS b (-1) 0) (mS (28 + 3 * s + b) 3 D)) := by unfold mGotCancel; rw [if_pos h]
theorem mGotCancel_b {s b : Nat} (h : ¬ (s = 1 ∨ D.1 (28 + b) = 1)) : mGotCancel s b D = mPut s (rwM 4 b 0 0 0 0 0) D := by unfold mGotCancel; rw [if_neg h]
end QGB

set_option maxHeartbeats 4000000 in
set_option maxRecDepth 100000 in
theorem nX1_gotData (l : Launch) (G : GT) (hb : Nat) (A T : Nat → Nat) (tl fx : Nat → Int) (X : Nat → Int → Option Gn) (cl : Nat → Int) (dr : Int) (D : Dy) (hT : Tok tl) (n : Int) (hd : Dok n D) (hn : n ≤ 1900000000) (hJ : Jok D) (hZ : Tz tl) (c : Nat) (hc : c < 3) (sr : Int) (hsr : 0 ≤ sr ∧ sr ≤ n) (f t : Nat) (hft : f ≤ t ∧ t ≤ 30)  : Ctr l G yX1_gotData cX1_gotData 7 ((Option.none : Option Jvm.ClassFile.FieldType)) 3 0 0 [vr (A 13), vi ((c : Nat) : Int), vi sr, vi ((bIn f t : Nat) : Int)] (fun w => isEn G hb A T tl fx X cl dr D w) (fun w r w' => r = none ∧ isEn G hb A T tl fx X cl dr (mGotData tl c sr f t D) w' ∧ FrE A w w') := by
  refine Ctr.of (t := tX1_gotData) (lv0 := [some (vr (A 13)), some (vi ((c : Nat) : Int)), some (vi sr), some (vi ((bIn f t : Nat) : Int)), none, none, none]) (by decide +kernel) tX1_gotData_ok rfl rfl (fun w g hP M => ?_)
  have hr1 := Tok_red hT hc
  have hcm := Dok_com hd hc
  have hb1 := bIn_lt (f := f) hft.2
  have h31 : 0 ≤ D.1 (31 + c) ∧ D.1 (31 + c) ≤ 3 := by have q := Dok_how hd (x := 3 + c) (by omega); rwa [show 28 + (3 + c) = 31 + c by omega] at q
  have ho := or_lt30 (x := (D.1 (37 + c)).toNat) (y := bIn f t) (by omega) hb1
  refine M.run 1 (pc' := 1) (lv' := [some (vr (A 13)), some (vi ((c : Nat) : Int)), some (vi sr), some (vi ((bIn f t : Nat) : Int)), none, none, none]) (st' := [vr (A 13)]) rfl ?_
  refine M.get fl_X1_15 rfl hP.2.2.1 (kf := 1) (v := vr (A 0)) rfl ?_
  refine M.get fl_X1_50 rfl hP.1.1 (kf := 5) (v := vr (A 1)) rfl ?_
  refine M.run 4 (pc' := 13) (lv' := [some (vr (A 13)), some (vi ((c : Nat) : Int)), some (vi sr), some (vi ((bIn f t : Nat) : Int)), some (vr (A 1)), none, none]) (st' := [vi 1, vi ((c : Nat) : Int), vr (A 1)]) rfl ?_
  refine M.callV (qB_get l G hb A T tl fx X cl dr D c 1 (by omega) (by decide)) cv_X1_88 cd_X4_get rfl (st := []) rfl (iS_b hP.1).1 (by decide) (by decide) rfl (Nat.zero_le _) (Nat.zero_le _) hP (fun r1 w2 q3 => ?_)
  rw [q3.1, q3.2]
  rw [show D.1 (28 + 3 * 1 + c) = D.1 (31 + c) from rfl]
  refine M.run 1 (pc' := 17) (lv' := [some (vr (A 13)), some (vi ((c : Nat) : Int)), some (vi sr), some (vi ((bIn f t : Nat) : Int)), some (vr (A 1)), none, none]) (st' := [vi 3, vi (D.1 (31 + c))]) rfl ?_
  refine M.icmp_ne (tgt := 21) rfl (qI (by omega)) (qI (by decide)) (by decide) (fun h17 => ?_) (fun h17 => ?_)
  · skip
    refine M.run 3 (pc' := 25) (lv' := [some (vr (A 13)), some (vi ((c : Nat) : Int)), some (vi sr), some (vi ((bIn f t : Nat) : Int)), some (vr (A 1)), none, none]) (st' := [vi 3, vi ((c : Nat) : Int), vr (A 1)]) rfl ?_
    refine M.callV (qB_get l G hb A T tl fx X cl dr D c 3 (by omega) (by decide)) cv_X1_88 cd_X4_get rfl (st := []) rfl (iS_b hP.1).1 (by decide) (by decide) rfl (Nat.zero_le _) (Nat.zero_le _) hP (fun r5 w6 q7 => ?_)
    rw [q7.1, q7.2]
    rw [show D.1 (28 + 3 * 3 + c) = D.1 (37 + c) from rfl]
    rw [show D.1 (37 + c) = (((D.1 (37 + c)).toNat : Nat) : Int) from (Int.toNat_of_nonneg hcm.1).symm]
    refine M.run 1 (pc' := 29) (lv' := [some (vr (A 13)), some (vi ((c : Nat) : Int)), some (vi sr), some (vi ((bIn f t : Nat) : Int)), some (vr (A 1)), none, none]) (st' := [vi ((bIn f t : Nat) : Int), vi (((D.1 (37 + c)).toNat : Nat) : Int)]) rfl ?_
    refine M.ior (b1 := (D.1 (37 + c)).toNat) (b2 := bIn f t) rfl (by omega) (by omega) ?_
    refine M.run 5 (pc' := 38) (lv' := [some (vr (A 13)), some (vi ((c : Nat) : Int)), some (vi sr), some (vi ((bIn f t : Nat) : Int)), some (vr (A 1)), some (vi ((((D.1 (37 + c)).toNat) ||| (bIn f t) : Nat) : Int)), none]) (st' := [vi ((((D.1 (37 + c)).toNat) ||| (bIn f t) : Nat) : Int), vi 3, vi ((c : Nat) : Int), vr (A 1)]) rfl ?_
    refine M.callV (qB_put l G hb A T tl fx X cl dr D c 3 (by omega) (by omega) ((((D.1 (37 + c)).toNat) ||| (bIn f t) : Nat) : Int)) cv_X1_54 cd_X4_put rfl (st := []) rfl (iS_b hP.1).1 (by decide) (by decide) rfl (Nat.zero_le _) (Nat.zero_le _) hP (fun r10 w11 q12 => ?_)
    obtain ⟨q12r, q12e, q12f⟩ := q12
    rw [q12r]
    have hE9 : isEn G hb A T tl fx X cl dr (mS (37 + c) ((((D.1 (37 + c)).toNat) ||| (bIn f t) : Nat) : Int) D) w11 := q12e
    have hF9 : FrE A w w11 := FrE.tr (FrE.rf (A := A) (w := w)) q12f
    refine M.run 1 (pc' := 42) (lv' := [some (vr (A 13)), some (vi ((c : Nat) : Int)), some (vi sr), some (vi ((bIn f t : Nat) : Int)), some (vr (A 1)), some (vi ((((D.1 (37 + c)).toNat) ||| (bIn f t) : Nat) : Int)), none]) (st' := [vi sr]) rfl ?_
    refine M.if_ne (tgt := 46) rfl (qI (by omega)) (by decide) (fun h42 => ?_) (fun h42 => ?_)
    · skip
      refine M.run 4 (pc' := 51) (lv' := [some (vr (A 13)), some (vi ((c : Nat) : Int)), some (vi sr), some (vi ((bIn f t : Nat) : Int)), some (vr (A 1)), some (vi ((((D.1 (37 + c)).toNat) ||| (bIn f t) : Nat) : Int)), none]) (st' := [vi 1, vi 5, vi ((c : Nat) : Int), vr (A 1)]) rfl ?_
      refine M.callV (qB_raise l G hb A T tl fx X cl dr (mS (37 + c) ((((D.1 (37 + c)).toNat) ||| (bIn f t) : Nat) : Int) D) c 5 (by omega) (by omega) 1) cv_X1_135 cd_X4_raise rfl (st := []) rfl (iS_b hE9.1).1 (by decide) (by decide) rfl (Nat.zero_le _) (Nat.zero_le _) hE9 (fun r15 w16 q17 => ?_)
      obtain ⟨q17r, q17e, q17f⟩ := q17
      rw [q17r]
      have hE14 : isEn G hb A T tl fx X cl dr (mS (43 + c) (D.1 (43 + c) + 1) (mS (37 + c) ((((D.1 (37 + c)).toNat ||| bIn f t : Nat) : Nat) : Int) D)) w16 := by rw [show D.1 (43 + c) = (mS (37 + c) ((((D.1 (37 + c)).toNat ||| bIn f t : Nat) : Nat) : Int) D).1 (43 + c) from (mS_o (by omega)).symm]; exact q17e
      have hF14 : FrE A w w16 := FrE.tr hF9 q17f
      refine M.run 2 (pc' := 57) (lv' := [some (vr (A 13)), some (vi ((c : Nat) : Int)), some (vi sr), some (vi ((bIn f t : Nat) : Int)), some (vr (A 1)), some (vi ((((D.1 (37 + c)).toNat) ||| (bIn f t) : Nat) : Int)), none]) (st' := [vr (A 13), vi ((((D.1 (37 + c)).toNat) ||| (bIn f t) : Nat) : Int)]) rfl ?_
      refine M.get fl_X1_9 rfl hE14.2.2.1 (kf := 0) (v := vr (T 0)) rfl ?_
      refine M.run 1 (pc' := 61) (lv' := [some (vr (A 13)), some (vi ((c : Nat) : Int)), some (vi sr), some (vi ((bIn f t : Nat) : Int)), some (vr (A 1)), some (vi ((((D.1 (37 + c)).toNat) ||| (bIn f t) : Nat) : Int)), none]) (st' := [vi ((c : Nat) : Int), vr (T 0), vi ((((D.1 (37 + c)).toNat) ||| (bIn f t) : Nat) : Int)]) rfl ?_
      refine M.callV (qO_redZ l G hb A T tl fx X cl dr (mS (43 + c) (D.1 (43 + c) + 1) (mS (37 + c) ((((D.1 (37 + c)).toNat ||| bIn f t : Nat) : Nat) : Int) D)) hT hZ c (by omega)) cv_X1_44 cd_X9_redOf rfl (st := [vi ((((D.1 (37 + c)).toNat) ||| (bIn f t) : Nat) : Int)]) rfl hE14.2.1.1 (by decide) (by decide) rfl (Nat.zero_le _) (Nat.zero_le _) hE14 (fun r19 w20 q21 => ?_)
      rw [q21.1, q21.2]
      rw [show tl (15 + c) = (((tl (15 + c)).toNat : Nat) : Int) from (Int.toNat_of_nonneg hr1.1).symm]
      refine M.callS (kX0_first l G ((tl (15 + c)).toNat) (by omega)) cs_X1_68 cd_X0_first rfl (st := [vi ((((D.1 (37 + c)).toNat) ||| (bIn f t) : Nat) : Int)]) rfl (by decide) (by decide) rfl (Nat.zero_le _) (Nat.zero_le _) trivial (fun r23 w24 q25 => ?_)
      rw [q25.1, q25.2]
      refine M.iand (b1 := ((D.1 (37 + c)).toNat) ||| (bIn f t)) (b2 := bFs ((tl (15 + c)).toNat)) rfl (by omega) (by have := bFs_lt (n := (tl (15 + c)).toNat) (by omega); omega) ?_
      have hl27 := Nat.and_le_left (n := ((D.1 (37 + c)).toNat) ||| (bIn f t)) (m := bFs ((tl (15 + c)).toNat))
      have hr28 := Nat.and_le_right (n := ((D.1 (37 + c)).toNat) ||| (bIn f t)) (m := bFs ((tl (15 + c)).toNat))
      refine M.run 2 (pc' := 71) (lv' := [some (vr (A 13)), some (vi ((c : Nat) : Int)), some (vi sr), some (vi ((bIn f t : Nat) : Int)), some (vr (A 1)), some (vi ((((D.1 (37 + c)).toNat) ||| (bIn f t) : Nat) : Int)), some (vi (((((D.1 (37 + c)).toNat) ||| (bIn f t)) &&& (bFs ((tl (15 + c)).toNat)) : Nat) : Int))]) (st' := [vr (A 13)]) rfl ?_
      refine M.get fl_X1_15 rfl hE14.2.2.1 (kf := 1) (v := vr (A 0)) rfl ?_
      refine M.get fl_X1_158 rfl hE14.1.1 (kf := 7) (v := vr (A 5)) rfl ?_
      refine M.run 5 (pc' := 83) (lv' := [some (vr (A 13)), some (vi ((c : Nat) : Int)), some (vi sr), some (vi ((bIn f t : Nat) : Int)), some (vr (A 1)), some (vi ((((D.1 (37 + c)).toNat) ||| (bIn f t) : Nat) : Int)), some (vi (((((D.1 (37 + c)).toNat) ||| (bIn f t)) &&& (bFs ((tl (15 + c)).toNat)) : Nat) : Int))]) (st' := [vi 5, vi ((c : Nat) : Int), vr (A 1), vi ((c : Nat) : Int), vi 1, vr (A 5)]) rfl ?_
      refine M.callV (qB_get l G hb A T tl fx X cl dr (mS (43 + c) (D.1 (43 + c) + 1) (mS (37 + c) ((((D.1 (37 + c)).toNat ||| bIn f t : Nat) : Nat) : Int) D)) c 5 (by omega) (by decide)) cv_X1_88 cd_X4_get rfl (st := [vi ((c : Nat) : Int), vi 1, vr (A 5)]) rfl (iS_b hE14.1).1 (by decide) (by decide) rfl (Nat.zero_le _) (Nat.zero_le _) hE14 (fun r29 w30 q31 => ?_)
      rw [q31.1, q31.2]
      rw [show (mS (43 + c) (D.1 (43 + c) + 1) (mS (37 + c) ((((D.1 (37 + c)).toNat ||| bIn f t : Nat) : Nat) : Int) D)).1 (28 + 3 * 5 + c) = (mS (43 + c) (D.1 (43 + c) + 1) (mS (37 + c) ((((D.1 (37 + c)).toNat ||| bIn f t : Nat) : Nat) : Int) D)).1 (43 + c) from rfl]
      rw [mS_s]
      refine M.run 4 (pc' := 91) (lv' := [some (vr (A 13)), some (vi ((c : Nat) : Int)), some (vi sr), some (vi ((bIn f t : Nat) : Int)), some (vr (A 1)), some (vi ((((D.1 (37 + c)).toNat) ||| (bIn f t) : Nat) : Int)), some (vi (((((D.1 (37 + c)).toNat) ||| (bIn f t)) &&& (bFs ((tl (15 + c)).toNat)) : Nat) : Int))]) (st' := [vi 0, vi (((((D.1 (37 + c)).toNat) ||| (bIn f t)) &&& (bFs ((tl (15 + c)).toNat)) : Nat) : Int), vi sr, vi 0, vi ((D.1 (43 + c)) + 1), vi ((c : Nat) : Int), vi 1, vr (A 5)]) rfl ?_
      refine M.callV (qL_add l G hb A T tl fx X cl dr (mS (43 + c) (D.1 (43 + c) + 1) (mS (37 + c) ((((D.1 (37 + c)).toNat ||| bIn f t : Nat) : Nat) : Int) D)) 1 (by omega) 1 ((c : Nat) : Int) ((D.1 (43 + c)) + 1) 0 sr (((((D.1 (37 + c)).toNat) ||| (bIn f t)) &&& (bFs ((tl (15 + c)).toNat)) : Nat) : Int) 0) cv_X1_96 cd_X4_addMessage rfl (st := []) rfl (iS_l hE14.1 (s := 1) (by decide)).1 (by decide) (by decide) rfl (Nat.zero_le _) (Nat.zero_le _) hE14 (fun r34 w35 q36 => ?_)
      obtain ⟨q36r, q36e, q36f⟩ := q36
      rw [q36r]
      have hE33 : isEn G hb A T tl fx X cl dr (mPut 1 (rwM 1 ((c : Nat) : Int) ((D.1 (43 + c)) + 1) 0 sr (((((D.1 (37 + c)).toNat) ||| (bIn f t)) &&& (bFs ((tl (15 + c)).toNat)) : Nat) : Int) 0) (mS (43 + c) (D.1 (43 + c) + 1) (mS (37 + c) ((((D.1 (37 + c)).toNat ||| bIn f t : Nat) : Nat) : Int) D))) w35 := q36e
      have hF33 : FrE A w w35 := FrE.tr hF14 q36f
      exact M.vret rfl (Nat.zero_le _) (Nat.zero_le _) ⟨rfl, (by rw [mGotData_c h17 h42]; exact hE33), hF33⟩
    · skip
      exact M.vret rfl (Nat.zero_le _) (Nat.zero_le _) ⟨rfl, (by rw [mGotData_b h17 h42]; exact hE9), hF9⟩
  · skip
    exact M.vret rfl (Nat.zero_le _) (Nat.zero_le _) ⟨rfl, (by rw [mGotData_a h17]; exact hP), (FrE.rf (A := A) (w := w))⟩
set_option maxHeartbeats 4000000 in
set_option maxRecDepth 100000 in
theorem nX1_gotReport (l : Launch) (G : GT) (hb : Nat) (A T : Nat → Nat) (tl fx : Nat → Int) (X : Nat → Int → Option Gn) (cl : Nat → Int) (dr : Int) (D : Dy) (hT : Tok tl) (n : Int) (hd : Dok n D) (hn : n ≤ 1900000000) (hJ : Jok D) (hZ : Tz tl) (c : Nat) (hc : c < 3) (sr ck : Int) (hsr : 0 ≤ sr ∧ sr ≤ n) (hck : 0 ≤ ck ∧ ck ≤ 2147483647) (cm : Nat) (hcm : cm < 1073741824)  : Ctr l G yX1_gotReport cX1_gotReport 8 ((Option.none : Option Jvm.ClassFile.FieldType)) 4 0 0 [vr (A 13), vi ((c : Nat) : Int), vi sr, vi ck, vi ((cm : Nat) : Int)] (fun w => isEn G hb A T tl fx X cl dr D w) (fun w r w' => r = none ∧ isEn G hb A T tl fx X cl dr (mGotReport tl c sr ck cm D) w' ∧ FrE A w w') := by
  refine Ctr.of (t := tX1_gotReport) (lv0 := [some (vr (A 13)), some (vi ((c : Nat) : Int)), some (vi sr), some (vi ck), some (vi ((cm : Nat) : Int)), none, none, none]) (by decide +kernel) tX1_gotReport_ok rfl rfl (fun w g hP M => ?_)
  have hr1 := Tok_red hT hc
  have hcl := Dok_clm hd hc
  have h28 := Dok_how hd (x := c) (by omega)
  have h40 := Dok_cnt hd (x := c) (by omega)
  have ho := or_lt30 (x := (D.1 (34 + c)).toNat) (y := cm) (by omega) hcm
  have hn0 := Dok_n0 hd
  have hdp : Dok n (mPut 0 (rwM 2 c sr 0 0 0 0) D) := Dok_put hd (by decide) (rowOk_M (by omega))
  have hJp : Jok (mPut 0 (rwM 2 c sr 0 0 0 0) D) := Jok_put hJ (by decide) (jR_M ⟨fun e => absurd e (by decide), fun e => absurd e (by decide)⟩)
  have hdg : Dok n (gr1 c sr ck D) := Dok_drop hdp
  have hJg : Jok (gr1 c sr ck D) := Jok_gr1 hJ
  have hmm := mMiss_lt hT hc (c := (D.1 (34 + c)).toNat ||| cm)
  have hmm2 : bDf (bFs (tl (15 + c)).toNat) ((D.1 (34 + c)).toNat ||| cm) < 1073741824 := hmm
  refine M.run 1 (pc' := 1) (lv' := [some (vr (A 13)), some (vi ((c : Nat) : Int)), some (vi sr), some (vi ck), some (vi ((cm : Nat) : Int)), none, none, none]) (st' := [vr (A 13)]) rfl ?_
  refine M.get fl_X1_15 rfl hP.2.2.1 (kf := 1) (v := vr (A 0)) rfl ?_
  refine M.get fl_X1_50 rfl hP.1.1 (kf := 5) (v := vr (A 1)) rfl ?_
  refine M.run 2 (pc' := 10) (lv' := [some (vr (A 13)), some (vi ((c : Nat) : Int)), some (vi sr), some (vi ck), some (vi ((cm : Nat) : Int)), some (vr (A 1)), none, none]) (st' := [vr (A 13)]) rfl ?_
  refine M.get fl_X1_15 rfl hP.2.2.1 (kf := 1) (v := vr (A 0)) rfl ?_
  refine M.get fl_X1_138 rfl hP.1.1 (kf := 6) (v := vr (A 3)) rfl ?_
  refine M.run 7 (pc' := 23) (lv' := [some (vr (A 13)), some (vi ((c : Nat) : Int)), some (vi sr), some (vi ck), some (vi ((cm : Nat) : Int)), some (vr (A 1)), none, none]) (st' := [vi 0, vi 0, vi 0, vi 0, vi sr, vi ((c : Nat) : Int), vi 2, vr (A 3)]) rfl ?_
  refine M.callV (qL_add l G hb A T tl fx X cl dr D 0 (by omega) 2 ((c : Nat) : Int) sr 0 0 0 0) cv_X1_96 cd_X4_addMessage rfl (st := []) rfl (iS_l hP.1 (s := 0) (by decide)).1 (by decide) (by decide) rfl (Nat.zero_le _) (Nat.zero_le _) hP (fun r2 w3 q4 => ?_)
  obtain ⟨q4r, q4e, q4f⟩ := q4
  rw [q4r]
  have hE1 : isEn G hb A T tl fx X cl dr (mPut 0 (rwM 2 ((c : Nat) : Int) sr 0 0 0 0) D) w3 := q4e
  have hF1 : FrE A w w3 := FrE.tr (FrE.rf (A := A) (w := w)) q4f
  have hE6 : isEn G hb A T tl fx X cl dr (mPut 0 (rwM 2 c sr 0 0 0 0) D) w3 := by exact hE1
  have hd6 : Dok n (mPut 0 (rwM 2 c sr 0 0 0 0) D) := hdp
  have hJ6 : Jok (mPut 0 (rwM 2 c sr 0 0 0 0) D) := hJp
  refine M.run 6 (pc' := 32) (lv' := [some (vr (A 13)), some (vi ((c : Nat) : Int)), some (vi sr), some (vi ck), some (vi ((cm : Nat) : Int)), some (vr (A 1)), none, none]) (st' := [vi ck, vi ck, vi 0, vi ((c : Nat) : Int), vi 0, vr (A 13)]) rfl ?_
  refine M.callV (nX1_forget l G hb A T tl fx X cl dr (mPut 0 (rwM 2 c sr 0 0 0 0) D) hT n hd6 (by omega) hJ6 0 (by omega) ((c : Nat) : Int) 0 ck ck (by omega) (by omega) (by omega) (by omega)) cv_X1_92 cd_X1_forget rfl (st := []) rfl hE6.2.2.1 (by decide) (by decide) rfl (Nat.zero_le _) (Nat.zero_le _) hE6 (fun r8 w9 q10 => ?_)
  obtain ⟨q10r, q10e, q10f⟩ := q10
  rw [q10r]
  have hE7 : isEn G hb A T tl fx X cl dr (gr1 c sr ck D) w9 := by unfold gr1; rw [← drop_one (by decide)]; exact q10e
  have hF7 : FrE A w w9 := FrE.tr hF1 q10f
  refine M.run 3 (pc' := 39) (lv' := [some (vr (A 13)), some (vi ((c : Nat) : Int)), some (vi sr), some (vi ck), some (vi ((cm : Nat) : Int)), some (vr (A 1)), none, none]) (st' := [vi 0, vi ((c : Nat) : Int), vr (A 1)]) rfl ?_
  refine M.callV (qB_get l G hb A T tl fx X cl dr (gr1 c sr ck D) c 0 (by omega) (by decide)) cv_X1_88 cd_X4_get rfl (st := []) rfl (iS_b hE7.1).1 (by decide) (by decide) rfl (Nat.zero_le _) (Nat.zero_le _) hE7 (fun r12 w13 q14 => ?_)
  rw [q14.1, q14.2]
  rw [show (gr1 c sr ck D).1 (28 + 3 * 0 + c) = (gr1 c sr ck D).1 (28 + c) from rfl]
  rw [gr1_1]
  refine M.run 1 (pc' := 43) (lv' := [some (vr (A 13)), some (vi ((c : Nat) : Int)), some (vi sr), some (vi ck), some (vi ((cm : Nat) : Int)), some (vr (A 1)), none, none]) (st' := [vi 1, vi (D.1 (28 + c))]) rfl ?_
  refine M.icmp_eq (tgt := 47) rfl (qI (by omega)) (qI (by decide)) (by decide) (fun h43 => ?_) (fun h43 => ?_)
  · skip
    refine M.run 3 (pc' := 51) (lv' := [some (vr (A 13)), some (vi ((c : Nat) : Int)), some (vi sr), some (vi ck), some (vi ((cm : Nat) : Int)), some (vr (A 1)), none, none]) (st' := [vi 2, vi ((c : Nat) : Int), vr (A 1)]) rfl ?_
    refine M.callV (qB_get l G hb A T tl fx X cl dr (gr1 c sr ck D) c 2 (by omega) (by decide)) cv_X1_88 cd_X4_get rfl (st := []) rfl (iS_b hE7.1).1 (by decide) (by decide) rfl (Nat.zero_le _) (Nat.zero_le _) hE7 (fun r16 w17 q18 => ?_)
    rw [q18.1, q18.2]
    rw [show (gr1 c sr ck D).1 (28 + 3 * 2 + c) = (gr1 c sr ck D).1 (34 + c) from rfl]
    rw [gr1_1]
    rw [show D.1 (34 + c) = (((D.1 (34 + c)).toNat : Nat) : Int) from (Int.toNat_of_nonneg hcl.1).symm]
    refine M.run 1 (pc' := 56) (lv' := [some (vr (A 13)), some (vi ((c : Nat) : Int)), some (vi sr), some (vi ck), some (vi ((cm : Nat) : Int)), some (vr (A 1)), none, none]) (st' := [vi ((cm : Nat) : Int), vi (((D.1 (34 + c)).toNat : Nat) : Int)]) rfl ?_
    refine M.ior (b1 := (D.1 (34 + c)).toNat) (b2 := cm) rfl (by omega) (by omega) ?_
    refine M.run 5 (pc' := 65) (lv' := [some (vr (A 13)), some (vi ((c : Nat) : Int)), some (vi sr), some (vi ck), some (vi ((cm : Nat) : Int)), some (vr (A 1)), some (vi ((((D.1 (34 + c)).toNat) ||| cm : Nat) : Int)), none]) (st' := [vi ((((D.1 (34 + c)).toNat) ||| cm : Nat) : Int), vi 2, vi ((c : Nat) : Int), vr (A 1)]) rfl ?_
    refine M.callV (qB_put l G hb A T tl fx X cl dr (gr1 c sr ck D) c 2 (by omega) (by omega) ((((D.1 (34 + c)).toNat) ||| cm : Nat) : Int)) cv_X1_54 cd_X4_put rfl (st := []) rfl (iS_b hE7.1).1 (by decide) (by decide) rfl (Nat.zero_le _) (Nat.zero_le _) hE7 (fun r21 w22 q23 => ?_)
    obtain ⟨q23r, q23e, q23f⟩ := q23
    rw [q23r]
    have hE20 : isEn G hb A T tl fx X cl dr (mS (34 + c) ((((D.1 (34 + c)).toNat) ||| cm : Nat) : Int) (gr1 c sr ck D)) w22 := q23e
    have hF20 : FrE A w w22 := FrE.tr hF7 q23f
    have hE25 : isEn G hb A T tl fx X cl dr (mS (34 + c) ((((D.1 (34 + c)).toNat ||| cm : Nat) : Nat) : Int) (gr1 c sr ck D)) w22 := by exact hE20
    have hd25 : Dok n (mS (34 + c) ((((D.1 (34 + c)).toNat ||| cm : Nat) : Nat) : Int) (gr1 c sr ck D)) := Dok_bitS hdg (by omega) (by omega)
    have hJ25 : Jok (mS (34 + c) ((((D.1 (34 + c)).toNat ||| cm : Nat) : Nat) : Int) (gr1 c sr ck D)) := Jok_o hJg (by omega)
    refine M.run 1 (pc' := 69) (lv' := [some (vr (A 13)), some (vi ((c : Nat) : Int)), some (vi sr), some (vi ck), some (vi ((cm : Nat) : Int)), some (vr (A 1)), some (vi ((((D.1 (34 + c)).toNat) ||| cm : Nat) : Int)), none]) (st' := [vr (A 13)]) rfl ?_
    refine M.get fl_X1_9 rfl hE25.2.2.1 (kf := 0) (v := vr (T 0)) rfl ?_
    refine M.run 1 (pc' := 73) (lv' := [some (vr (A 13)), some (vi ((c : Nat) : Int)), some (vi sr), some (vi ck), some (vi ((cm : Nat) : Int)), some (vr (A 1)), some (vi ((((D.1 (34 + c)).toNat) ||| cm : Nat) : Int)), none]) (st' := [vi ((c : Nat) : Int), vr (T 0)]) rfl ?_
    refine M.callV (qO_redZ l G hb A T tl fx X cl dr (mS (34 + c) ((((D.1 (34 + c)).toNat ||| cm : Nat) : Nat) : Int) (gr1 c sr ck D)) hT hZ c (by omega)) cv_X1_44 cd_X9_redOf rfl (st := []) rfl hE25.2.1.1 (by decide) (by decide) rfl (Nat.zero_le _) (Nat.zero_le _) hE25 (fun r26 w27 q28 => ?_)
    rw [q28.1, q28.2]
    rw [show tl (15 + c) = (((tl (15 + c)).toNat : Nat) : Int) from (Int.toNat_of_nonneg hr1.1).symm]
    refine M.callS (kX0_first l G ((tl (15 + c)).toNat) (by omega)) cs_X1_68 cd_X0_first rfl (st := []) rfl (by decide) (by decide) rfl (Nat.zero_le _) (Nat.zero_le _) trivial (fun r30 w31 q32 => ?_)
    rw [q32.1, q32.2]
    refine M.run 2 (pc' := 82) (lv' := [some (vr (A 13)), some (vi ((c : Nat) : Int)), some (vi sr), some (vi ck), some (vi ((cm : Nat) : Int)), some (vr (A 1)), some (vi ((((D.1 (34 + c)).toNat) ||| cm : Nat) : Int)), none]) (st' := [vi (-1), vi ((((D.1 (34 + c)).toNat) ||| cm : Nat) : Int), vi ((bFs ((tl (15 + c)).toNat) : Nat) : Int)]) rfl ?_
    refine M.ixm1 (b1 := ((D.1 (34 + c)).toNat) ||| cm) rfl ?_
    refine M.iandn (b1 := bFs ((tl (15 + c)).toNat)) (b2 := ((D.1 (34 + c)).toNat) ||| cm) rfl (by have := bFs_lt (n := (tl (15 + c)).toNat) (by omega); omega) (by omega) ?_
    refine M.run 2 (pc' := 88) (lv' := [some (vr (A 13)), some (vi ((c : Nat) : Int)), some (vi sr), some (vi ck), some (vi ((cm : Nat) : Int)), some (vr (A 1)), some (vi ((((D.1 (34 + c)).toNat) ||| cm : Nat) : Int)), some (vi ((bDf (bFs ((tl (15 + c)).toNat)) (((D.1 (34 + c)).toNat) ||| cm) : Nat) : Int))]) (st' := [vi ((bDf (bFs ((tl (15 + c)).toNat)) (((D.1 (34 + c)).toNat) ||| cm) : Nat) : Int)]) rfl ?_
    refine M.if_ne (tgt := 99) rfl (qI (by omega)) (by decide) (fun h88 => ?_) (fun h88 => ?_)
    · skip
      have h88z : ¬ mMiss tl c ((D.1 (34 + c)).toNat ||| cm) = 0 := fun z => h88 (congrArg (fun x : Nat => (x : Int)) z)
      refine M.run 3 (pc' := 103) (lv' := [some (vr (A 13)), some (vi ((c : Nat) : Int)), some (vi sr), some (vi ck), some (vi ((cm : Nat) : Int)), some (vr (A 1)), some (vi ((((D.1 (34 + c)).toNat) ||| cm : Nat) : Int)), some (vi ((bDf (bFs ((tl (15 + c)).toNat)) (((D.1 (34 + c)).toNat) ||| cm) : Nat) : Int))]) (st' := [vi 4, vi ((c : Nat) : Int), vr (A 1)]) rfl ?_
      refine M.callV (qB_get l G hb A T tl fx X cl dr (mS (34 + c) ((((D.1 (34 + c)).toNat ||| cm : Nat) : Nat) : Int) (gr1 c sr ck D)) c 4 (by omega) (by decide)) cv_X1_88 cd_X4_get rfl (st := []) rfl (iS_b hE25.1).1 (by decide) (by decide) rfl (Nat.zero_le _) (Nat.zero_le _) hE25 (fun r34 w35 q36 => ?_)
      rw [q36.1, q36.2]
      rw [show (mS (34 + c) ((((D.1 (34 + c)).toNat ||| cm : Nat) : Nat) : Int) (gr1 c sr ck D)).1 (28 + 3 * 4 + c) = (mS (34 + c) ((((D.1 (34 + c)).toNat ||| cm : Nat) : Nat) : Int) (gr1 c sr ck D)).1 (40 + c) from rfl]
      rw [show (mS (34 + c) ((((D.1 (34 + c)).toNat ||| cm : Nat) : Nat) : Int) (gr1 c sr ck D)).1 (40 + c) = D.1 (40 + c) from (mS_o (by omega)).trans (congrFun gr1_1 _)]
      refine M.run 1 (pc' := 107) (lv' := [some (vr (A 13)), some (vi ((c : Nat) : Int)), some (vi sr), some (vi ck), some (vi ((cm : Nat) : Int)), some (vr (A 1)), some (vi ((((D.1 (34 + c)).toNat) ||| cm : Nat) : Int)), some (vi ((bDf (bFs ((tl (15 + c)).toNat)) (((D.1 (34 + c)).toNat) ||| cm) : Nat) : Int))]) (st' := [vi ck, vi (D.1 (40 + c))]) rfl ?_
      refine M.icmp_ne (tgt := 118) rfl (qI (by omega)) (qI (by omega)) (by decide) (fun h107 => ?_) (fun h107 => ?_)
      · skip
        exact M.vret rfl (Nat.zero_le _) (Nat.zero_le _) ⟨rfl, (by rw [mGotReport_d h43 h88z (fun z => h107 z.symm)]; exact hE25), hF20⟩
      · skip
        refine M.run 4 (pc' := 115) (lv' := [some (vr (A 13)), some (vi ((c : Nat) : Int)), some (vi sr), some (vi ck), some (vi ((cm : Nat) : Int)), some (vr (A 1)), some (vi ((((D.1 (34 + c)).toNat) ||| cm : Nat) : Int)), some (vi ((bDf (bFs ((tl (15 + c)).toNat)) (((D.1 (34 + c)).toNat) ||| cm) : Nat) : Int))]) (st' := [vi 1, vi ((bDf (bFs ((tl (15 + c)).toNat)) (((D.1 (34 + c)).toNat) ||| cm) : Nat) : Int), vi ((c : Nat) : Int), vr (A 13)]) rfl ?_
        refine M.callV (nX1_putPieces1 l G hb A T tl fx X cl dr (mS (34 + c) ((((D.1 (34 + c)).toNat ||| cm : Nat) : Nat) : Int) (gr1 c sr ck D)) hT n hd25 (by omega) hJ25 c (by omega) (bDf (bFs ((tl (15 + c)).toNat)) (((D.1 (34 + c)).toNat) ||| cm)) hmm) cv_X1_73 cd_X1_putPieces rfl (st := []) rfl hE25.2.2.1 (by decide) (by decide) rfl (Nat.zero_le _) (Nat.zero_le _) hE25 (fun r39 w40 q41 => ?_)
        obtain ⟨q41r, q41e, q41f⟩ := q41
        rw [q41r]
        have hE38 : isEn G hb A T tl fx X cl dr (mRed tl c (mMiss tl c ((D.1 (34 + c)).toNat ||| cm)) (mS (34 + c) ((((D.1 (34 + c)).toNat ||| cm : Nat) : Nat) : Int) (gr1 c sr ck D))) w40 := by rw [← cPc_red]; exact q41e
        have hF38 : FrE A w w40 := FrE.tr hF20 q41f
        exact M.vret rfl (Nat.zero_le _) (Nat.zero_le _) ⟨rfl, (by rw [mGotReport_c h43 h88z h107.symm]; exact hE38), hF38⟩
    · skip
      have h88z : mMiss tl c ((D.1 (34 + c)).toNat ||| cm) = 0 := Int.ofNat.inj h88
      refine M.run 2 (pc' := 93) (lv' := [some (vr (A 13)), some (vi ((c : Nat) : Int)), some (vi sr), some (vi ck), some (vi ((cm : Nat) : Int)), some (vr (A 1)), some (vi ((((D.1 (34 + c)).toNat) ||| cm : Nat) : Int)), some (vi ((bDf (bFs ((tl (15 + c)).toNat)) (((D.1 (34 + c)).toNat) ||| cm) : Nat) : Int))]) (st' := [vi ((c : Nat) : Int), vr (A 13)]) rfl ?_
      refine M.callV (nX1_finish l G hb A T tl fx X cl dr (mS (34 + c) ((((D.1 (34 + c)).toNat ||| cm : Nat) : Nat) : Int) (gr1 c sr ck D)) hT n hd25 (by omega) hJ25 c (by omega)) cv_X1_84 cd_X1_finish rfl (st := []) rfl hE25.2.2.1 (by decide) (by decide) rfl (Nat.zero_le _) (Nat.zero_le _) hE25 (fun r44 w45 q46 => ?_)
      obtain ⟨q46r, q46e, q46f⟩ := q46
      rw [q46r]
      have hE43 : isEn G hb A T tl fx X cl dr (cFin c (mS (34 + c) ((((D.1 (34 + c)).toNat ||| cm : Nat) : Nat) : Int) (gr1 c sr ck D))) w45 := q46e
      have hF43 : FrE A w w45 := FrE.tr hF20 q46f
      refine M.run 1 (pc' := 118) (lv' := [some (vr (A 13)), some (vi ((c : Nat) : Int)), some (vi sr), some (vi ck), some (vi ((cm : Nat) : Int)), some (vr (A 1)), some (vi ((((D.1 (34 + c)).toNat) ||| cm : Nat) : Int)), some (vi ((bDf (bFs ((tl (15 + c)).toNat)) (((D.1 (34 + c)).toNat) ||| cm) : Nat) : Int))]) (st' := []) rfl ?_
      exact M.vret rfl (Nat.zero_le _) (Nat.zero_le _) ⟨rfl, (by rw [mGotReport_b h43 h88z, show D.1 (40 + c) = (mS (34 + c) ((((D.1 (34 + c)).toNat ||| cm : Nat) : Nat) : Int) (gr1 c sr ck D)).1 (40 + c) from ((mS_o (by omega)).trans (congrFun gr1_1 _)).symm, cFin_c (n := n) hJ25 hd25 (by omega) hc]; exact hE43), hF43⟩
  · skip
    exact M.vret rfl (Nat.zero_le _) (Nat.zero_le _) ⟨rfl, (by rw [mGotReport_a h43]; exact hE7), hF7⟩
set_option maxHeartbeats 4000000 in
set_option maxRecDepth 100000 in
theorem nX1_gotCancelling (l : Launch) (G : GT) (hb : Nat) (A T : Nat → Nat) (tl fx : Nat → Int) (X : Nat → Int → Option Gn) (cl : Nat → Int) (dr : Int) (D : Dy) (hT : Tok tl) (n : Int) (hd : Dok n D) (hn : n ≤ 2000000000) (hJ : Jok D) (c : Nat) (hc : c < 3) (s : Nat) (hs : s < 2) : Ctr l G yX1_gotCancelling cX1_gotCancelling 3 ((Option.none : Option Jvm.ClassFile.FieldType)) 3 0 0 [vr (A 13), vi ((c : Nat) : Int), vi ((s : Nat) : Int)] (fun w => isEn G hb A T tl fx X cl dr D w) (fun w r w' => r = none ∧ isEn G hb A T tl fx X cl dr (mGotCancel s c D) w' ∧ FrE A w w') := by
  refine Ctr.of (t := tX1_gotCancelling) (lv0 := [some (vr (A 13)), some (vi ((c : Nat) : Int)), some (vi ((s : Nat) : Int))]) (by decide +kernel) tX1_gotCancelling_ok rfl rfl (fun w g hP M => ?_)
  have h28 := Dok_how hd (x := c) (by omega)
  refine M.run 2 (pc' := 2) (lv' := [some (vr (A 13)), some (vi ((c : Nat) : Int)), some (vi ((s : Nat) : Int))]) (st' := [vi 1, vi ((s : Nat) : Int)]) rfl ?_
  refine M.icmp_eq (tgt := 21) rfl (qI (by omega)) (qI (by decide)) (by decide) (fun h2 => ?_) (fun h2 => ?_)
  · skip
    refine M.run 1 (pc' := 22) (lv' := [some (vr (A 13)), some (vi ((c : Nat) : Int)), some (vi ((s : Nat) : Int))]) (st' := [vr (A 13)]) rfl ?_
    refine M.get fl_X1_15 rfl hP.2.2.1 (kf := 1) (v := vr (A 0)) rfl ?_
    refine M.get fl_X1_50 rfl hP.1.1 (kf := 5) (v := vr (A 1)) rfl ?_
    refine M.run 4 (pc' := 32) (lv' := [some (vr (A 13)), some (vi ((c : Nat) : Int)), some (vi ((s : Nat) : Int))]) (st' := [vi (0 + ((s : Nat) : Int)), vi ((c : Nat) : Int), vr (A 1)]) rfl ?_
    rw [show (0 : Int) + ((s : Nat) : Int) = ((s : Nat) : Int) from Int.zero_add _]
    refine M.run 1 (pc' := 33) (lv' := [some (vr (A 13)), some (vi ((c : Nat) : Int)), some (vi ((s : Nat) : Int))]) (st' := [vi 3, vi ((s : Nat) : Int), vi ((c : Nat) : Int), vr (A 1)]) rfl ?_
    refine M.callV (qB_put l G hb A T tl fx X cl dr D c s (by omega) (by omega) 3) cv_X1_54 cd_X4_put rfl (st := []) rfl (iS_b hP.1).1 (by decide) (by decide) rfl (Nat.zero_le _) (Nat.zero_le _) hP (fun r2 w3 q4 => ?_)
    obtain ⟨q4r, q4e, q4f⟩ := q4
    rw [q4r]
    have hE1 : isEn G hb A T tl fx X cl dr (mS (28 + 3 * s + c) 3 D) w3 := q4e
    have hF1 : FrE A w w3 := FrE.tr (FrE.rf (A := A) (w := w)) q4f
    have hE6 : isEn G hb A T tl fx X cl dr (mS (28 + 3 * s + c) 3 D) w3 := by exact hE1
    have hd6 : Dok n (mS (28 + 3 * s + c) 3 D) := Dok_howS hd (by omega) (by omega)
    have hJ6 : Jok (mS (28 + 3 * s + c) 3 D) := Jok_S hJ (fun _ _ => by omega) (fun _ _ => by decide) (fun _ _ => rfl)
    refine M.run 5 (pc' := 41) (lv' := [some (vr (A 13)), some (vi ((c : Nat) : Int)), some (vi ((s : Nat) : Int))]) (st' := [vi 0, vi (-1), vi ((c : Nat) : Int), vi ((s : Nat) : Int), vr (A 13)]) rfl ?_
    refine M.ldc (x := 2147483647) kc_X1_91 rfl rfl ?_
    refine M.callV (nX1_forget l G hb A T tl fx X cl dr (mS (28 + 3 * s + c) 3 D) hT n hd6 (by omega) hJ6 s (by omega) ((c : Nat) : Int) (-1) 0 2147483647 (by omega) (by omega) (by omega) (by omega)) cv_X1_92 cd_X1_forget rfl (st := []) rfl hE6.2.2.1 (by decide) (by decide) rfl (Nat.zero_le _) (Nat.zero_le _) hE6 (fun r8 w9 q10 => ?_)
    obtain ⟨q10r, q10e, q10f⟩ := q10
    rw [q10r]
    have hE7 : isEn G hb A T tl fx X cl dr (mDrop s (pKS c (-1) 0) (mS (28 + 3 * s + c) 3 D)) w9 := by rw [← drop_all (n := n) (Dok_howS hd (by omega) (by omega)) hn hs]; exact q10e
    have hF7 : FrE A w w9 := FrE.tr hF1 q10f
    refine M.run 1 (pc' := 47) (lv' := [some (vr (A 13)), some (vi ((c : Nat) : Int)), some (vi ((s : Nat) : Int))]) (st' := [vr (A 13)]) rfl ?_
    refine M.get fl_X1_15 rfl hE7.2.2.1 (kf := 1) (v := vr (A 0)) rfl ?_
    refine M.run 1 (pc' := 51) (lv' := [some (vr (A 13)), some (vi ((c : Nat) : Int)), some (vi ((s : Nat) : Int))]) (st' := [vi ((s : Nat) : Int), vr (A 0)]) rfl ?_
    refine M.callV (qS_line l G hb A T tl fx X cl dr (mDrop s (pKS c (-1) 0) (mS (28 + 3 * s + c) 3 D)) s (by omega)) cv_X1_32 cd_X6_line rfl (st := []) rfl hE7.1.1 (by decide) (by decide) rfl (Nat.zero_le _) (Nat.zero_le _) hE7 (fun r12 w13 q14 => ?_)
    rw [q14.1, q14.2]
    refine M.run 7 (pc' := 61) (lv' := [some (vr (A 13)), some (vi ((c : Nat) : Int)), some (vi ((s : Nat) : Int))]) (st' := [vi 0, vi 0, vi 0, vi 0, vi 0, vi ((c : Nat) : Int), vi 4, vr (A (3 + 2 * s))]) rfl ?_
    refine M.callV (qL_add l G hb A T tl fx X cl dr (mDrop s (pKS c (-1) 0) (mS (28 + 3 * s + c) 3 D)) s (by omega) 4 ((c : Nat) : Int) 0 0 0 0 0) cv_X1_96 cd_X4_addMessage rfl (st := []) rfl (iS_l hE7.1 (s := s) (by omega)).1 (by decide) (by decide) rfl (Nat.zero_le _) (Nat.zero_le _) hE7 (fun r17 w18 q19 => ?_)
    obtain ⟨q19r, q19e, q19f⟩ := q19
    rw [q19r]
    have hE16 : isEn G hb A T tl fx X cl dr (mPut s (rwM 4 ((c : Nat) : Int) 0 0 0 0 0) (mDrop s (pKS c (-1) 0) (mS (28 + 3 * s + c) 3 D))) w18 := q19e
    have hF16 : FrE A w w18 := FrE.tr hF7 q19f
    exact M.vret rfl (Nat.zero_le _) (Nat.zero_le _) ⟨rfl, (by rw [mGotCancel_a (by omega)]; exact hE16), hF16⟩
  · skip
    refine M.run 1 (pc' := 6) (lv' := [some (vr (A 13)), some (vi ((c : Nat) : Int)), some (vi ((s : Nat) : Int))]) (st' := [vr (A 13)]) rfl ?_
    refine M.get fl_X1_15 rfl hP.2.2.1 (kf := 1) (v := vr (A 0)) rfl ?_
    refine M.get fl_X1_50 rfl hP.1.1 (kf := 5) (v := vr (A 1)) rfl ?_
    refine M.run 2 (pc' := 14) (lv' := [some (vr (A 13)), some (vi ((c : Nat) : Int)), some (vi ((s : Nat) : Int))]) (st' := [vi 0, vi ((c : Nat) : Int), vr (A 1)]) rfl ?_
    refine M.callV (qB_get l G hb A T tl fx X cl dr D c 0 (by omega) (by decide)) cv_X1_88 cd_X4_get rfl (st := []) rfl (iS_b hP.1).1 (by decide) (by decide) rfl (Nat.zero_le _) (Nat.zero_le _) hP (fun r21 w22 q23 => ?_)
    rw [q23.1, q23.2]
    rw [show D.1 (28 + 3 * 0 + c) = D.1 (28 + c) from rfl]
    refine M.run 1 (pc' := 18) (lv' := [some (vr (A 13)), some (vi ((c : Nat) : Int)), some (vi ((s : Nat) : Int))]) (st' := [vi 1, vi (D.1 (28 + c))]) rfl ?_
    refine M.icmp_ne (tgt := 46) rfl (qI (by omega)) (qI (by decide)) (by decide) (fun h18 => ?_) (fun h18 => ?_)
    · skip
      refine M.run 1 (pc' := 47) (lv' := [some (vr (A 13)), some (vi ((c : Nat) : Int)), some (vi ((s : Nat) : Int))]) (st' := [vr (A 13)]) rfl ?_
      refine M.get fl_X1_15 rfl hP.2.2.1 (kf := 1) (v := vr (A 0)) rfl ?_
      refine M.run 1 (pc' := 51) (lv' := [some (vr (A 13)), some (vi ((c : Nat) : Int)), some (vi ((s : Nat) : Int))]) (st' := [vi ((s : Nat) : Int), vr (A 0)]) rfl ?_
      refine M.callV (qS_line l G hb A T tl fx X cl dr D s (by omega)) cv_X1_32 cd_X6_line rfl (st := []) rfl hP.1.1 (by decide) (by decide) rfl (Nat.zero_le _) (Nat.zero_le _) hP (fun r25 w26 q27 => ?_)
      rw [q27.1, q27.2]
      refine M.run 7 (pc' := 61) (lv' := [some (vr (A 13)), some (vi ((c : Nat) : Int)), some (vi ((s : Nat) : Int))]) (st' := [vi 0, vi 0, vi 0, vi 0, vi 0, vi ((c : Nat) : Int), vi 4, vr (A (3 + 2 * s))]) rfl ?_
      refine M.callV (qL_add l G hb A T tl fx X cl dr D s (by omega) 4 ((c : Nat) : Int) 0 0 0 0 0) cv_X1_96 cd_X4_addMessage rfl (st := []) rfl (iS_l hP.1 (s := s) (by omega)).1 (by decide) (by decide) rfl (Nat.zero_le _) (Nat.zero_le _) hP (fun r30 w31 q32 => ?_)
      obtain ⟨q32r, q32e, q32f⟩ := q32
      rw [q32r]
      have hE29 : isEn G hb A T tl fx X cl dr (mPut s (rwM 4 ((c : Nat) : Int) 0 0 0 0 0) D) w31 := q32e
      have hF29 : FrE A w w31 := FrE.tr (FrE.rf (A := A) (w := w)) q32f
      exact M.vret rfl (Nat.zero_le _) (Nat.zero_le _) ⟨rfl, (by rw [mGotCancel_b (by omega)]; exact hE29), hF29⟩
    · skip
      refine M.run 1 (pc' := 22) (lv' := [some (vr (A 13)), some (vi ((c : Nat) : Int)), some (vi ((s : Nat) : Int))]) (st' := [vr (A 13)]) rfl ?_
      refine M.get fl_X1_15 rfl hP.2.2.1 (kf := 1) (v := vr (A 0)) rfl ?_
      refine M.get fl_X1_50 rfl hP.1.1 (kf := 5) (v := vr (A 1)) rfl ?_
      refine M.run 4 (pc' := 32) (lv' := [some (vr (A 13)), some (vi ((c : Nat) : Int)), some (vi ((s : Nat) : Int))]) (st' := [vi (0 + ((s : Nat) : Int)), vi ((c : Nat) : Int), vr (A 1)]) rfl ?_
      rw [show (0 : Int) + ((s : Nat) : Int) = ((s : Nat) : Int) from Int.zero_add _]
      refine M.run 1 (pc' := 33) (lv' := [some (vr (A 13)), some (vi ((c : Nat) : Int)), some (vi ((s : Nat) : Int))]) (st' := [vi 3, vi ((s : Nat) : Int), vi ((c : Nat) : Int), vr (A 1)]) rfl ?_
      refine M.callV (qB_put l G hb A T tl fx X cl dr D c s (by omega) (by omega) 3) cv_X1_54 cd_X4_put rfl (st := []) rfl (iS_b hP.1).1 (by decide) (by decide) rfl (Nat.zero_le _) (Nat.zero_le _) hP (fun r35 w36 q37 => ?_)
      obtain ⟨q37r, q37e, q37f⟩ := q37
      rw [q37r]
      have hE34 : isEn G hb A T tl fx X cl dr (mS (28 + 3 * s + c) 3 D) w36 := q37e
      have hF34 : FrE A w w36 := FrE.tr (FrE.rf (A := A) (w := w)) q37f
      have hE39 : isEn G hb A T tl fx X cl dr (mS (28 + 3 * s + c) 3 D) w36 := by exact hE34
      have hd39 : Dok n (mS (28 + 3 * s + c) 3 D) := Dok_howS hd (by omega) (by omega)
      have hJ39 : Jok (mS (28 + 3 * s + c) 3 D) := Jok_S hJ (fun _ _ => by omega) (fun _ _ => by decide) (fun _ _ => rfl)
      refine M.run 5 (pc' := 41) (lv' := [some (vr (A 13)), some (vi ((c : Nat) : Int)), some (vi ((s : Nat) : Int))]) (st' := [vi 0, vi (-1), vi ((c : Nat) : Int), vi ((s : Nat) : Int), vr (A 13)]) rfl ?_
      refine M.ldc (x := 2147483647) kc_X1_91 rfl rfl ?_
      refine M.callV (nX1_forget l G hb A T tl fx X cl dr (mS (28 + 3 * s + c) 3 D) hT n hd39 (by omega) hJ39 s (by omega) ((c : Nat) : Int) (-1) 0 2147483647 (by omega) (by omega) (by omega) (by omega)) cv_X1_92 cd_X1_forget rfl (st := []) rfl hE39.2.2.1 (by decide) (by decide) rfl (Nat.zero_le _) (Nat.zero_le _) hE39 (fun r41 w42 q43 => ?_)
      obtain ⟨q43r, q43e, q43f⟩ := q43
      rw [q43r]
      have hE40 : isEn G hb A T tl fx X cl dr (mDrop s (pKS c (-1) 0) (mS (28 + 3 * s + c) 3 D)) w42 := by rw [← drop_all (n := n) (Dok_howS hd (by omega) (by omega)) hn hs]; exact q43e
      have hF40 : FrE A w w42 := FrE.tr hF34 q43f
      refine M.run 1 (pc' := 47) (lv' := [some (vr (A 13)), some (vi ((c : Nat) : Int)), some (vi ((s : Nat) : Int))]) (st' := [vr (A 13)]) rfl ?_
      refine M.get fl_X1_15 rfl hE40.2.2.1 (kf := 1) (v := vr (A 0)) rfl ?_
      refine M.run 1 (pc' := 51) (lv' := [some (vr (A 13)), some (vi ((c : Nat) : Int)), some (vi ((s : Nat) : Int))]) (st' := [vi ((s : Nat) : Int), vr (A 0)]) rfl ?_
      refine M.callV (qS_line l G hb A T tl fx X cl dr (mDrop s (pKS c (-1) 0) (mS (28 + 3 * s + c) 3 D)) s (by omega)) cv_X1_32 cd_X6_line rfl (st := []) rfl hE40.1.1 (by decide) (by decide) rfl (Nat.zero_le _) (Nat.zero_le _) hE40 (fun r45 w46 q47 => ?_)
      rw [q47.1, q47.2]
      refine M.run 7 (pc' := 61) (lv' := [some (vr (A 13)), some (vi ((c : Nat) : Int)), some (vi ((s : Nat) : Int))]) (st' := [vi 0, vi 0, vi 0, vi 0, vi 0, vi ((c : Nat) : Int), vi 4, vr (A (3 + 2 * s))]) rfl ?_
      refine M.callV (qL_add l G hb A T tl fx X cl dr (mDrop s (pKS c (-1) 0) (mS (28 + 3 * s + c) 3 D)) s (by omega) 4 ((c : Nat) : Int) 0 0 0 0 0) cv_X1_96 cd_X4_addMessage rfl (st := []) rfl (iS_l hE40.1 (s := s) (by omega)).1 (by decide) (by decide) rfl (Nat.zero_le _) (Nat.zero_le _) hE40 (fun r50 w51 q52 => ?_)
      obtain ⟨q52r, q52e, q52f⟩ := q52
      rw [q52r]
      have hE49 : isEn G hb A T tl fx X cl dr (mPut s (rwM 4 ((c : Nat) : Int) 0 0 0 0 0) (mDrop s (pKS c (-1) 0) (mS (28 + 3 * s + c) 3 D))) w51 := q52e
      have hF49 : FrE A w w51 := FrE.tr hF40 q52f
      exact M.vret rfl (Nat.zero_le _) (Nat.zero_le _) ⟨rfl, (by rw [mGotCancel_a (by omega)]; exact hE49), hF49⟩
set_option maxHeartbeats 4000000 in
set_option maxRecDepth 100000 in
theorem nX1_got (l : Launch) (G : GT) (hb : Nat) (A T : Nat → Nat) (tl fx : Nat → Int) (X : Nat → Int → Option Gn) (cl : Nat → Int) (dr : Int) (D : Dy) (hT : Tok tl) (n : Int) (hd : Dok n D) (hn : n ≤ 1900000000) (hJ : Jok D) (hZ : Tz tl) (i : Nat) (hi : i < D.2.2.1.length)  : Ctr l G yX1_got cX1_got 6 ((Option.none : Option Jvm.ClassFile.FieldType)) 5 0 0 [vr (A 13), vi ((i : Nat) : Int)] (fun w => isEn G hb A T tl fx X cl dr D w) (fun w r w' => r = none ∧ isEn G hb A T tl fx X cl dr (mGotB tl (gR D.2.2.1 i) D) w' ∧ FrE A w w') := by
  refine Ctr.of (t := tX1_got) (lv0 := [some (vr (A 13)), some (vi ((i : Nat) : Int)), none, none, none, none]) (by decide +kernel) tX1_got_ok rfl rfl (fun w g hP M => ?_)
  have hl := Dok_f hd
  have hn0 := Dok_n0 hd
  obtain ⟨hr0, hr1, hr2, hr3, hr4, hr5, hr6, hr7, hr8, hr9⟩ := Dok_fr hd hi
  refine M.run 1 (pc' := 1) (lv' := [some (vr (A 13)), some (vi ((i : Nat) : Int)), none, none, none, none]) (st' := [vr (A 13)]) rfl ?_
  refine M.get fl_X1_15 rfl hP.2.2.1 (kf := 1) (v := vr (A 0)) rfl ?_
  refine M.get fl_X1_100 rfl hP.1.1 (kf := 8) (v := vr (A 7)) rfl ?_
  refine M.run 4 (pc' := 11) (lv' := [some (vr (A 13)), some (vi ((i : Nat) : Int)), some (vr (A 7)), none, none, none]) (st' := [vi 1, vi ((i : Nat) : Int), vr (A 7)]) rfl ?_
  refine M.callV (qF_get l G hb A T tl fx X cl dr D i 1 (by omega) (by decide)) cv_X1_88 cd_X4_get rfl (st := []) rfl (iS_f hP.1).1 (by decide) (by decide) rfl (Nat.zero_le _) (Nat.zero_le _) hP (fun r1 w2 q3 => ?_)
  rw [q3.1, q3.2]
  refine M.run 4 (pc' := 18) (lv' := [some (vr (A 13)), some (vi ((i : Nat) : Int)), some (vr (A 7)), some (vi (gR D.2.2.1 i 1)), none, none]) (st' := [vi 2, vi ((i : Nat) : Int), vr (A 7)]) rfl ?_
  refine M.callV (qF_get l G hb A T tl fx X cl dr D i 2 (by omega) (by decide)) cv_X1_88 cd_X4_get rfl (st := []) rfl (iS_f hP.1).1 (by decide) (by decide) rfl (Nat.zero_le _) (Nat.zero_le _) hP (fun r5 w6 q7 => ?_)
  rw [q7.1, q7.2]
  refine M.run 4 (pc' := 27) (lv' := [some (vr (A 13)), some (vi ((i : Nat) : Int)), some (vr (A 7)), some (vi (gR D.2.2.1 i 1)), some (vi (gR D.2.2.1 i 2)), none]) (st' := [vi 8, vi ((i : Nat) : Int), vr (A 7)]) rfl ?_
  refine M.callV (qF_get l G hb A T tl fx X cl dr D i 8 (by omega) (by decide)) cv_X1_88 cd_X4_get rfl (st := []) rfl (iS_f hP.1).1 (by decide) (by decide) rfl (Nat.zero_le _) (Nat.zero_le _) hP (fun r9 w10 q11 => ?_)
  rw [q11.1, q11.2]
  refine M.run 4 (pc' := 35) (lv' := [some (vr (A 13)), some (vi ((i : Nat) : Int)), some (vr (A 7)), some (vi (gR D.2.2.1 i 1)), some (vi (gR D.2.2.1 i 2)), some (vi (gR D.2.2.1 i 8))]) (st' := [vi 0, vi ((i : Nat) : Int), vr (A 7)]) rfl ?_
  refine M.callV (qF_get l G hb A T tl fx X cl dr D i 0 (by omega) (by decide)) cv_X1_88 cd_X4_get rfl (st := []) rfl (iS_f hP.1).1 (by decide) (by decide) rfl (Nat.zero_le _) (Nat.zero_le _) hP (fun r13 w14 q15 => ?_)
  rw [q15.1, q15.2]
  rw [show gR D.2.2.1 i 1 = (((gR D.2.2.1 i 1).toNat : Nat) : Int) from (Int.toNat_of_nonneg hr1.1).symm]
  rw [show gR D.2.2.1 i 8 = (((gR D.2.2.1 i 8).toNat : Nat) : Int) from (Int.toNat_of_nonneg hr9.1).symm]
  by_cases hs38_0 : gR D.2.2.1 i 0 = 0
  · refine M.tswIn (tgt := 72) (off := 34) rfl (qI (by omega)) (by omega) (by omega) (by rw [hs38_0]; rfl) (by decide) ?_
    refine M.run 6 (pc' := 79) (lv' := [some (vr (A 13)), some (vi ((i : Nat) : Int)), some (vr (A 7)), some (vi (((gR D.2.2.1 i 1).toNat : Nat) : Int)), some (vi (gR D.2.2.1 i 2)), some (vi (((gR D.2.2.1 i 8).toNat : Nat) : Int))]) (st' := [vi 3, vi ((i : Nat) : Int), vr (A 7), vi (gR D.2.2.1 i 2), vi (((gR D.2.2.1 i 1).toNat : Nat) : Int), vr (A 13)]) rfl ?_
    refine M.callV (qF_get l G hb A T tl fx X cl dr D i 3 (by omega) (by decide)) cv_X1_88 cd_X4_get rfl (st := [vi (gR D.2.2.1 i 2), vi (((gR D.2.2.1 i 1).toNat : Nat) : Int), vr (A 13)]) rfl (iS_f hP.1).1 (by decide) (by decide) rfl (Nat.zero_le _) (Nat.zero_le _) hP (fun r17 w18 q19 => ?_)
    rw [q19.1, q19.2]
    rw [show gR D.2.2.1 i 3 = (((gR D.2.2.1 i 3).toNat : Nat) : Int) from (Int.toNat_of_nonneg hr3.1).symm]
    refine M.run 3 (pc' := 85) (lv' := [some (vr (A 13)), some (vi ((i : Nat) : Int)), some (vr (A 7)), some (vi (((gR D.2.2.1 i 1).toNat : Nat) : Int)), some (vi (gR D.2.2.1 i 2)), some (vi (((gR D.2.2.1 i 8).toNat : Nat) : Int))]) (st' := [vi 4, vi ((i : Nat) : Int), vr (A 7), vi (((gR D.2.2.1 i 3).toNat : Nat) : Int), vi (gR D.2.2.1 i 2), vi (((gR D.2.2.1 i 1).toNat : Nat) : Int), vr (A 13)]) rfl ?_
    refine M.callV (qF_get l G hb A T tl fx X cl dr D i 4 (by omega) (by decide)) cv_X1_88 cd_X4_get rfl (st := [vi (((gR D.2.2.1 i 3).toNat : Nat) : Int), vi (gR D.2.2.1 i 2), vi (((gR D.2.2.1 i 1).toNat : Nat) : Int), vr (A 13)]) rfl (iS_f hP.1).1 (by decide) (by decide) rfl (Nat.zero_le _) (Nat.zero_le _) hP (fun r21 w22 q23 => ?_)
    rw [q23.1, q23.2]
    have hr5b := hr5 hs38_0
    rw [show gR D.2.2.1 i 4 = (((gR D.2.2.1 i 4).toNat : Nat) : Int) from (Int.toNat_of_nonneg hr4.1).symm]
    refine M.callS (kX0_between l G ((gR D.2.2.1 i 3).toNat) ((gR D.2.2.1 i 4).toNat) (by omega) (by omega)) cs_X1_80 cd_X0_between rfl (st := [vi (gR D.2.2.1 i 2), vi (((gR D.2.2.1 i 1).toNat : Nat) : Int), vr (A 13)]) rfl (by decide) (by decide) rfl (Nat.zero_le _) (Nat.zero_le _) trivial (fun r25 w26 q27 => ?_)
    rw [q27.1, q27.2]
    refine M.callV (nX1_gotData l G hb A T tl fx X cl dr D hT n hd (by omega) hJ hZ ((gR D.2.2.1 i 1).toNat) (by omega) (gR D.2.2.1 i 2) (by omega) ((gR D.2.2.1 i 3).toNat) ((gR D.2.2.1 i 4).toNat) (by omega)) cv_X1_148 cd_X1_gotData rfl (st := []) rfl hP.2.2.1 (by decide) (by decide) rfl (Nat.zero_le _) (Nat.zero_le _) hP (fun r30 w31 q32 => ?_)
    obtain ⟨q32r, q32e, q32f⟩ := q32
    rw [q32r]
    have hE29 : isEn G hb A T tl fx X cl dr (mGotData tl ((gR D.2.2.1 i 1).toNat) (gR D.2.2.1 i 2) ((gR D.2.2.1 i 3).toNat) ((gR D.2.2.1 i 4).toNat) D) w31 := q32e
    have hF29 : FrE A w w31 := FrE.tr (FrE.rf (A := A) (w := w)) q32f
    refine M.run 1 (pc' := 158) (lv' := [some (vr (A 13)), some (vi ((i : Nat) : Int)), some (vr (A 7)), some (vi (((gR D.2.2.1 i 1).toNat : Nat) : Int)), some (vi (gR D.2.2.1 i 2)), some (vi (((gR D.2.2.1 i 8).toNat : Nat) : Int))]) (st' := []) rfl ?_
    exact M.vret rfl (Nat.zero_le _) (Nat.zero_le _) ⟨rfl, (by rw [mGotB_0 hs38_0]; exact hE29), hF29⟩
  by_cases hs38_1 : gR D.2.2.1 i 0 = 1
  · refine M.tswIn (tgt := 97) (off := 59) rfl (qI (by omega)) (by omega) (by omega) (by rw [hs38_1]; rfl) (by decide) ?_
    refine M.run 6 (pc' := 104) (lv' := [some (vr (A 13)), some (vi ((i : Nat) : Int)), some (vr (A 7)), some (vi (((gR D.2.2.1 i 1).toNat : Nat) : Int)), some (vi (gR D.2.2.1 i 2)), some (vi (((gR D.2.2.1 i 8).toNat : Nat) : Int))]) (st' := [vi 4, vi ((i : Nat) : Int), vr (A 7), vi (gR D.2.2.1 i 2), vi (((gR D.2.2.1 i 1).toNat : Nat) : Int), vr (A 13)]) rfl ?_
    refine M.callV (qF_get l G hb A T tl fx X cl dr D i 4 (by omega) (by decide)) cv_X1_88 cd_X4_get rfl (st := [vi (gR D.2.2.1 i 2), vi (((gR D.2.2.1 i 1).toNat : Nat) : Int), vr (A 13)]) rfl (iS_f hP.1).1 (by decide) (by decide) rfl (Nat.zero_le _) (Nat.zero_le _) hP (fun r34 w35 q36 => ?_)
    rw [q36.1, q36.2]
    refine M.run 3 (pc' := 110) (lv' := [some (vr (A 13)), some (vi ((i : Nat) : Int)), some (vr (A 7)), some (vi (((gR D.2.2.1 i 1).toNat : Nat) : Int)), some (vi (gR D.2.2.1 i 2)), some (vi (((gR D.2.2.1 i 8).toNat : Nat) : Int))]) (st' := [vi 5, vi ((i : Nat) : Int), vr (A 7), vi (gR D.2.2.1 i 4), vi (gR D.2.2.1 i 2), vi (((gR D.2.2.1 i 1).toNat : Nat) : Int), vr (A 13)]) rfl ?_
    refine M.callV (qF_get l G hb A T tl fx X cl dr D i 5 (by omega) (by decide)) cv_X1_88 cd_X4_get rfl (st := [vi (gR D.2.2.1 i 4), vi (gR D.2.2.1 i 2), vi (((gR D.2.2.1 i 1).toNat : Nat) : Int), vr (A 13)]) rfl (iS_f hP.1).1 (by decide) (by decide) rfl (Nat.zero_le _) (Nat.zero_le _) hP (fun r38 w39 q40 => ?_)
    rw [q40.1, q40.2]
    rw [show gR D.2.2.1 i 5 = (((gR D.2.2.1 i 5).toNat : Nat) : Int) from (Int.toNat_of_nonneg hr6.1).symm]
    refine M.callV (nX1_gotReport l G hb A T tl fx X cl dr D hT n hd (by omega) hJ hZ ((gR D.2.2.1 i 1).toNat) (by omega) (gR D.2.2.1 i 2) (gR D.2.2.1 i 4) (by omega) (by omega) ((gR D.2.2.1 i 5).toNat) (by omega)) cv_X1_151 cd_X1_gotReport rfl (st := []) rfl hP.2.2.1 (by decide) (by decide) rfl (Nat.zero_le _) (Nat.zero_le _) hP (fun r43 w44 q45 => ?_)
    obtain ⟨q45r, q45e, q45f⟩ := q45
    rw [q45r]
    have hE42 : isEn G hb A T tl fx X cl dr (mGotReport tl ((gR D.2.2.1 i 1).toNat) (gR D.2.2.1 i 2) (gR D.2.2.1 i 4) ((gR D.2.2.1 i 5).toNat) D) w44 := q45e
    have hF42 : FrE A w w44 := FrE.tr (FrE.rf (A := A) (w := w)) q45f
    refine M.run 1 (pc' := 158) (lv' := [some (vr (A 13)), some (vi ((i : Nat) : Int)), some (vr (A 7)), some (vi (((gR D.2.2.1 i 1).toNat : Nat) : Int)), some (vi (gR D.2.2.1 i 2)), some (vi (((gR D.2.2.1 i 8).toNat : Nat) : Int))]) (st' := []) rfl ?_
    exact M.vret rfl (Nat.zero_le _) (Nat.zero_le _) ⟨rfl, (by rw [mGotB_1 hs38_1]; exact hE42), hF42⟩
  by_cases hs38_2 : gR D.2.2.1 i 0 = 2
  · refine M.tswIn (tgt := 119) (off := 81) rfl (qI (by omega)) (by omega) (by omega) (by rw [hs38_2]; rfl) (by decide) ?_
    refine M.run 6 (pc' := 128) (lv' := [some (vr (A 13)), some (vi ((i : Nat) : Int)), some (vr (A 7)), some (vi (((gR D.2.2.1 i 1).toNat : Nat) : Int)), some (vi (gR D.2.2.1 i 2)), some (vi (((gR D.2.2.1 i 8).toNat : Nat) : Int))]) (st' := [vi (gR D.2.2.1 i 2), vi (gR D.2.2.1 i 2), vi 1, vi (((gR D.2.2.1 i 1).toNat : Nat) : Int), vi (((gR D.2.2.1 i 8).toNat : Nat) : Int), vr (A 13)]) rfl ?_
    refine M.callV (nX1_forget l G hb A T tl fx X cl dr D hT n hd (by omega) hJ ((gR D.2.2.1 i 8).toNat) (by omega) (((gR D.2.2.1 i 1).toNat : Nat) : Int) 1 (gR D.2.2.1 i 2) (gR D.2.2.1 i 2) (by omega) (by omega) (by omega) (by omega)) cv_X1_92 cd_X1_forget rfl (st := []) rfl hP.2.2.1 (by decide) (by decide) rfl (Nat.zero_le _) (Nat.zero_le _) hP (fun r48 w49 q50 => ?_)
    obtain ⟨q50r, q50e, q50f⟩ := q50
    rw [q50r]
    have hE47 : isEn G hb A T tl fx X cl dr (mDrop (gR D.2.2.1 i 8).toNat (pKS (((gR D.2.2.1 i 1).toNat : Nat) : Int) 1 (gR D.2.2.1 i 2)) D) w49 := by rw [← drop_one (by decide)]; exact q50e
    have hF47 : FrE A w w49 := FrE.tr (FrE.rf (A := A) (w := w)) q50f
    refine M.run 1 (pc' := 158) (lv' := [some (vr (A 13)), some (vi ((i : Nat) : Int)), some (vr (A 7)), some (vi (((gR D.2.2.1 i 1).toNat : Nat) : Int)), some (vi (gR D.2.2.1 i 2)), some (vi (((gR D.2.2.1 i 8).toNat : Nat) : Int))]) (st' := []) rfl ?_
    exact M.vret rfl (Nat.zero_le _) (Nat.zero_le _) ⟨rfl, (by rw [mGotB_2 hs38_2]; exact hE47), hF47⟩
  by_cases hs38_3 : gR D.2.2.1 i 0 = 3
  · refine M.tswIn (tgt := 134) (off := 96) rfl (qI (by omega)) (by omega) (by omega) (by rw [hs38_3]; rfl) (by decide) ?_
    refine M.run 3 (pc' := 138) (lv' := [some (vr (A 13)), some (vi ((i : Nat) : Int)), some (vr (A 7)), some (vi (((gR D.2.2.1 i 1).toNat : Nat) : Int)), some (vi (gR D.2.2.1 i 2)), some (vi (((gR D.2.2.1 i 8).toNat : Nat) : Int))]) (st' := [vi (((gR D.2.2.1 i 8).toNat : Nat) : Int), vi (((gR D.2.2.1 i 1).toNat : Nat) : Int), vr (A 13)]) rfl ?_
    refine M.callV (nX1_gotCancelling l G hb A T tl fx X cl dr D hT n hd (by omega) hJ ((gR D.2.2.1 i 1).toNat) (by omega) ((gR D.2.2.1 i 8).toNat) (by omega)) cv_X1_154 cd_X1_gotCancelling rfl (st := []) rfl hP.2.2.1 (by decide) (by decide) rfl (Nat.zero_le _) (Nat.zero_le _) hP (fun r53 w54 q55 => ?_)
    obtain ⟨q55r, q55e, q55f⟩ := q55
    rw [q55r]
    have hE52 : isEn G hb A T tl fx X cl dr (mGotCancel ((gR D.2.2.1 i 8).toNat) ((gR D.2.2.1 i 1).toNat) D) w54 := q55e
    have hF52 : FrE A w w54 := FrE.tr (FrE.rf (A := A) (w := w)) q55f
    refine M.run 1 (pc' := 158) (lv' := [some (vr (A 13)), some (vi ((i : Nat) : Int)), some (vr (A 7)), some (vi (((gR D.2.2.1 i 1).toNat : Nat) : Int)), some (vi (gR D.2.2.1 i 2)), some (vi (((gR D.2.2.1 i 8).toNat : Nat) : Int))]) (st' := []) rfl ?_
    exact M.vret rfl (Nat.zero_le _) (Nat.zero_le _) ⟨rfl, (by rw [mGotB_3 hs38_3]; exact hE52), hF52⟩
  by_cases hs38_4 : gR D.2.2.1 i 0 = 4
  · refine M.tswIn (tgt := 144) (off := 106) rfl (qI (by omega)) (by omega) (by omega) (by rw [hs38_4]; rfl) (by decide) ?_
    refine M.run 5 (pc' := 150) (lv' := [some (vr (A 13)), some (vi ((i : Nat) : Int)), some (vr (A 7)), some (vi (((gR D.2.2.1 i 1).toNat : Nat) : Int)), some (vi (gR D.2.2.1 i 2)), some (vi (((gR D.2.2.1 i 8).toNat : Nat) : Int))]) (st' := [vi 0, vi 3, vi (((gR D.2.2.1 i 1).toNat : Nat) : Int), vi (((gR D.2.2.1 i 8).toNat : Nat) : Int), vr (A 13)]) rfl ?_
    refine M.ldc (x := 2147483647) kc_X1_91 rfl rfl ?_
    refine M.callV (nX1_forget l G hb A T tl fx X cl dr D hT n hd (by omega) hJ ((gR D.2.2.1 i 8).toNat) (by omega) (((gR D.2.2.1 i 1).toNat : Nat) : Int) 3 0 2147483647 (by omega) (by omega) (by omega) (by omega)) cv_X1_92 cd_X1_forget rfl (st := []) rfl hP.2.2.1 (by decide) (by decide) rfl (Nat.zero_le _) (Nat.zero_le _) hP (fun r58 w59 q60 => ?_)
    obtain ⟨q60r, q60e, q60f⟩ := q60
    rw [q60r]
    have hE57 : isEn G hb A T tl fx X cl dr (mDrop (gR D.2.2.1 i 8).toNat (pKS (((gR D.2.2.1 i 1).toNat : Nat) : Int) 3 0) D) w59 := by rw [← drop_three hJ (by omega)]; exact q60e
    have hF57 : FrE A w w59 := FrE.tr (FrE.rf (A := A) (w := w)) q60f
    refine M.run 1 (pc' := 158) (lv' := [some (vr (A 13)), some (vi ((i : Nat) : Int)), some (vr (A 7)), some (vi (((gR D.2.2.1 i 1).toNat : Nat) : Int)), some (vi (gR D.2.2.1 i 2)), some (vi (((gR D.2.2.1 i 8).toNat : Nat) : Int))]) (st' := []) rfl ?_
    exact M.vret rfl (Nat.zero_le _) (Nat.zero_le _) ⟨rfl, (by rw [mGotB_4 hs38_4]; exact hE57), hF57⟩
  refine M.tswOut (tgt := 158) rfl (qI (by omega)) (by omega) (by decide) ?_
  exact M.vret rfl (Nat.zero_le _) (Nat.zero_le _) (by exfalso; omega)
