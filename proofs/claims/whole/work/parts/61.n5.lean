set_option maxHeartbeats 4000000 in
set_option maxRecDepth 100000 in
theorem nX1_tick (l : Launch) (G : GT) (hb : Nat) (A T : Nat → Nat) (tl fx : Nat → Int) (X : Nat → Int → Option Gn) (cl : Nat → Int) (dr : Int) (D : Dy) (hT : Tok tl) (n : Int) (hd : Dok n D) (hn : n ≤ 1800000000) (hJ : Jok D) (hZ : Tz tl) (hru : -1 ≤ tl 2 ∧ tl 2 < tl 1) (hdr : dr = 0 ∨ dr = 1) (hf38 : (mGet tl D).2.2.1.length ≤ 38) (h20 : D.1 20 < 10400)  : Ctr l G yX1_tick cX1_tick 5 ((Option.none : Option Jvm.ClassFile.FieldType)) 6 0 0 [vr (A 13)] (fun w => isEn G hb A T tl fx X cl dr D w) (fun w r w' => r = none ∧ isEn G hb A T tl fx X cl dr (mTick X tl (1 - dr) D) w' ∧ FrE A w w') := by
  refine Ctr.of (t := tX1_tick) (lv0 := [some (vr (A 13)), none, none, none, none]) (by decide +kernel) tX1_tick_ok rfl rfl (fun w g hP M => ?_)
  have hck := Dok_clk hd
  have hsn := Dok_sun hd
  have hfl := Dok_f hd
  have hk6 : 1 ≤ tl 6 ∧ tl 6 ≤ 20 := hT.1 6 (by decide)
  refine M.run 1 (pc' := 1) (lv' := [some (vr (A 13)), none, none, none, none]) (st' := [vr (A 13)]) rfl ?_
  refine M.get fl_X1_15 rfl hP.2.2.1 (kf := 1) (v := vr (A 0)) rfl ?_
  refine M.get fl_X1_100 rfl hP.1.1 (kf := 8) (v := vr (A 7)) rfl ?_
  refine M.run 2 (pc' := 9) (lv' := [some (vr (A 13)), some (vr (A 7)), none, none, none]) (st' := [vr (A 7)]) rfl ?_
  refine M.get fl_X1_38 rfl (iS_f hP.1).1 (kf := 2) (v := vi ((D.2.2.1.length : Nat) : Int)) rfl ?_
  refine M.run 5 (pc' := 18) (lv' := [some (vr (A 13)), some (vr (A 7)), some (vi ((D.2.2.1.length : Nat) : Int)), some (vi 0), some (vi 0)]) (st' := []) rfl ?_
  have Lp18 : ∀ (N : Nat) (at_ : Nat) (k : Nat) (Dc : Dy) (wa : Wo), (isEn G hb A T tl fx X cl dr Dc wa) → (FrE A w wa) → (Dok (n + ((k : Nat) : Int)) Dc) → (Jok Dc) → (k ≤ D.2.2.1.length) → (at_ ≤ k) → (Dc.2.2.1.length + k = D.2.2.1.length + at_) → (Dc.1 18 = D.1 18) → (mGots tl (D.2.2.1.length - k) at_ Dc = mGet tl D) → D.2.2.1.length - k < N → g 0 0 wa 18 [some (vr (A 13)), some (vr (A 7)), some (vi ((D.2.2.1.length : Nat) : Int)), some (vi ((at_ : Nat) : Int)), some (vi ((k : Nat) : Int))] [] := by
    intro N
    induction N with
    | zero => intro at_ k Dc wa _ _ _ _ _ _ _ _ _ hN; exact absurd hN (Nat.not_lt_zero _)
    | succ N ih18 =>
      intro at_ k Dc wa hEa hFa hda hJa hk hak hln hca hI hN
      refine M.run 2 (pc' := 21) (lv' := [some (vr (A 13)), some (vr (A 7)), some (vi ((D.2.2.1.length : Nat) : Int)), some (vi ((at_ : Nat) : Int)), some (vi ((k : Nat) : Int))]) (st' := [vi ((D.2.2.1.length : Nat) : Int), vi ((k : Nat) : Int)]) rfl ?_
      refine M.icmp_ge (tgt := 63) rfl (qI (by omega)) (qI (by omega)) (by decide) (fun h21 => ?_) (fun h21 => ?_)
      · skip
        have hg0 : Dc = mGet tl D := by rw [← hI, show D.2.2.1.length - k = 0 by omega]; rfl
        have hdg : Dok (n + 40) (mGet tl D) := Dok_mono (by omega) (hg0 ▸ hda)
        have hJg : Jok (mGet tl D) := hg0 ▸ hJa
        have h18g : (mGet tl D).1 18 = D.1 18 := hg0 ▸ hca
        have h20g : (mGet tl D).1 20 = D.1 20 := mGots_k (by decide) _ _
        have hE1 : isEn G hb A T tl fx X cl dr (mGet tl D) wa := by rw [← hg0]; exact hEa
        have hd1 : Dok (n + 40) (mGet tl D) := hdg
        have hJ1 : Jok (mGet tl D) := hJg
        refine M.run 1 (pc' := 64) (lv' := [some (vr (A 13)), some (vr (A 7)), some (vi ((D.2.2.1.length : Nat) : Int)), some (vi ((at_ : Nat) : Int)), some (vi ((k : Nat) : Int))]) (st' := [vr (A 13)]) rfl ?_
        refine M.get fl_X1_9 rfl hE1.2.2.1 (kf := 0) (v := vr (T 0)) rfl ?_
        refine M.run 1 (pc' := 68) (lv' := [some (vr (A 13)), some (vr (A 7)), some (vi ((D.2.2.1.length : Nat) : Int)), some (vi ((at_ : Nat) : Int)), some (vi ((k : Nat) : Int))]) (st' := [vr (A 13), vr (T 0)]) rfl ?_
        refine M.get fl_X1_15 rfl hE1.2.2.1 (kf := 1) (v := vr (A 0)) rfl ?_
        refine M.get fl_X1_61 rfl hE1.1.1 (kf := 0) (v := vi ((mGet tl D).1 18)) rfl ?_
        refine M.callV (qO_sees l G hb A T tl fx X cl dr (mGet tl D) hT ((mGet tl D).1 18) ⟨by omega, by omega⟩) cv_X1_109 cd_X9_sees rfl (st := []) rfl hE1.2.1.1 (by decide) (by decide) rfl (Nat.zero_le _) (Nat.zero_le _) hE1 (fun r2 w3 q4 => ?_)
        rw [q4.1, q4.2]
        refine M.if_eq (tgt := 107) rfl (inI_zb _) (by decide) (fun h77 => ?_) (fun h77 => ?_)
        · skip
          replace h77 := zb_f0 h77
          have h77 : ¬ mSn tl ((mGet tl D).1 18) = true := by rw [h77]; decide
          refine M.run 1 (pc' := 108) (lv' := [some (vr (A 13)), some (vr (A 7)), some (vi ((D.2.2.1.length : Nat) : Int)), some (vi ((at_ : Nat) : Int)), some (vi ((k : Nat) : Int))]) (st' := [vr (A 13)]) rfl ?_
          refine M.get fl_X1_15 rfl hE1.2.2.1 (kf := 1) (v := vr (A 0)) rfl ?_
          refine M.run 1 (pc' := 112) (lv' := [some (vr (A 13)), some (vr (A 7)), some (vi ((D.2.2.1.length : Nat) : Int)), some (vi ((at_ : Nat) : Int)), some (vi ((k : Nat) : Int))]) (st' := [vr (A 0), vr (A 0)]) rfl ?_
          refine M.get fl_X1_61 rfl hE1.1.1 (kf := 0) (v := vi ((mGet tl D).1 18)) rfl ?_
          refine M.run 2 (pc' := 117) (lv' := [some (vr (A 13)), some (vr (A 7)), some (vi ((D.2.2.1.length : Nat) : Int)), some (vi ((at_ : Nat) : Int)), some (vi ((k : Nat) : Int))]) (st' := [vi (((mGet tl D).1 18) + 1), vr (A 0)]) rfl ?_
          refine M.put fl_X1_61 rfl (hE1.1.1) rfl rfl (Nat.le_of_ble_eq_true rfl) ?_
          obtain ⟨hE6, hFf6⟩ := isEn_n (k := 18) (kf := 0) (v := ((mGet tl D).1 18) + 1) hE1 (by decide)
          have hF6 : FrE A w (up wa (A 0) (Ob 5 ([vi ((mGet tl D).1 18), vi ((mGet tl D).1 20), vi ((mGet tl D).1 19), vi ((mGet tl D).1 21), vi ((mGet tl D).1 22), vr (A 1), vr (A 3), vr (A 5), vr (A 7), vr (A 9), vr (A 11)].set 0 (vi (((mGet tl D).1 18) + 1))))) := FrE.tr hFa hFf6
          generalize up wa (A 0) (Ob 5 ([vi ((mGet tl D).1 18), vi ((mGet tl D).1 20), vi ((mGet tl D).1 19), vi ((mGet tl D).1 21), vi ((mGet tl D).1 22), vr (A 1), vr (A 3), vr (A 5), vr (A 7), vr (A 9), vr (A 11)].set 0 (vi (((mGet tl D).1 18) + 1)))) = w6 at hE6 hF6 ⊢
          exact M.vret rfl (Nat.zero_le _) (Nat.zero_le _) ⟨rfl, (by unfold mTick; rw [if_neg h77]; exact hE6), hF6⟩
        · skip
          replace h77 := zb_t h77
          refine M.run 2 (pc' := 82) (lv' := [some (vr (A 13)), some (vr (A 7)), some (vi ((D.2.2.1.length : Nat) : Int)), some (vi ((at_ : Nat) : Int)), some (vi ((k : Nat) : Int))]) (st' := [vi 0, vr (A 13)]) rfl ?_
          refine M.callV (nX1_send l G hb A T tl fx X cl dr (mGet tl D) hT (n + 40) hd1 (by omega) hJ1 hZ hru hdr 0 (by omega) (by omega)) cv_X1_113 cd_X1_send rfl (st := []) rfl hE1.2.2.1 (by decide) (by decide) rfl (Nat.zero_le _) (Nat.zero_le _) hE1 (fun r8 w9 q10 => ?_)
          obtain ⟨q10r, q10e, q10f⟩ := q10
          rw [q10r]
          have hE7 : isEn G hb A T tl fx X cl dr (mSnd X tl (1 - dr) 0 (mGet tl D)) w9 := q10e
          have hF7 : FrE A w w9 := FrE.tr hFa q10f
          have hd12 : Dok (n + 40 + 31) (mSnd X tl (1 - dr) 0 (mGet tl D)) := Dok_snd hT hdg (by decide) (by omega)
          have hJ12 : Jok (mSnd X tl (1 - dr) 0 (mGet tl D)) := Jok_snd hJg (by decide)
          refine M.run 2 (pc' := 87) (lv' := [some (vr (A 13)), some (vr (A 7)), some (vi ((D.2.2.1.length : Nat) : Int)), some (vi ((at_ : Nat) : Int)), some (vi ((k : Nat) : Int))]) (st' := [vi 1, vr (A 13)]) rfl ?_
          refine M.callV (nX1_send l G hb A T tl fx X cl dr (mSnd X tl (1 - dr) 0 (mGet tl D)) hT (n + 40 + 31) hd12 (by omega) hJ12 hZ hru hdr 1 (by omega) (by have hh := mSnd_f (X := X) (a0 := tl) (sure := 1 - dr) (s := 0) (D := mGet tl D); omega)) cv_X1_113 cd_X1_send rfl (st := []) rfl hE7.2.2.1 (by decide) (by decide) rfl (Nat.zero_le _) (Nat.zero_le _) hE7 (fun r14 w15 q16 => ?_)
          obtain ⟨q16r, q16e, q16f⟩ := q16
          rw [q16r]
          have hE13 : isEn G hb A T tl fx X cl dr (mSnd X tl (1 - dr) 1 (mSnd X tl (1 - dr) 0 (mGet tl D))) w15 := q16e
          have hF13 : FrE A w w15 := FrE.tr hF7 q16f
          refine M.run 1 (pc' := 91) (lv' := [some (vr (A 13)), some (vr (A 7)), some (vi ((D.2.2.1.length : Nat) : Int)), some (vi ((at_ : Nat) : Int)), some (vi ((k : Nat) : Int))]) (st' := [vr (A 13)]) rfl ?_
          refine M.get fl_X1_15 rfl hE13.2.2.1 (kf := 1) (v := vr (A 0)) rfl ?_
          refine M.run 1 (pc' := 95) (lv' := [some (vr (A 13)), some (vr (A 7)), some (vi ((D.2.2.1.length : Nat) : Int)), some (vi ((at_ : Nat) : Int)), some (vi ((k : Nat) : Int))]) (st' := [vr (A 0), vr (A 0)]) rfl ?_
          refine M.get fl_X1_116 rfl hE13.1.1 (kf := 1) (v := vi ((mSnd X tl (1 - dr) 1 (mSnd X tl (1 - dr) 0 (mGet tl D))).1 20)) rfl ?_
          refine M.run 2 (pc' := 100) (lv' := [some (vr (A 13)), some (vr (A 7)), some (vi ((D.2.2.1.length : Nat) : Int)), some (vi ((at_ : Nat) : Int)), some (vi ((k : Nat) : Int))]) (st' := [vi (((mSnd X tl (1 - dr) 1 (mSnd X tl (1 - dr) 0 (mGet tl D))).1 20) + 1), vr (A 0)]) rfl ?_
          refine M.put fl_X1_116 rfl (hE13.1.1) rfl rfl (Nat.le_of_ble_eq_true rfl) ?_
          obtain ⟨hE18, hFf18⟩ := isEn_n (k := 20) (kf := 1) (v := ((mSnd X tl (1 - dr) 1 (mSnd X tl (1 - dr) 0 (mGet tl D))).1 20) + 1) hE13 (by decide)
          have hF18 : FrE A w (up w15 (A 0) (Ob 5 ([vi ((mSnd X tl (1 - dr) 1 (mSnd X tl (1 - dr) 0 (mGet tl D))).1 18), vi ((mSnd X tl (1 - dr) 1 (mSnd X tl (1 - dr) 0 (mGet tl D))).1 20), vi ((mSnd X tl (1 - dr) 1 (mSnd X tl (1 - dr) 0 (mGet tl D))).1 19), vi ((mSnd X tl (1 - dr) 1 (mSnd X tl (1 - dr) 0 (mGet tl D))).1 21), vi ((mSnd X tl (1 - dr) 1 (mSnd X tl (1 - dr) 0 (mGet tl D))).1 22), vr (A 1), vr (A 3), vr (A 5), vr (A 7), vr (A 9), vr (A 11)].set 1 (vi (((mSnd X tl (1 - dr) 1 (mSnd X tl (1 - dr) 0 (mGet tl D))).1 20) + 1))))) := FrE.tr hF13 hFf18
          generalize up w15 (A 0) (Ob 5 ([vi ((mSnd X tl (1 - dr) 1 (mSnd X tl (1 - dr) 0 (mGet tl D))).1 18), vi ((mSnd X tl (1 - dr) 1 (mSnd X tl (1 - dr) 0 (mGet tl D))).1 20), vi ((mSnd X tl (1 - dr) 1 (mSnd X tl (1 - dr) 0 (mGet tl D))).1 19), vi ((mSnd X tl (1 - dr) 1 (mSnd X tl (1 - dr) 0 (mGet tl D))).1 21), vi ((mSnd X tl (1 - dr) 1 (mSnd X tl (1 - dr) 0 (mGet tl D))).1 22), vr (A 1), vr (A 3), vr (A 5), vr (A 7), vr (A 9), vr (A 11)].set 1 (vi (((mSnd X tl (1 - dr) 1 (mSnd X tl (1 - dr) 0 (mGet tl D))).1 20) + 1)))) = w18 at hE18 hF18 ⊢
          have hE19 : isEn G hb A T tl fx X cl dr (mSee X tl (1 - dr) (mGet tl D)) w18 := by exact hE18
          have hd19 : Dok (n + 40 + 62) (mSee X tl (1 - dr) (mGet tl D)) := Dok_see hT hdg hf38 (by omega)
          have hJ19 : Jok (mSee X tl (1 - dr) (mGet tl D)) := Jok_o (Jok_snd (Jok_snd hJg (by decide)) (by decide)) (by omega)
          refine M.run 1 (pc' := 104) (lv' := [some (vr (A 13)), some (vr (A 7)), some (vi ((D.2.2.1.length : Nat) : Int)), some (vi ((at_ : Nat) : Int)), some (vi ((k : Nat) : Int))]) (st' := [vr (A 13)]) rfl ?_
          refine M.callV (nX1_ring l G hb A T tl fx X cl dr (mSee X tl (1 - dr) (mGet tl D)) hT (n + 40 + 62) hd19 (by omega) hJ19 ) cv_X1_119 cd_X1_ring rfl (st := []) rfl hE19.2.2.1 (by decide) (by decide) rfl (Nat.zero_le _) (Nat.zero_le _) hE19 (fun r21 w22 q23 => ?_)
          obtain ⟨q23r, q23e, q23f⟩ := q23
          rw [q23r]
          have hE20 : isEn G hb A T tl fx X cl dr (mRings tl 16 (mSee X tl (1 - dr) (mGet tl D))) w22 := q23e
          have hF20 : FrE A w w22 := FrE.tr hF18 q23f
          refine M.run 1 (pc' := 108) (lv' := [some (vr (A 13)), some (vr (A 7)), some (vi ((D.2.2.1.length : Nat) : Int)), some (vi ((at_ : Nat) : Int)), some (vi ((k : Nat) : Int))]) (st' := [vr (A 13)]) rfl ?_
          refine M.get fl_X1_15 rfl hE20.2.2.1 (kf := 1) (v := vr (A 0)) rfl ?_
          refine M.run 1 (pc' := 112) (lv' := [some (vr (A 13)), some (vr (A 7)), some (vi ((D.2.2.1.length : Nat) : Int)), some (vi ((at_ : Nat) : Int)), some (vi ((k : Nat) : Int))]) (st' := [vr (A 0), vr (A 0)]) rfl ?_
          refine M.get fl_X1_61 rfl hE20.1.1 (kf := 0) (v := vi ((mRings tl 16 (mSee X tl (1 - dr) (mGet tl D))).1 18)) rfl ?_
          refine M.run 2 (pc' := 117) (lv' := [some (vr (A 13)), some (vr (A 7)), some (vi ((D.2.2.1.length : Nat) : Int)), some (vi ((at_ : Nat) : Int)), some (vi ((k : Nat) : Int))]) (st' := [vi (((mRings tl 16 (mSee X tl (1 - dr) (mGet tl D))).1 18) + 1), vr (A 0)]) rfl ?_
          refine M.put fl_X1_61 rfl (hE20.1.1) rfl rfl (Nat.le_of_ble_eq_true rfl) ?_
          obtain ⟨hE25, hFf25⟩ := isEn_n (k := 18) (kf := 0) (v := ((mRings tl 16 (mSee X tl (1 - dr) (mGet tl D))).1 18) + 1) hE20 (by decide)
          have hF25 : FrE A w (up w22 (A 0) (Ob 5 ([vi ((mRings tl 16 (mSee X tl (1 - dr) (mGet tl D))).1 18), vi ((mRings tl 16 (mSee X tl (1 - dr) (mGet tl D))).1 20), vi ((mRings tl 16 (mSee X tl (1 - dr) (mGet tl D))).1 19), vi ((mRings tl 16 (mSee X tl (1 - dr) (mGet tl D))).1 21), vi ((mRings tl 16 (mSee X tl (1 - dr) (mGet tl D))).1 22), vr (A 1), vr (A 3), vr (A 5), vr (A 7), vr (A 9), vr (A 11)].set 0 (vi (((mRings tl 16 (mSee X tl (1 - dr) (mGet tl D))).1 18) + 1))))) := FrE.tr hF20 hFf25
          generalize up w22 (A 0) (Ob 5 ([vi ((mRings tl 16 (mSee X tl (1 - dr) (mGet tl D))).1 18), vi ((mRings tl 16 (mSee X tl (1 - dr) (mGet tl D))).1 20), vi ((mRings tl 16 (mSee X tl (1 - dr) (mGet tl D))).1 19), vi ((mRings tl 16 (mSee X tl (1 - dr) (mGet tl D))).1 21), vi ((mRings tl 16 (mSee X tl (1 - dr) (mGet tl D))).1 22), vr (A 1), vr (A 3), vr (A 5), vr (A 7), vr (A 9), vr (A 11)].set 0 (vi (((mRings tl 16 (mSee X tl (1 - dr) (mGet tl D))).1 18) + 1)))) = w25 at hE25 hF25 ⊢
          exact M.vret rfl (Nat.zero_le _) (Nat.zero_le _) ⟨rfl, (by unfold mTick; rw [if_pos h77]; exact hE25), hF25⟩
      · skip
        refine M.run 3 (pc' := 28) (lv' := [some (vr (A 13)), some (vr (A 7)), some (vi ((D.2.2.1.length : Nat) : Int)), some (vi ((at_ : Nat) : Int)), some (vi ((k : Nat) : Int))]) (st' := [vi 7, vi ((at_ : Nat) : Int), vr (A 7)]) rfl ?_
        refine M.callV (qF_get l G hb A T tl fx X cl dr Dc at_ 7 (by omega) (by decide)) cv_X1_88 cd_X4_get rfl (st := []) rfl (iS_f hEa.1).1 (by decide) (by decide) rfl (Nat.zero_le _) (Nat.zero_le _) hEa (fun r26 w27 q28 => ?_)
        rw [q28.1, q28.2]
        have hr7 := (Dok_fr hda (i := at_) (by omega)).2.2.2.2.2.2.2.2.1
        have hcc := Dok_clk hda
        refine M.run 1 (pc' := 32) (lv' := [some (vr (A 13)), some (vr (A 7)), some (vi ((D.2.2.1.length : Nat) : Int)), some (vi ((at_ : Nat) : Int)), some (vi ((k : Nat) : Int))]) (st' := [vr (A 13), vi (gR Dc.2.2.1 at_ 7)]) rfl ?_
        refine M.get fl_X1_15 rfl hEa.2.2.1 (kf := 1) (v := vr (A 0)) rfl ?_
        refine M.get fl_X1_61 rfl hEa.1.1 (kf := 0) (v := vi (Dc.1 18)) rfl ?_
        refine M.icmp_ne (tgt := 54) rfl (qI (by omega)) (qI (by omega)) (by decide) (fun h38 => ?_) (fun h38 => ?_)
        · skip
          refine M.run 3 (pc' := 18) (lv' := [some (vr (A 13)), some (vr (A 7)), some (vi ((D.2.2.1.length : Nat) : Int)), some (vi (((at_ : Nat) : Int) + 1)), some (vi (((k : Nat) : Int) + 1))]) (st' := []) rfl ?_
          exact ih18 (at_ + 1) (k + 1) Dc wa hEa hFa (Dok_mono (by omega) hda) hJa (by omega) (by omega) (by omega) hca (by rw [← hI, mGots_n (by omega) (by omega) h38, show D.2.2.1.length - k - 1 = D.2.2.1.length - (k + 1) by omega]) (by omega)
        · skip
          refine M.run 2 (pc' := 43) (lv' := [some (vr (A 13)), some (vr (A 7)), some (vi ((D.2.2.1.length : Nat) : Int)), some (vi ((at_ : Nat) : Int)), some (vi ((k : Nat) : Int))]) (st' := [vi ((at_ : Nat) : Int), vr (A 13)]) rfl ?_
          refine M.callV (nX1_got l G hb A T tl fx X cl dr Dc hT (n + ((k : Nat) : Int)) hda (by omega) hJa hZ at_ (by omega)) cv_X1_103 cd_X1_got rfl (st := []) rfl hEa.2.2.1 (by decide) (by decide) rfl (Nat.zero_le _) (Nat.zero_le _) hEa (fun r31 w32 q33 => ?_)
          obtain ⟨q33r, q33e, q33f⟩ := q33
          rw [q33r]
          have hE30 : isEn G hb A T tl fx X cl dr (mGotB tl (gR Dc.2.2.1 at_) Dc) w32 := q33e
          have hF30 : FrE A w w32 := FrE.tr hFa q33f
          refine M.run 2 (pc' := 48) (lv' := [some (vr (A 13)), some (vr (A 7)), some (vi ((D.2.2.1.length : Nat) : Int)), some (vi ((at_ : Nat) : Int)), some (vi ((k : Nat) : Int))]) (st' := [vi ((at_ : Nat) : Int), vr (A 7)]) rfl ?_
          refine M.callV (qF_rem l G hb A T tl fx X cl dr (mGotB tl (gR Dc.2.2.1 at_) Dc) at_ (by rw [mGot_C.2]; omega)) cv_X1_106 cd_X4_remove rfl (st := []) rfl (iS_f hE30.1).1 (by decide) (by decide) rfl (Nat.zero_le _) (Nat.zero_le _) hE30 (fun r36 w37 q38 => ?_)
          obtain ⟨q38r, q38e, q38f⟩ := q38
          rw [q38r]
          have hE35 : isEn G hb A T tl fx X cl dr (mGot tl at_ Dc) w37 := by rw [← mGot_C.1]; exact q38e
          have hF35 : FrE A w w37 := FrE.tr hF30 q38f
          refine M.run 3 (pc' := 18) (lv' := [some (vr (A 13)), some (vr (A 7)), some (vi ((D.2.2.1.length : Nat) : Int)), some (vi ((at_ : Nat) : Int)), some (vi (((k : Nat) : Int) + 1))]) (st' := []) rfl ?_
          exact ih18 at_ (k + 1) (mGot tl at_ Dc) w37 hE35 hF35 (Dok_mono (by omega) (Dok_got hT hda (by omega))) (Jok_got hda hJa (by omega)) (by omega) (by omega) (by rw [mGot_f, List.length_eraseIdx, if_pos (by omega)]; omega) (by rw [mGot_k (by decide)]; exact hca) (by rw [← hI, mGots_g (by omega) (by omega) h38, show D.2.2.1.length - k - 1 = D.2.2.1.length - (k + 1) by omega]) (by omega)
  exact Lp18 _ 0 0 D w hP (FrE.rf (A := A) (w := w)) (Dok_mono (by omega) hd) hJ (Nat.zero_le _) (Nat.le_refl _) rfl rfl rfl (Nat.lt_succ_self _)
set_option maxHeartbeats 4000000 in
set_option maxRecDepth 100000 in
theorem nX1_ticksTillEnd (l : Launch) (G : GT) (hb : Nat) (A T : Nat → Nat) (tl fx : Nat → Int) (X : Nat → Int → Option Gn) (cl : Nat → Int) (dr : Int) (D : Dy) (hT : Tok tl) (n : Int) (hd : Dok n D) (hn : n ≤ 1700000000) (hJ : Jok D) (hZ : Tz tl) (hru : -1 ≤ tl 2 ∧ tl 2 < tl 1) (hdr : dr = 0 ∨ dr = 1) (c : Nat) (hc : c < 3) (hi : Inv D) (h18 : D.1 18 ≤ 9999)  : Ctr l G yX1_ticksTillEnd cX1_ticksTillEnd 3 ((Option.some Jvm.ClassFile.FieldType.int)) 7 0 0 [vr (A 13), vi ((c : Nat) : Int)] (fun w => isEn G hb A T tl fx X cl dr D w) (fun w r w' => r = some (vi (mEnds X tl (1 - dr) c 400 0 D)) ∧ (∃ D9, isEn G hb A T tl fx X cl dr D9 w') ∧ FrE A w w') := by
  refine Ctr.of (t := tX1_ticksTillEnd) (lv0 := [some (vr (A 13)), some (vi ((c : Nat) : Int)), none]) (by decide +kernel) tX1_ticksTillEnd_ok rfl rfl (fun w g hP M => ?_)
  refine M.run 2 (pc' := 2) (lv' := [some (vr (A 13)), some (vi ((c : Nat) : Int)), some (vi 0)]) (st' := []) rfl ?_
  have Lp2 : ∀ (N : Nat) (k : Nat) (Dc : Dy) (wa : Wo), (isEn G hb A T tl fx X cl dr Dc wa) → (FrE A w wa) → (Dok (n + 110 * ((k : Nat) : Int)) Dc) → (Jok Dc) → (Inv Dc) → (k ≤ 401) → (Dc.1 18 ≤ 9999 + ((k : Nat) : Int)) → ((k = 0 ∧ Dc = D) ∨ (0 < k ∧ Dc.1 (28 + c) = 1 ∧ mEnds X tl (1 - dr) c 400 0 D = mEnds X tl (1 - dr) c (400 - (k - 1)) (k - 1) Dc)) → 401 - k < N → g 0 0 wa 2 [some (vr (A 13)), some (vi ((c : Nat) : Int)), some (vi ((k : Nat) : Int))] [] := by
    intro N
    induction N with
    | zero => intro k Dc wa _ _ _ _ _ _ _ _ hN; exact absurd hN (Nat.not_lt_zero _)
    | succ N ih2 =>
      intro k Dc wa hEa hFa hda hJa hia hk h18a hI hN
      refine M.run 2 (pc' := 6) (lv' := [some (vr (A 13)), some (vi ((c : Nat) : Int)), some (vi ((k : Nat) : Int))]) (st' := [vi 400, vi ((k : Nat) : Int)]) rfl ?_
      refine M.icmp_gt (tgt := 41) rfl (qI (by omega)) (qI (by decide)) (by decide) (fun h6 => ?_) (fun h6 => ?_)
      · skip
        refine M.run 1 (pc' := 42) (lv' := [some (vr (A 13)), some (vi ((c : Nat) : Int)), some (vi ((k : Nat) : Int))]) (st' := [vi (-1)]) rfl ?_
        exact M.iret rfl (Nat.zero_le _) (Nat.zero_le _) ⟨reI (by have hI3 := (hI.resolve_left (fun z => absurd z.1 (by omega))).2; rw [hI3.2, show 400 - (k - 1) = 0 by omega]; exact (mEnds_0 hI3.1).symm), ⟨_, hEa⟩, hFa⟩
      · skip
        refine M.run 1 (pc' := 10) (lv' := [some (vr (A 13)), some (vi ((c : Nat) : Int)), some (vi ((k : Nat) : Int))]) (st' := [vi ((k : Nat) : Int)]) rfl ?_
        refine M.if_le (tgt := 17) rfl (qI (by omega)) (by decide) (fun h10 => ?_) (fun h10 => ?_)
        · skip
          have hk0 : k = 0 := by omega
          have hDD : Dc = D := hI.elim (fun z => z.2) (fun z => absurd z.1 (by omega))
          have hI2 : mEnds X tl (1 - dr) c 400 0 D = mEnds X tl (1 - dr) c (400 - k) k Dc := by rw [hk0, hDD]
          have hd2 : Dok (n + 110 * ((k : Nat) : Int) + 110) Dc := Dok_mono (by omega) hda
          have hJ2 := hJa
          have hi2 := hia
          have h182 : Dc.1 18 ≤ 9999 + ((k : Nat) : Int) + 1 := by omega
          have h28 := Dok_how hd2 (x := c) (by omega)
          refine M.run 1 (pc' := 18) (lv' := [some (vr (A 13)), some (vi ((c : Nat) : Int)), some (vi ((k : Nat) : Int))]) (st' := [vr (A 13)]) rfl ?_
          refine M.get fl_X1_15 rfl hEa.2.2.1 (kf := 1) (v := vr (A 0)) rfl ?_
          refine M.get fl_X1_50 rfl hEa.1.1 (kf := 5) (v := vr (A 1)) rfl ?_
          refine M.run 2 (pc' := 26) (lv' := [some (vr (A 13)), some (vi ((c : Nat) : Int)), some (vi ((k : Nat) : Int))]) (st' := [vi 0, vi ((c : Nat) : Int), vr (A 1)]) rfl ?_
          refine M.callV (qB_get l G hb A T tl fx X cl dr Dc c 0 (by omega) (by decide)) cv_X1_88 cd_X4_get rfl (st := []) rfl (iS_b hEa.1).1 (by decide) (by decide) rfl (Nat.zero_le _) (Nat.zero_le _) hEa (fun r1 w2 q3 => ?_)
          rw [q3.1, q3.2]
          rw [show Dc.1 (28 + 3 * 0 + c) = Dc.1 (28 + c) from rfl]
          refine M.run 1 (pc' := 30) (lv' := [some (vr (A 13)), some (vi ((c : Nat) : Int)), some (vi ((k : Nat) : Int))]) (st' := [vi 1, vi (Dc.1 (28 + c))]) rfl ?_
          refine M.icmp_eq (tgt := 35) rfl (qI (by omega)) (qI (by decide)) (by decide) (fun h30 => ?_) (fun h30 => ?_)
          · skip
            refine M.run 2 (pc' := 2) (lv' := [some (vr (A 13)), some (vi ((c : Nat) : Int)), some (vi (((k : Nat) : Int) + 1))]) (st' := []) rfl ?_
            exact ih2 (k + 1) Dc wa hEa hFa (Dok_mono (by omega) hd2) hJ2 hi2 (by omega) (by omega) (Or.inr ⟨Nat.succ_pos _, h30, hI2⟩) (by omega)
          · skip
            refine M.run 1 (pc' := 34) (lv' := [some (vr (A 13)), some (vi ((c : Nat) : Int)), some (vi ((k : Nat) : Int))]) (st' := [vi ((k : Nat) : Int)]) rfl ?_
            exact M.iret rfl (Nat.zero_le _) (Nat.zero_le _) ⟨reI (by rw [hI2]; exact (mEnds_e h30).symm), ⟨_, hEa⟩, hFa⟩
        · skip
          refine M.run 1 (pc' := 14) (lv' := [some (vr (A 13)), some (vi ((c : Nat) : Int)), some (vi ((k : Nat) : Int))]) (st' := [vr (A 13)]) rfl ?_
          refine M.callV (nX1_tick l G hb A T tl fx X cl dr Dc hT (n + 110 * ((k : Nat) : Int)) hda (by omega) hJa hZ hru hdr (Inv_38 hia) (by have := hia.1; omega)) cv_X1_122 cd_X1_tick rfl (st := []) rfl hEa.2.2.1 (by decide) (by decide) rfl (Nat.zero_le _) (Nat.zero_le _) hEa (fun r6 w7 q8 => ?_)
          obtain ⟨q8r, q8e, q8f⟩ := q8
          rw [q8r]
          have hE5 : isEn G hb A T tl fx X cl dr (mTick X tl (1 - dr) Dc) w7 := q8e
          have hF5 : FrE A w w7 := FrE.tr hFa q8f
          have hI3 := (hI.resolve_left (fun z => absurd z.1 (by omega))).2
          have hI2 : mEnds X tl (1 - dr) c 400 0 D = mEnds X tl (1 - dr) c (400 - k) k (mTick X tl (1 - dr) Dc) := by rw [hI3.2, mEnds_s (by omega) hI3.1, show 400 - (k - 1) - 1 = 400 - k by omega, show k - 1 + 1 = k by omega]
          have hd2 : Dok (n + 110 * ((k : Nat) : Int) + 110) (mTick X tl (1 - dr) Dc) := Dok_tick hT hda (Inv_38 hia) (by omega) (by have := hia.1; omega)
          have hJ2 : Jok (mTick X tl (1 - dr) Dc) := Jok_tick hT hda hJa (Inv_38 hia) (by have := hia.1; omega)
          have hi2 : Inv (mTick X tl (1 - dr) Dc) := Inv_tick hT hia
          have h182 : (mTick X tl (1 - dr) Dc).1 18 ≤ 9999 + ((k : Nat) : Int) + 1 := by rw [mTick_18]; omega
          have h28 := Dok_how hd2 (x := c) (by omega)
          refine M.run 1 (pc' := 18) (lv' := [some (vr (A 13)), some (vi ((c : Nat) : Int)), some (vi ((k : Nat) : Int))]) (st' := [vr (A 13)]) rfl ?_
          refine M.get fl_X1_15 rfl hE5.2.2.1 (kf := 1) (v := vr (A 0)) rfl ?_
          refine M.get fl_X1_50 rfl hE5.1.1 (kf := 5) (v := vr (A 1)) rfl ?_
          refine M.run 2 (pc' := 26) (lv' := [some (vr (A 13)), some (vi ((c : Nat) : Int)), some (vi ((k : Nat) : Int))]) (st' := [vi 0, vi ((c : Nat) : Int), vr (A 1)]) rfl ?_
          refine M.callV (qB_get l G hb A T tl fx X cl dr (mTick X tl (1 - dr) Dc) c 0 (by omega) (by decide)) cv_X1_88 cd_X4_get rfl (st := []) rfl (iS_b hE5.1).1 (by decide) (by decide) rfl (Nat.zero_le _) (Nat.zero_le _) hE5 (fun r10 w11 q12 => ?_)
          rw [q12.1, q12.2]
          rw [show (mTick X tl (1 - dr) Dc).1 (28 + 3 * 0 + c) = (mTick X tl (1 - dr) Dc).1 (28 + c) from rfl]
          refine M.run 1 (pc' := 30) (lv' := [some (vr (A 13)), some (vi ((c : Nat) : Int)), some (vi ((k : Nat) : Int))]) (st' := [vi 1, vi ((mTick X tl (1 - dr) Dc).1 (28 + c))]) rfl ?_
          refine M.icmp_eq (tgt := 35) rfl (qI (by omega)) (qI (by decide)) (by decide) (fun h30 => ?_) (fun h30 => ?_)
          · skip
            refine M.run 2 (pc' := 2) (lv' := [some (vr (A 13)), some (vi ((c : Nat) : Int)), some (vi (((k : Nat) : Int) + 1))]) (st' := []) rfl ?_
            exact ih2 (k + 1) (mTick X tl (1 - dr) Dc) w7 hE5 hF5 (Dok_mono (by omega) hd2) hJ2 hi2 (by omega) (by omega) (Or.inr ⟨Nat.succ_pos _, h30, hI2⟩) (by omega)
          · skip
            refine M.run 1 (pc' := 34) (lv' := [some (vr (A 13)), some (vi ((c : Nat) : Int)), some (vi ((k : Nat) : Int))]) (st' := [vi ((k : Nat) : Int)]) rfl ?_
            exact M.iret rfl (Nat.zero_le _) (Nat.zero_le _) ⟨reI (by rw [hI2]; exact (mEnds_e h30).symm), ⟨_, hE5⟩, hF5⟩
  exact Lp2 _ 0 D w hP (FrE.rf (A := A) (w := w)) (Dok_mono (by omega) hd) hJ hi (Nat.zero_le _) (by omega) (Or.inl ⟨rfl, rfl⟩) (Nat.lt_succ_self _)
