theorem mRedOf_lt {tl : Nat → Int} (hT : Tok tl) {b : Nat} (hb : b < 3) : mRedOf tl b < 1073741824 := bFs_lt (by have := Tok_red hT hb; omega)
theorem cFin_k {b : Nat} {D : Dy} : (cFin b D).2.2.1 = D.2.2.1 := rfl
/-- an opening in the class's way -/
theorem cOpen_eq {a0 : Nat → Int} {n : Int} {b : Nat} {D : Dy} (hT : Tok a0) (hd : Dok n D) (hJ : Jok D) (hb : b < 3) (h0 : D.1 (28 + b) = 0) (D3 : Dy) (hD3 : D3 = cPc false b (bPs (bIn (a0 (15 + b)).toNat (a0 (12 + b)).toNat) (a0 7).toNat) (cPc true b (bPs (bFs (a0 (15 + b)).toNat) (a0 7).toNat) (mNote (rwB (D.1 18) 0 b 0) (mS (28 + b) 1 D)))) :
    (a0 (15 + b) = 0 → cFin b D3 = mOpen a0 b D) ∧ (¬ a0 (15 + b) = 0 → D3 = mOpen a0 b D) := by
  have e : D3 = mPieces b 0 (bPs (bIn (a0 (15 + b)).toNat (a0 (12 + b)).toNat) (a0 7).toNat) (mRed a0 b (mRedOf a0 b) (mNote (rwB (D.1 18) 0 b 0) (mS (28 + b) 1 D))) := by
    rw [hD3, cPc_f, cPc_red]
    rfl
  refine ⟨fun h => ?_, fun h => ?_⟩
  · have hc := Dok_cnt hd (x := b) (by omega)
    have h1 : Jok (mNote (rwB (D.1 18) 0 b 0) (mS (28 + b) 1 D)) := Jok_note (Jok_S hJ (fun _ _ => by omega) (fun _ _ => by decide) (fun _ _ => by omega))
    have e40 : (mNote (rwB (D.1 18) 0 b 0) (mS (28 + b) 1 D)).1 (40 + b) = 0 := (uN_o (by omega)).trans (hJ.2.2.2 b hb h0)
    have er : mRed a0 b (mRedOf a0 b) (mNote (rwB (D.1 18) 0 b 0) (mS (28 + b) 1 D)) = mNote (rwB (D.1 18) 0 b 0) (mS (28 + b) 1 D) := by
      apply mRed_0
      unfold mRedOf
      rw [h, show bPs (bFs (0 : Int).toNat) (a0 7).toNat = [] from bPsF_e (by
        have hz : ∀ (k p : Nat), 30 - p ≤ k → p ≤ 30 → bNx 0 p = 30 := fun k => by
          induction k with
          | zero => intro p h1 h2; rw [bNx_e (by omega)]; omega
          | succ k ih =>
            intro p h1 h2
            by_cases q : p < 30
            · rw [bNx_s q, Nat.zero_testBit]; exact ih (p + 1) (by omega) (by omega)
            · rw [bNx_e (by omega)]; omega
        rw [show bFs (0 : Int).toNat = 0 from rfl, hz 30 0 (by omega) (by omega)]
        decide)]
      rfl
    have h3 : Jok D3 := by rw [e, er]; exact Jok_pieces _ _ h1 (by rw [e40]; exact Int.le_refl _) (by rw [e40]; exact Int.le_refl _)
    have p1 : ∀ (ck : Int) (L : List (Nat × Nat)) (D : Dy), (mPieces b ck L D).1 = D.1 := fun ck L => by
      induction L with
      | nil => intro D; rfl
      | cons q t ih =>
        intro D
        cases t with
        | nil => exact mPut_1 _ _ _
        | cons q2 t => exact (ih _).trans (mPut_1 _ _ _)
    rw [cFin_0 h3 hb (by rw [e, er, p1]; exact e40), e]
    unfold mOpen
    simp only [if_pos h]
  · rw [e]
    unfold mOpen
    simp only [if_neg h]
theorem cCan_eq {n : Int} {b s : Nat} {D : Dy} (hd : Dok n D) (hn : n ≤ 2000000000) (hs : s < 2) : mPut s (rwM 3 b 0 0 0 0 0) (mDrop s (pF b (-1) 0 2147483647) (mS (28 + 3 * s + b) 3 (mNote (rwB (D.1 18) (2 + (s : Int)) b 0) D))) = mCancel b s D := by
  have e : mDrop s (pF b (-1) 0 2147483647) (mS (28 + 3 * s + b) 3 (mNote (rwB (D.1 18) (2 + (s : Int)) b 0) D)) = mDrop s (pKS b (-1) 0) (mS (28 + 3 * s + b) 3 (mNote (rwB (D.1 18) (2 + (s : Int)) b 0) D)) := mDrop_c (fun r hr => pF_all ((hd.2.1 s hs).2 r hr) (by omega)) (fun r hr => pF_all (hd.2.2.2.1.2 r hr) (by omega))
  rw [e]
  rfl

set_option maxHeartbeats 4000000 in
set_option maxRecDepth 100000 in
theorem nX1_cancelBy (l : Launch) (G : GT) (hb : Nat) (A T : Nat → Nat) (tl fx : Nat → Int) (X : Nat → Int → Option Gn) (cl : Nat → Int) (dr : Int) (D : Dy) (hT : Tok tl) (n : Int) (hd : Dok n D) (hn : n ≤ 2000000000) (hJ : Jok D) (c : Nat) (hc : c < 3) (s : Nat) (hs : s < 2) : Ctr l G yX1_cancelBy cX1_cancelBy 3 ((Option.none : Option Jvm.ClassFile.FieldType)) 3 0 0 [vr (A 13), vi ((c : Nat) : Int), vi ((s : Nat) : Int)] (fun w => isEn G hb A T tl fx X cl dr D w) (fun w r w' => r = none ∧ isEn G hb A T tl fx X cl dr (mCancel c s D) w' ∧ FrE A w w') := by
  refine Ctr.of (t := tX1_cancelBy) (lv0 := [some (vr (A 13)), some (vi ((c : Nat) : Int)), some (vi ((s : Nat) : Int))]) (by decide +kernel) tX1_cancelBy_ok rfl rfl (fun w g hP M => ?_)
  have hck := Dok_clk hd
  refine M.run 1 (pc' := 1) (lv' := [some (vr (A 13)), some (vi ((c : Nat) : Int)), some (vi ((s : Nat) : Int))]) (st' := [vr (A 13)]) rfl ?_
  refine M.get fl_X1_15 rfl hP.2.2.1 (kf := 1) (v := vr (A 0)) rfl ?_
  refine M.get fl_X1_58 rfl hP.1.1 (kf := 10) (v := vr (A 11)) rfl ?_
  refine M.run 1 (pc' := 8) (lv' := [some (vr (A 13)), some (vi ((c : Nat) : Int)), some (vi ((s : Nat) : Int))]) (st' := [vr (A 13), vr (A 11)]) rfl ?_
  refine M.get fl_X1_15 rfl hP.2.2.1 (kf := 1) (v := vr (A 0)) rfl ?_
  refine M.get fl_X1_61 rfl hP.1.1 (kf := 0) (v := vi (D.1 18)) rfl ?_
  refine M.run 5 (pc' := 19) (lv' := [some (vr (A 13)), some (vi ((c : Nat) : Int)), some (vi ((s : Nat) : Int))]) (st' := [vi 0, vi ((c : Nat) : Int), vi (2 + ((s : Nat) : Int)), vi (D.1 18), vr (A 11)]) rfl ?_
  refine M.callV (qK_note l G hb A T tl fx X cl dr D (D.1 18) (2 + ((s : Nat) : Int)) ((c : Nat) : Int) 0) cv_X1_64 cd_X4_addNote rfl (st := []) rfl (iS_k hP.1).1 (by decide) (by decide) rfl (Nat.zero_le _) (Nat.zero_le _) hP (fun r2 w3 q4 => ?_)
  obtain ⟨q4r, q4e, q4f⟩ := q4
  rw [q4r]
  have hE1 : isEn G hb A T tl fx X cl dr (mNote (rwB (D.1 18) (2 + ((s : Nat) : Int)) ((c : Nat) : Int) 0) D) w3 := q4e
  have hF1 : FrE A w w3 := FrE.tr (FrE.rf (A := A) (w := w)) q4f
  refine M.run 1 (pc' := 23) (lv' := [some (vr (A 13)), some (vi ((c : Nat) : Int)), some (vi ((s : Nat) : Int))]) (st' := [vr (A 13)]) rfl ?_
  refine M.get fl_X1_15 rfl hE1.2.2.1 (kf := 1) (v := vr (A 0)) rfl ?_
  refine M.get fl_X1_50 rfl hE1.1.1 (kf := 5) (v := vr (A 1)) rfl ?_
  refine M.run 4 (pc' := 33) (lv' := [some (vr (A 13)), some (vi ((c : Nat) : Int)), some (vi ((s : Nat) : Int))]) (st' := [vi (0 + ((s : Nat) : Int)), vi ((c : Nat) : Int), vr (A 1)]) rfl ?_
  rw [show (0 : Int) + ((s : Nat) : Int) = ((s : Nat) : Int) from Int.zero_add _]
  refine M.run 1 (pc' := 34) (lv' := [some (vr (A 13)), some (vi ((c : Nat) : Int)), some (vi ((s : Nat) : Int))]) (st' := [vi 3, vi ((s : Nat) : Int), vi ((c : Nat) : Int), vr (A 1)]) rfl ?_
  refine M.callV (qB_put l G hb A T tl fx X cl dr (mNote (rwB (D.1 18) (2 + ((s : Nat) : Int)) ((c : Nat) : Int) 0) D) c s (by omega) (by omega) 3) cv_X1_54 cd_X4_put rfl (st := []) rfl (iS_b hE1.1).1 (by decide) (by decide) rfl (Nat.zero_le _) (Nat.zero_le _) hE1 (fun r7 w8 q9 => ?_)
  obtain ⟨q9r, q9e, q9f⟩ := q9
  rw [q9r]
  have hE6 : isEn G hb A T tl fx X cl dr (mS (28 + 3 * s + c) 3 (mNote (rwB (D.1 18) (2 + ((s : Nat) : Int)) ((c : Nat) : Int) 0) D)) w8 := q9e
  have hF6 : FrE A w w8 := FrE.tr hF1 q9f
  have hE11 : isEn G hb A T tl fx X cl dr (mS (28 + 3 * s + c) 3 (mNote (rwB (D.1 18) (2 + (s : Int)) c 0) D)) w8 := by exact hE6
  have hd11 : Dok n (mS (28 + 3 * s + c) 3 (mNote (rwB (D.1 18) (2 + (s : Int)) c 0) D)) := Dok_howS (Dok_note hd (bokOk_B ⟨by omega, by omega, by omega, by omega⟩)) (by omega) (by omega)
  have hJ11 : Jok (mS (28 + 3 * s + c) 3 (mNote (rwB (D.1 18) (2 + (s : Int)) c 0) D)) := Jok_S (Jok_note hJ) (fun _ _ => by omega) (fun _ _ => by decide) (fun _ _ => rfl)
  refine M.run 5 (pc' := 42) (lv' := [some (vr (A 13)), some (vi ((c : Nat) : Int)), some (vi ((s : Nat) : Int))]) (st' := [vi 0, vi (-1), vi ((c : Nat) : Int), vi ((s : Nat) : Int), vr (A 13)]) rfl ?_
  refine M.ldc (x := 2147483647) kc_X1_91 rfl rfl ?_
  refine M.callV (nX1_forget l G hb A T tl fx X cl dr (mS (28 + 3 * s + c) 3 (mNote (rwB (D.1 18) (2 + (s : Int)) c 0) D)) hT n hd11 (by omega) hJ11 s (by omega) ((c : Nat) : Int) (-1) 0 2147483647 (by omega) (by omega) (by omega) (by omega)) cv_X1_92 cd_X1_forget rfl (st := []) rfl hE11.2.2.1 (by decide) (by decide) rfl (Nat.zero_le _) (Nat.zero_le _) hE11 (fun r13 w14 q15 => ?_)
  obtain ⟨q15r, q15e, q15f⟩ := q15
  rw [q15r]
  have hE12 : isEn G hb A T tl fx X cl dr (mDrop s (pF ((c : Nat) : Int) (-1) 0 2147483647) (mS (28 + 3 * s + c) 3 (mNote (rwB (D.1 18) (2 + (s : Int)) c 0) D))) w14 := q15e
  have hF12 : FrE A w w14 := FrE.tr hF6 q15f
  refine M.run 1 (pc' := 48) (lv' := [some (vr (A 13)), some (vi ((c : Nat) : Int)), some (vi ((s : Nat) : Int))]) (st' := [vr (A 13)]) rfl ?_
  refine M.get fl_X1_15 rfl hE12.2.2.1 (kf := 1) (v := vr (A 0)) rfl ?_
  refine M.run 1 (pc' := 52) (lv' := [some (vr (A 13)), some (vi ((c : Nat) : Int)), some (vi ((s : Nat) : Int))]) (st' := [vi ((s : Nat) : Int), vr (A 0)]) rfl ?_
  refine M.callV (qS_line l G hb A T tl fx X cl dr (mDrop s (pF ((c : Nat) : Int) (-1) 0 2147483647) (mS (28 + 3 * s + c) 3 (mNote (rwB (D.1 18) (2 + (s : Int)) c 0) D))) s (by omega)) cv_X1_32 cd_X6_line rfl (st := []) rfl hE12.1.1 (by decide) (by decide) rfl (Nat.zero_le _) (Nat.zero_le _) hE12 (fun r17 w18 q19 => ?_)
  rw [q19.1, q19.2]
  refine M.run 7 (pc' := 62) (lv' := [some (vr (A 13)), some (vi ((c : Nat) : Int)), some (vi ((s : Nat) : Int))]) (st' := [vi 0, vi 0, vi 0, vi 0, vi 0, vi ((c : Nat) : Int), vi 3, vr (A (3 + 2 * s))]) rfl ?_
  refine M.callV (qL_add l G hb A T tl fx X cl dr (mDrop s (pF ((c : Nat) : Int) (-1) 0 2147483647) (mS (28 + 3 * s + c) 3 (mNote (rwB (D.1 18) (2 + (s : Int)) c 0) D))) s (by omega) 3 ((c : Nat) : Int) 0 0 0 0 0) cv_X1_96 cd_X4_addMessage rfl (st := []) rfl (iS_l hE12.1 (s := s) (by omega)).1 (by decide) (by decide) rfl (Nat.zero_le _) (Nat.zero_le _) hE12 (fun r22 w23 q24 => ?_)
  obtain ⟨q24r, q24e, q24f⟩ := q24
  rw [q24r]
  have hE21 : isEn G hb A T tl fx X cl dr (mPut s (rwM 3 ((c : Nat) : Int) 0 0 0 0 0) (mDrop s (pF ((c : Nat) : Int) (-1) 0 2147483647) (mS (28 + 3 * s + c) 3 (mNote (rwB (D.1 18) (2 + (s : Int)) c 0) D)))) w23 := q24e
  have hF21 : FrE A w w23 := FrE.tr hF12 q24f
  exact M.vret rfl (Nat.zero_le _) (Nat.zero_le _) ⟨rfl, (by rw [← cCan_eq hd hn hs]; exact hE21), hF21⟩
set_option maxHeartbeats 4000000 in
set_option maxRecDepth 100000 in
theorem nX1_openBlock (l : Launch) (G : GT) (hb : Nat) (A T : Nat → Nat) (tl fx : Nat → Int) (X : Nat → Int → Option Gn) (cl : Nat → Int) (dr : Int) (D : Dy) (hT : Tok tl) (n : Int) (hd : Dok n D) (hn : n ≤ 1900000000) (hJ : Jok D) (c : Nat) (hc : c < 3) (hbt : ((c : Nat) : Int) < tl 0) (h0 : D.1 (28 + c) = 0)  : Ctr l G yX1_openBlock cX1_openBlock 5 ((Option.some Jvm.ClassFile.FieldType.int)) 4 0 0 [vr (A 13), vi ((c : Nat) : Int)] (fun w => isEn G hb A T tl fx X cl dr D w) (fun w r w' => r = some (vi ((((mOpen tl c D).2.1 0).length : Nat) - (((D.2.1 0).length : Nat) : Int))) ∧ isEn G hb A T tl fx X cl dr (mOpen tl c D) w' ∧ FrE A w w') := by
  refine Ctr.of (t := tX1_openBlock) (lv0 := [some (vr (A 13)), some (vi ((c : Nat) : Int)), none, none, none]) (by decide +kernel) tX1_openBlock_ok rfl rfl (fun w g hP M => ?_)
  have hr1 := Tok_red hT hc
  have hl1 := Tok_len hT hc
  have hck := Dok_clk hd
  have hcn := Dok_cnt hd (x := c) (by omega)
  have hrl := hT.2.1 c hc
  have hd1 : Dok n (mNote (rwB (D.1 18) 0 c 0) (mS (28 + c) 1 D)) := Dok_note (Dok_howS hd (k := 28 + c) (v := 1) (by omega) (by omega)) (bokOk_B ⟨by omega, by omega, by omega, by omega⟩)
  have hJ1 : Jok (mNote (rwB (D.1 18) 0 c 0) (mS (28 + c) 1 D)) := Jok_note (Jok_S hJ (fun _ _ => by omega) (fun _ _ => by decide) (fun _ _ => by omega))
  have e40 : (mNote (rwB (D.1 18) 0 c 0) (mS (28 + c) 1 D)).1 (40 + c) = D.1 (40 + c) := uN_o (by omega)
  have e28 : (mNote (rwB (D.1 18) 0 c 0) (mS (28 + c) 1 D)).1 (28 + c) = 1 := uN_s _ _ _
  have hd2 : Dok (n + 1) (cPc true c (bPs (bFs (tl (15 + c)).toNat) (tl 7).toNat) (mNote (rwB (D.1 18) 0 c 0) (mS (28 + c) 1 D))) := by rw [cPc_red]; exact Dok_red hT hd1 hc (mRedOf_lt hT hc)
  have hJ2 : Jok (cPc true c (bPs (bFs (tl (15 + c)).toNat) (tl 7).toNat) (mNote (rwB (D.1 18) 0 c 0) (mS (28 + c) 1 D))) := by rw [cPc_red]; exact Jok_red hJ1 hc (by rw [e40]; exact hcn.1) (by rw [e28]; decide)
  have hcn2 := Dok_cnt hd2 (x := c) (by omega)
  have hd3 : Dok (n + 1) (cPc false c (bPs (bIn (tl (15 + c)).toNat (tl (12 + c)).toNat) (tl 7).toNat) (cPc true c (bPs (bFs (tl (15 + c)).toNat) (tl 7).toNat) (mNote (rwB (D.1 18) 0 c 0) (mS (28 + c) 1 D)))) := by rw [cPc_f]; exact Dok_pieces hc ⟨Int.le_refl _, by have := Dok_n0 hd; omega⟩ _ _ (bPs_ok (by have := Tok_7 hT; omega)) hd2
  have hJ3 : Jok (cPc false c (bPs (bIn (tl (15 + c)).toNat (tl (12 + c)).toNat) (tl 7).toNat) (cPc true c (bPs (bFs (tl (15 + c)).toNat) (tl 7).toNat) (mNote (rwB (D.1 18) 0 c 0) (mS (28 + c) 1 D)))) := by rw [cPc_f]; exact Jok_pieces _ _ hJ2 hcn2.1 hcn2.1
  have hoe := cOpen_eq hT hd hJ hc h0 (cPc false c (bPs (bIn (tl (15 + c)).toNat (tl (12 + c)).toNat) (tl 7).toNat) (cPc true c (bPs (bFs (tl (15 + c)).toNat) (tl 7).toNat) (mNote (rwB (D.1 18) 0 c 0) (mS (28 + c) 1 D)))) rfl
  generalize hD3 : (cPc false c (bPs (bIn (tl (15 + c)).toNat (tl (12 + c)).toNat) (tl 7).toNat) (cPc true c (bPs (bFs (tl (15 + c)).toNat) (tl 7).toNat) (mNote (rwB (D.1 18) 0 c 0) (mS (28 + c) 1 D)))) = D3 at hoe hd3 hJ3
  refine M.run 1 (pc' := 1) (lv' := [some (vr (A 13)), some (vi ((c : Nat) : Int)), none, none, none]) (st' := [vr (A 13)]) rfl ?_
  refine M.get fl_X1_15 rfl hP.2.2.1 (kf := 1) (v := vr (A 0)) rfl ?_
  refine M.run 1 (pc' := 5) (lv' := [some (vr (A 13)), some (vi ((c : Nat) : Int)), none, none, none]) (st' := [vi 0, vr (A 0)]) rfl ?_
  refine M.callV (qS_line l G hb A T tl fx X cl dr D 0 (by omega)) cv_X1_32 cd_X6_line rfl (st := []) rfl hP.1.1 (by decide) (by decide) rfl (Nat.zero_le _) (Nat.zero_le _) hP (fun r1 w2 q3 => ?_)
  rw [q3.1, q3.2]
  refine M.run 2 (pc' := 10) (lv' := [some (vr (A 13)), some (vi ((c : Nat) : Int)), some (vr (A (3 + 2 * 0))), none, none]) (st' := [vr (A (3 + 2 * 0))]) rfl ?_
  refine M.get fl_X1_38 rfl (iS_l hP.1 (s := 0) (by omega)).1 (kf := 2) (v := vi (((D.2.1 0).length : Nat) : Int)) rfl ?_
  refine M.run 2 (pc' := 15) (lv' := [some (vr (A 13)), some (vi ((c : Nat) : Int)), some (vr (A (3 + 2 * 0))), some (vi (((D.2.1 0).length : Nat) : Int)), none]) (st' := [vr (A 13)]) rfl ?_
  refine M.get fl_X1_9 rfl hP.2.2.1 (kf := 0) (v := vr (T 0)) rfl ?_
  refine M.run 1 (pc' := 19) (lv' := [some (vr (A 13)), some (vi ((c : Nat) : Int)), some (vr (A (3 + 2 * 0))), some (vi (((D.2.1 0).length : Nat) : Int)), none]) (st' := [vi ((c : Nat) : Int), vr (T 0)]) rfl ?_
  refine M.callV (qO_red l G hb A T tl fx X cl dr D hT c (by omega)) cv_X1_44 cd_X9_redOf rfl (st := []) rfl hP.2.1.1 (by decide) (by decide) rfl (Nat.zero_le _) (Nat.zero_le _) hP (fun r5 w6 q7 => ?_)
  rw [q7.1, q7.2]
  rw [show tl (15 + c) = (((tl (15 + c)).toNat : Nat) : Int) from (Int.toNat_of_nonneg hr1.1).symm]
  refine M.run 2 (pc' := 25) (lv' := [some (vr (A 13)), some (vi ((c : Nat) : Int)), some (vr (A (3 + 2 * 0))), some (vi (((D.2.1 0).length : Nat) : Int)), some (vi (((tl (15 + c)).toNat : Nat) : Int))]) (st' := [vr (A 13)]) rfl ?_
  refine M.get fl_X1_15 rfl hP.2.2.1 (kf := 1) (v := vr (A 0)) rfl ?_
  refine M.get fl_X1_50 rfl hP.1.1 (kf := 5) (v := vr (A 1)) rfl ?_
  refine M.run 3 (pc' := 34) (lv' := [some (vr (A 13)), some (vi ((c : Nat) : Int)), some (vr (A (3 + 2 * 0))), some (vi (((D.2.1 0).length : Nat) : Int)), some (vi (((tl (15 + c)).toNat : Nat) : Int))]) (st' := [vi 1, vi 0, vi ((c : Nat) : Int), vr (A 1)]) rfl ?_
  refine M.callV (qB_put l G hb A T tl fx X cl dr D c 0 (by omega) (by omega) 1) cv_X1_54 cd_X4_put rfl (st := []) rfl (iS_b hP.1).1 (by decide) (by decide) rfl (Nat.zero_le _) (Nat.zero_le _) hP (fun r10 w11 q12 => ?_)
  obtain ⟨q12r, q12e, q12f⟩ := q12
  rw [q12r]
  have hE9 : isEn G hb A T tl fx X cl dr (mS (28 + c) 1 D) w11 := q12e
  have hF9 : FrE A w w11 := FrE.tr (FrE.rf (A := A) (w := w)) q12f
  refine M.run 1 (pc' := 38) (lv' := [some (vr (A 13)), some (vi ((c : Nat) : Int)), some (vr (A (3 + 2 * 0))), some (vi (((D.2.1 0).length : Nat) : Int)), some (vi (((tl (15 + c)).toNat : Nat) : Int))]) (st' := [vr (A 13)]) rfl ?_
  refine M.get fl_X1_15 rfl hE9.2.2.1 (kf := 1) (v := vr (A 0)) rfl ?_
  refine M.get fl_X1_58 rfl hE9.1.1 (kf := 10) (v := vr (A 11)) rfl ?_
  refine M.run 1 (pc' := 45) (lv' := [some (vr (A 13)), some (vi ((c : Nat) : Int)), some (vr (A (3 + 2 * 0))), some (vi (((D.2.1 0).length : Nat) : Int)), some (vi (((tl (15 + c)).toNat : Nat) : Int))]) (st' := [vr (A 13), vr (A 11)]) rfl ?_
  refine M.get fl_X1_15 rfl hE9.2.2.1 (kf := 1) (v := vr (A 0)) rfl ?_
  refine M.get fl_X1_61 rfl hE9.1.1 (kf := 0) (v := vi ((mS (28 + c) 1 D).1 18)) rfl ?_
  rw [show (mS (28 + c) 1 D).1 18 = D.1 18 from mS_o (by omega)]
  refine M.run 3 (pc' := 54) (lv' := [some (vr (A 13)), some (vi ((c : Nat) : Int)), some (vr (A (3 + 2 * 0))), some (vi (((D.2.1 0).length : Nat) : Int)), some (vi (((tl (15 + c)).toNat : Nat) : Int))]) (st' := [vi 0, vi ((c : Nat) : Int), vi 0, vi (D.1 18), vr (A 11)]) rfl ?_
  refine M.callV (qK_note l G hb A T tl fx X cl dr (mS (28 + c) 1 D) (D.1 18) 0 ((c : Nat) : Int) 0) cv_X1_64 cd_X4_addNote rfl (st := []) rfl (iS_k hE9.1).1 (by decide) (by decide) rfl (Nat.zero_le _) (Nat.zero_le _) hE9 (fun r15 w16 q17 => ?_)
  obtain ⟨q17r, q17e, q17f⟩ := q17
  rw [q17r]
  have hE14 : isEn G hb A T tl fx X cl dr (mNote (rwB (D.1 18) 0 ((c : Nat) : Int) 0) (mS (28 + c) 1 D)) w16 := q17e
  have hF14 : FrE A w w16 := FrE.tr hF9 q17f
  have hE19 : isEn G hb A T tl fx X cl dr (mNote (rwB (D.1 18) 0 c 0) (mS (28 + c) 1 D)) w16 := by exact hE14
  have hd19 : Dok n (mNote (rwB (D.1 18) 0 c 0) (mS (28 + c) 1 D)) := hd1
  have hJ19 : Jok (mNote (rwB (D.1 18) 0 c 0) (mS (28 + c) 1 D)) := hJ1
  refine M.run 3 (pc' := 61) (lv' := [some (vr (A 13)), some (vi ((c : Nat) : Int)), some (vr (A (3 + 2 * 0))), some (vi (((D.2.1 0).length : Nat) : Int)), some (vi (((tl (15 + c)).toNat : Nat) : Int))]) (st' := [vi (((tl (15 + c)).toNat : Nat) : Int), vi ((c : Nat) : Int), vr (A 13)]) rfl ?_
  refine M.callS (kX0_first l G ((tl (15 + c)).toNat) (by omega)) cs_X1_68 cd_X0_first rfl (st := [vi ((c : Nat) : Int), vr (A 13)]) rfl (by decide) (by decide) rfl (Nat.zero_le _) (Nat.zero_le _) trivial (fun r20 w21 q22 => ?_)
  rw [q22.1, q22.2]
  refine M.run 1 (pc' := 65) (lv' := [some (vr (A 13)), some (vi ((c : Nat) : Int)), some (vr (A (3 + 2 * 0))), some (vi (((D.2.1 0).length : Nat) : Int)), some (vi (((tl (15 + c)).toNat : Nat) : Int))]) (st' := [vi 1, vi ((bFs ((tl (15 + c)).toNat) : Nat) : Int), vi ((c : Nat) : Int), vr (A 13)]) rfl ?_
  refine M.callV (nX1_putPieces1 l G hb A T tl fx X cl dr (mNote (rwB (D.1 18) 0 c 0) (mS (28 + c) 1 D)) hT n hd19 (by omega) hJ19 c (by omega) (bFs ((tl (15 + c)).toNat)) (bFs_lt (by omega))) cv_X1_73 cd_X1_putPieces rfl (st := []) rfl hE19.2.2.1 (by decide) (by decide) rfl (Nat.zero_le _) (Nat.zero_le _) hE19 (fun r25 w26 q27 => ?_)
  obtain ⟨q27r, q27e, q27f⟩ := q27
  rw [q27r]
  have hE24 : isEn G hb A T tl fx X cl dr (cPc true c (bPs (bFs ((tl (15 + c)).toNat)) (tl 7).toNat) (mNote (rwB (D.1 18) 0 c 0) (mS (28 + c) 1 D))) w26 := q27e
  have hF24 : FrE A w w26 := FrE.tr hF14 q27f
  have hE29 : isEn G hb A T tl fx X cl dr (cPc true c (bPs (bFs (tl (15 + c)).toNat) (tl 7).toNat) (mNote (rwB (D.1 18) 0 c 0) (mS (28 + c) 1 D))) w26 := by exact hE24
  have hd29 : Dok (n + 1) (cPc true c (bPs (bFs (tl (15 + c)).toNat) (tl 7).toNat) (mNote (rwB (D.1 18) 0 c 0) (mS (28 + c) 1 D))) := hd2
  have hJ29 : Jok (cPc true c (bPs (bFs (tl (15 + c)).toNat) (tl 7).toNat) (mNote (rwB (D.1 18) 0 c 0) (mS (28 + c) 1 D))) := hJ2
  refine M.run 4 (pc' := 73) (lv' := [some (vr (A 13)), some (vi ((c : Nat) : Int)), some (vr (A (3 + 2 * 0))), some (vi (((D.2.1 0).length : Nat) : Int)), some (vi (((tl (15 + c)).toNat : Nat) : Int))]) (st' := [vr (A 13), vi (((tl (15 + c)).toNat : Nat) : Int), vi ((c : Nat) : Int), vr (A 13)]) rfl ?_
  refine M.get fl_X1_9 rfl hE29.2.2.1 (kf := 0) (v := vr (T 0)) rfl ?_
  refine M.run 1 (pc' := 77) (lv' := [some (vr (A 13)), some (vi ((c : Nat) : Int)), some (vr (A (3 + 2 * 0))), some (vi (((D.2.1 0).length : Nat) : Int)), some (vi (((tl (15 + c)).toNat : Nat) : Int))]) (st' := [vi ((c : Nat) : Int), vr (T 0), vi (((tl (15 + c)).toNat : Nat) : Int), vi ((c : Nat) : Int), vr (A 13)]) rfl ?_
  refine M.callV (qO_len l G hb A T tl fx X cl dr (cPc true c (bPs (bFs (tl (15 + c)).toNat) (tl 7).toNat) (mNote (rwB (D.1 18) 0 c 0) (mS (28 + c) 1 D))) hT c (by omega)) cv_X1_77 cd_X9_lengthOf rfl (st := [vi (((tl (15 + c)).toNat : Nat) : Int), vi ((c : Nat) : Int), vr (A 13)]) rfl hE29.2.1.1 (by decide) (by decide) rfl (Nat.zero_le _) (Nat.zero_le _) hE29 (fun r30 w31 q32 => ?_)
  rw [q32.1, q32.2]
  rw [show tl (12 + c) = (((tl (12 + c)).toNat : Nat) : Int) from (Int.toNat_of_nonneg hl1.1).symm]
  refine M.callS (kX0_between l G ((tl (15 + c)).toNat) ((tl (12 + c)).toNat) (by omega) (by omega)) cs_X1_80 cd_X0_between rfl (st := [vi ((c : Nat) : Int), vr (A 13)]) rfl (by decide) (by decide) rfl (Nat.zero_le _) (Nat.zero_le _) trivial (fun r34 w35 q36 => ?_)
  rw [q36.1, q36.2]
  refine M.run 1 (pc' := 84) (lv' := [some (vr (A 13)), some (vi ((c : Nat) : Int)), some (vr (A (3 + 2 * 0))), some (vi (((D.2.1 0).length : Nat) : Int)), some (vi (((tl (15 + c)).toNat : Nat) : Int))]) (st' := [vi 0, vi ((bIn ((tl (15 + c)).toNat) ((tl (12 + c)).toNat) : Nat) : Int), vi ((c : Nat) : Int), vr (A 13)]) rfl ?_
  refine M.callV (nX1_putPieces0 l G hb A T tl fx X cl dr (cPc true c (bPs (bFs (tl (15 + c)).toNat) (tl 7).toNat) (mNote (rwB (D.1 18) 0 c 0) (mS (28 + c) 1 D))) hT (n + 1) hd29 (by omega) hJ29 c (by omega) (bIn ((tl (15 + c)).toNat) ((tl (12 + c)).toNat)) (bIn_lt (by omega))) cv_X1_73 cd_X1_putPieces rfl (st := []) rfl hE29.2.2.1 (by decide) (by decide) rfl (Nat.zero_le _) (Nat.zero_le _) hE29 (fun r39 w40 q41 => ?_)
  obtain ⟨q41r, q41e, q41f⟩ := q41
  rw [q41r]
  have hE38 : isEn G hb A T tl fx X cl dr (cPc false c (bPs (bIn ((tl (15 + c)).toNat) ((tl (12 + c)).toNat)) (tl 7).toNat) (cPc true c (bPs (bFs (tl (15 + c)).toNat) (tl 7).toNat) (mNote (rwB (D.1 18) 0 c 0) (mS (28 + c) 1 D)))) w40 := q41e
  have hF38 : FrE A w w40 := FrE.tr hF24 q41f
  have hE43 : isEn G hb A T tl fx X cl dr D3 w40 := by rw [← hD3]; exact hE38
  have hd43 : Dok (n + 1) D3 := hd3
  have hJ43 : Jok D3 := hJ3
  refine M.run 1 (pc' := 89) (lv' := [some (vr (A 13)), some (vi ((c : Nat) : Int)), some (vr (A (3 + 2 * 0))), some (vi (((D.2.1 0).length : Nat) : Int)), some (vi (((tl (15 + c)).toNat : Nat) : Int))]) (st' := [vi (((tl (15 + c)).toNat : Nat) : Int)]) rfl ?_
  refine M.if_ne (tgt := 97) rfl (qI (by omega)) (by decide) (fun h89 => ?_) (fun h89 => ?_)
  · skip
    have hE44 : isEn G hb A T tl fx X cl dr (mOpen tl c D) w40 := by rw [← hoe.2 (by omega)]; exact hE43
    refine M.run 1 (pc' := 98) (lv' := [some (vr (A 13)), some (vi ((c : Nat) : Int)), some (vr (A (3 + 2 * 0))), some (vi (((D.2.1 0).length : Nat) : Int)), some (vi (((tl (15 + c)).toNat : Nat) : Int))]) (st' := [vr (A (3 + 2 * 0))]) rfl ?_
    refine M.get fl_X1_38 rfl (iS_l hE44.1 (s := 0) (by omega)).1 (kf := 2) (v := vi ((((mOpen tl c D).2.1 0).length : Nat) : Int)) rfl ?_
    refine M.run 2 (pc' := 103) (lv' := [some (vr (A 13)), some (vi ((c : Nat) : Int)), some (vr (A (3 + 2 * 0))), some (vi (((D.2.1 0).length : Nat) : Int)), some (vi (((tl (15 + c)).toNat : Nat) : Int))]) (st' := [vi (((((mOpen tl c D).2.1 0).length : Nat) : Int) - (((D.2.1 0).length : Nat) : Int))]) rfl ?_
    exact M.iret rfl (Nat.zero_le _) (Nat.zero_le _) ⟨rfl, hE44, hF38⟩
  · skip
    refine M.run 2 (pc' := 94) (lv' := [some (vr (A 13)), some (vi ((c : Nat) : Int)), some (vr (A (3 + 2 * 0))), some (vi (((D.2.1 0).length : Nat) : Int)), some (vi (((tl (15 + c)).toNat : Nat) : Int))]) (st' := [vi ((c : Nat) : Int), vr (A 13)]) rfl ?_
    refine M.callV (nX1_finish l G hb A T tl fx X cl dr D3 hT (n + 1) hd43 (by omega) hJ43 c (by omega)) cv_X1_84 cd_X1_finish rfl (st := []) rfl hE43.2.2.1 (by decide) (by decide) rfl (Nat.zero_le _) (Nat.zero_le _) hE43 (fun r46 w47 q48 => ?_)
    obtain ⟨q48r, q48e, q48f⟩ := q48
    rw [q48r]
    have hE45 : isEn G hb A T tl fx X cl dr (cFin c D3) w47 := q48e
    have hF45 : FrE A w w47 := FrE.tr hF38 q48f
    have hE50 : isEn G hb A T tl fx X cl dr (mOpen tl c D) w47 := by rw [← hoe.1 (by omega)]; exact hE45
    refine M.run 1 (pc' := 98) (lv' := [some (vr (A 13)), some (vi ((c : Nat) : Int)), some (vr (A (3 + 2 * 0))), some (vi (((D.2.1 0).length : Nat) : Int)), some (vi (((tl (15 + c)).toNat : Nat) : Int))]) (st' := [vr (A (3 + 2 * 0))]) rfl ?_
    refine M.get fl_X1_38 rfl (iS_l hE50.1 (s := 0) (by omega)).1 (kf := 2) (v := vi ((((mOpen tl c D).2.1 0).length : Nat) : Int)) rfl ?_
    refine M.run 2 (pc' := 103) (lv' := [some (vr (A 13)), some (vi ((c : Nat) : Int)), some (vr (A (3 + 2 * 0))), some (vi (((D.2.1 0).length : Nat) : Int)), some (vi (((tl (15 + c)).toNat : Nat) : Int))]) (st' := [vi (((((mOpen tl c D).2.1 0).length : Nat) : Int) - (((D.2.1 0).length : Nat) : Int))]) rfl ?_
    exact M.iret rfl (Nat.zero_le _) (Nat.zero_le _) ⟨rfl, hE50, hF45⟩
