/-- what is told of a block -/
def mTold (tl : Nat → Int) (D : Dy) (b : Nat) (what : Int) : Int :=
  if what = 0 then tl (12 + b) else if what = 1 then tl (15 + b) else if what = 2 then D.1 (28 + b) else if what = 3 then D.1 (31 + b) else if what = 4 then ((bPc (D.1 (34 + b)).toNat : Nat) : Int) else if what = 5 then ((bPc (D.1 (37 + b)).toNat : Nat) : Int)
  else if what = 6 then D.1 (40 + b) else if what = 7 then D.1 (43 + b) else if what = 8 then D.1 (46 + b) else -2
/-- spans of bits as they are told: how many, or one's edge -/
def mSpn (bits : Nat) (i z : Int) : Int := if i = -1 then (((bPs bits 30).length : Nat) : Int) else if 0 ≤ i ∧ i < (((bPs bits 30).length : Nat) : Int) then bEg (bPs bits 30) i.toNat z else -2
/-- how long until they are seen -/
def mNxS (tl : Nat → Int) : Nat → Int → Nat
  | 0, _ => 0
  | k + 1, c => if mSn tl c = true then 0 else mNxS tl k (c + 1) + 1
theorem mSn_ex {tl : Nat → Int} (hT : Tok tl) {c : Int} (hc : 0 ≤ c) : ∃ j : Nat, j < 60 ∧ mSn tl (c + j) = true := by
  have h9 : 1 ≤ tl 9 ∧ tl 9 ≤ 60 := hT.1 9 (by decide)
  have h10 : 0 ≤ tl 10 ∧ tl 10 ≤ 59 := hT.1 10 (by decide)
  have h11 := hT.2.2.1
  have h12 := hT.2.2.2
  have hm := Int.emod_nonneg c (show tl 9 ≠ 0 by omega)
  have hm2 := Int.emod_lt_of_pos c (show 0 < tl 9 by omega)
  have key : ∀ j : Int, 0 ≤ j → (c + j) % tl 9 = tl 10 → mSn tl (c + j) = true := fun j hj e => by
    unfold mSn
    rw [Int.tmod_eq_emod_of_nonneg (by omega), e]
    exact decide_eq_true ⟨Int.le_refl _, by omega⟩
  by_cases h : c % tl 9 ≤ tl 10
  · refine ⟨(tl 10 - c % tl 9).toNat, by omega, key _ (by omega) ?_⟩
    rw [Int.toNat_of_nonneg (by omega), show c + (tl 10 - c % tl 9) = tl 10 + tl 9 * (c / tl 9) by have := Int.emod_add_mul_ediv c (tl 9); omega, Int.add_mul_emod_self_left]
    exact Int.emod_eq_of_lt h10.1 (by omega)
  · refine ⟨(tl 10 - c % tl 9 + tl 9).toNat, by omega, key _ (by omega) ?_⟩
    rw [Int.toNat_of_nonneg (by omega), show c + (tl 10 - c % tl 9 + tl 9) = tl 10 + tl 9 * (c / tl 9 + 1) by have := Int.emod_add_mul_ediv c (tl 9); rw [Int.mul_add]; omega, Int.add_mul_emod_self_left]
    exact Int.emod_eq_of_lt h10.1 (by omega)
theorem mNxS_le {tl : Nat → Int} : ∀ (k : Nat) (c : Int), mNxS tl k c ≤ k
  | 0, _ => Nat.le_refl _
  | k + 1, c => by
    have := mNxS_le (tl := tl) k (c + 1)
    unfold mNxS
    split <;> omega
theorem mNxS_lt {tl : Nat → Int} : ∀ (k : Nat) (c : Int) (j : Nat), j < mNxS tl k c → mSn tl (c + j) = false
  | 0, _, j, h => absurd h (Nat.not_lt_zero _)
  | k + 1, c, j, h => by
    unfold mNxS at h
    split at h
    · exact absurd h (Nat.not_lt_zero _)
    · rename_i e
      cases j with
      | zero =>
        rw [show c + ((0 : Nat) : Int) = c by omega]
        exact eq_false_of_ne_true e
      | succ j =>
        rw [show c + ((j + 1 : Nat) : Int) = c + 1 + (j : Int) by omega]
        exact mNxS_lt k (c + 1) j (by omega)
theorem mNxS_at {tl : Nat → Int} : ∀ (k : Nat) (c : Int), mNxS tl k c < k → mSn tl (c + mNxS tl k c) = true
  | 0, _, h => absurd h (Nat.not_lt_zero _)
  | k + 1, c, h => by
    unfold mNxS at h ⊢
    by_cases e : mSn tl c = true
    · rw [if_pos e, show c + ((0 : Nat) : Int) = c by omega]; exact e
    · rw [if_neg e] at h ⊢
      rw [show c + ((mNxS tl k (c + 1) + 1 : Nat) : Int) = c + 1 + (mNxS tl k (c + 1) : Int) by omega]
      exact mNxS_at k (c + 1) (by omega)
theorem mNxS_60 {tl : Nat → Int} (hT : Tok tl) {c : Int} (hc : 0 ≤ c) : mNxS tl 60 c < 60 ∧ mSn tl (c + mNxS tl 60 c) = true := by
  obtain ⟨j, hj, hs⟩ := mSn_ex hT hc
  have h : mNxS tl 60 c < 60 := by
    rcases Nat.lt_or_ge (mNxS tl 60 c) 60 with q | q
    · exact q
    · have := mNxS_lt (tl := tl) 60 c j (by omega)
      rw [this] at hs
      cases hs
  exact ⟨h, mNxS_at 60 c h⟩
/-- how many clocks until they have been seen so often -/
def mTt (tl : Nat → Int) : Nat → Int → Nat
  | 0, _ => 0
  | k + 1, c => mNxS tl 60 c + 1 + mTt tl k (c + mNxS tl 60 c + 1)
theorem mTt_y {tl : Nat → Int} {k : Nat} {c : Int} (hk : 0 < k) (h : mSn tl c = true) : mTt tl k c = 1 + mTt tl (k - 1) (c + 1) := by
  cases k with
  | zero => omega
  | succ k =>
    have e : mNxS tl 60 c = 0 := if_pos h
    show mNxS tl 60 c + 1 + mTt tl k (c + mNxS tl 60 c + 1) = 1 + mTt tl k (c + 1)
    rw [e, show c + ((0 : Nat) : Int) + 1 = c + 1 by omega]
theorem mTt_n {tl : Nat → Int} (hT : Tok tl) {k : Nat} {c : Int} (hc : 0 ≤ c) (hk : 0 < k) (h : mSn tl c = false) : mTt tl k c = 1 + mTt tl k (c + 1) := by
  cases k with
  | zero => omega
  | succ k =>
    obtain ⟨h1, h2⟩ := mNxS_60 hT hc
    obtain ⟨g1, g2⟩ := mNxS_60 hT (c := c + 1) (by omega)
    have e : mNxS tl 60 c = mNxS tl 60 (c + 1) + 1 := by
      rcases Nat.lt_trichotomy (mNxS tl 60 c) (mNxS tl 60 (c + 1) + 1) with q | q | q
      · rcases Nat.eq_zero_or_pos (mNxS tl 60 c) with z | z
        · rw [z, show c + ((0 : Nat) : Int) = c by omega, h] at h2
          cases h2
        · have := mNxS_lt (tl := tl) 60 (c + 1) (mNxS tl 60 c - 1) (by omega)
          rw [show c + 1 + ((mNxS tl 60 c - 1 : Nat) : Int) = c + (mNxS tl 60 c : Int) by omega, h2] at this
          cases this
      · exact q
      · have := mNxS_lt (tl := tl) 60 c (mNxS tl 60 (c + 1) + 1) q
        rw [show c + ((mNxS tl 60 (c + 1) + 1 : Nat) : Int) = c + 1 + (mNxS tl 60 (c + 1) : Int) by omega, g2] at this
        cases this
    show mNxS tl 60 c + 1 + mTt tl k (c + mNxS tl 60 c + 1) = 1 + (mNxS tl 60 (c + 1) + 1 + mTt tl k (c + 1 + mNxS tl 60 (c + 1) + 1))
    rw [e, show c + ((mNxS tl 60 (c + 1) + 1 : Nat) : Int) + 1 = c + 1 + (mNxS tl 60 (c + 1) : Int) + 1 by omega]
    omega
theorem mTt_le {tl : Nat → Int} : ∀ (k : Nat) (c : Int), mTt tl k c ≤ 61 * k
  | 0, _ => Nat.le_refl _
  | k + 1, c => by
    have h1 := mNxS_le (tl := tl) 60 c
    have h2 := mTt_le (tl := tl) k (c + mNxS tl 60 c + 1)
    show mNxS tl 60 c + 1 + mTt tl k (c + mNxS tl 60 c + 1) ≤ 61 * (k + 1)
    omega

set_option maxHeartbeats 4000000 in
set_option maxRecDepth 100000 in
theorem vX11_told (l : Launch) (G : GT) (o : Nat) (am : Nat → Nat) (u tl : Nat → Int) (b0 : Nat → Nat → Int) (D : Dy) (L : List Dy) (n : Int) (hT : Tok tl) (hd : Dok n D) (hi : Inv D) (hc9 : D.1 18 ≤ 9999) (hL : Lok n L) (hn : 0 ≤ n ∧ n ≤ 800000000) (hu : u 23 = 0 ∨ u 23 = 1) (X : Nat → Int → Option Gn) (hX : TxOk (b0 2) X (tl 1) ∧ tl 2 < tl 1) (c : Nat) (hb : c < 3) (what : Int) (hwh : -2147483648 ≤ what ∧ what ≤ 2147483647) : Ctr l G yX11_told cX11_told 3 ((Option.some Jvm.ClassFile.FieldType.int)) 4 0 0 [vr o, vi ((c : Nat) : Int), vi what] (fun w => isT o am u tl b0 D L w) (fun w r w' => r = some (vi (mTold tl D c what)) ∧ w' = w) := by
  refine Ctr.of (t := tX11_told) (lv0 := [some (vr o), some (vi ((c : Nat) : Int)), some (vi what)]) (by decide +kernel) tX11_told_ok rfl rfl (fun w g hP M => ?_)
  obtain ⟨a0, ⟨a, b, hM, hR, hF, hB⟩, hTE, hRg⟩ := hP
  have ht : Tok a0 := Tok_R hT hTE hRg
  have hk_how_c : 0 ≤ D.1 (28 + c) ∧ D.1 (28 + c) ≤ 3 := by have := Dok_how hd (x := 0 + c) (by omega); rwa [show 28 + (0 + c) = 28 + c by omega] at this
  have hk_clm_c : 0 ≤ D.1 (34 + c) ∧ D.1 (34 + c) ≤ 1073741823 := by have := Dok_bit hd (x := 0 + c) (by omega); rwa [show 34 + (0 + c) = 34 + c by omega] at this
  have hk_com_c : 0 ≤ D.1 (37 + c) ∧ D.1 (37 + c) ≤ 1073741823 := by have := Dok_bit hd (x := 3 + c) (by omega); rwa [show 34 + (3 + c) = 37 + c by omega] at this
  have hk_chk_c : 0 ≤ D.1 (40 + c) ∧ D.1 (40 + c) ≤ n := by have := Dok_cnt hd (x := 0 + c) (by omega); rwa [show 40 + (0 + c) = 40 + c by omega] at this
  have hk_rep_c : 0 ≤ D.1 (43 + c) ∧ D.1 (43 + c) ≤ n := by have := Dok_cnt hd (x := 3 + c) (by omega); rwa [show 40 + (3 + c) = 43 + c by omega] at this
  have hk_byt_c : 0 ≤ D.1 (46 + c) ∧ D.1 (46 + c) ≤ n := by have := Dok_cnt hd (x := 6 + c) (by omega); rwa [show 40 + (6 + c) = 46 + c by omega] at this
  have hlnb : 0 ≤ tl (12 + c) ∧ tl (12 + c) ≤ 30 := Tok_len hT hb
  have hrdb : 0 ≤ tl (15 + c) ∧ tl (15 + c) ≤ 30 := Tok_red hT hb
  refine M.run 1 (pc' := 1) (lv' := [some (vr o), some (vi ((c : Nat) : Int)), some (vi what)]) (st' := [vi what]) rfl ?_
  by_cases hs1_0 : what = 0
  · refine M.tswIn (tgt := 52) (off := 51) rfl (qI (by omega)) (by omega) (by omega) (by rw [hs1_0]; rfl) (by decide) ?_
    have ev : mTold tl D c what = tl (12 + c) := if_pos hs1_0
    refine M.run 1 (pc' := 53) (lv' := [some (vr o), some (vi ((c : Nat) : Int)), some (vi what)]) (st' := [vr o]) rfl ?_
    refine M.get fl_X11_7 rfl (isM_o hM) (kf := 0) (v := vr (am 0)) rfl ?_
    refine M.run 3 (pc' := 60) (lv' := [some (vr o), some (vi ((c : Nat) : Int)), some (vi what)]) (st' := [vi (12 + ((c : Nat) : Int)), vr (am 0)]) rfl ?_
    refine M.ialdN (12 + c) rfl (isM_a hM) (by omega) (by decide) ?_
    rw [show a (12 + c) = tl (12 + c) from (hF (12 + c) (Or.inl (by omega))).trans (hTE.1 (12 + c) (by omega) (by omega) (by omega))]
    exact M.iret rfl (Nat.zero_le _) (Nat.zero_le _) ⟨reI ev.symm, rfl⟩
  by_cases hs1_1 : what = 1
  · refine M.tswIn (tgt := 62) (off := 61) rfl (qI (by omega)) (by omega) (by omega) (by rw [hs1_1]; rfl) (by decide) ?_
    have ev : mTold tl D c what = tl (15 + c) := (if_neg hs1_0).trans (if_pos hs1_1)
    refine M.run 1 (pc' := 63) (lv' := [some (vr o), some (vi ((c : Nat) : Int)), some (vi what)]) (st' := [vr o]) rfl ?_
    refine M.get fl_X11_7 rfl (isM_o hM) (kf := 0) (v := vr (am 0)) rfl ?_
    refine M.run 3 (pc' := 70) (lv' := [some (vr o), some (vi ((c : Nat) : Int)), some (vi what)]) (st' := [vi (15 + ((c : Nat) : Int)), vr (am 0)]) rfl ?_
    refine M.ialdN (15 + c) rfl (isM_a hM) (by omega) (by decide) ?_
    rw [show a (15 + c) = tl (15 + c) from (hF (15 + c) (Or.inl (by omega))).trans (hTE.1 (15 + c) (by omega) (by omega) (by omega))]
    exact M.iret rfl (Nat.zero_le _) (Nat.zero_le _) ⟨reI ev.symm, rfl⟩
  by_cases hs1_2 : what = 2
  · refine M.tswIn (tgt := 72) (off := 71) rfl (qI (by omega)) (by omega) (by omega) (by rw [hs1_2]; rfl) (by decide) ?_
    have ev : mTold tl D c what = D.1 (28 + c) := (if_neg hs1_0).trans ((if_neg hs1_1).trans (if_pos hs1_2))
    refine M.run 3 (pc' := 75) (lv' := [some (vr o), some (vi ((c : Nat) : Int)), some (vi what)]) (st' := [vi 0, vi ((c : Nat) : Int), vr o]) rfl ?_
    refine M.callV (eX11_howAt l G o am u a0 b0 D _ ht hd (by omega) c (by omega) 0 (by omega)) cv_X11_334 cd_X11_howAt rfl (st := []) rfl (isM_o hM) (by decide) (by decide) rfl (Nat.zero_le _) (Nat.zero_le _) ⟨_, _, hM, hR, hF, hB⟩ (fun r1 w2 q3 => ?_)
    rw [q3.1, q3.2]
    rw [show D.1 (28 + 3 * 0 + c) = D.1 (28 + c) from rfl]
    exact M.iret rfl (Nat.zero_le _) (Nat.zero_le _) ⟨reI ev.symm, rfl⟩
  by_cases hs1_3 : what = 3
  · refine M.tswIn (tgt := 79) (off := 78) rfl (qI (by omega)) (by omega) (by omega) (by rw [hs1_3]; rfl) (by decide) ?_
    have ev : mTold tl D c what = D.1 (31 + c) := (if_neg hs1_0).trans ((if_neg hs1_1).trans ((if_neg hs1_2).trans (if_pos hs1_3)))
    refine M.run 3 (pc' := 82) (lv' := [some (vr o), some (vi ((c : Nat) : Int)), some (vi what)]) (st' := [vi 1, vi ((c : Nat) : Int), vr o]) rfl ?_
    refine M.callV (eX11_howAt l G o am u a0 b0 D _ ht hd (by omega) c (by omega) 1 (by omega)) cv_X11_334 cd_X11_howAt rfl (st := []) rfl (isM_o hM) (by decide) (by decide) rfl (Nat.zero_le _) (Nat.zero_le _) ⟨_, _, hM, hR, hF, hB⟩ (fun r5 w6 q7 => ?_)
    rw [q7.1, q7.2]
    rw [show D.1 (28 + 3 * 1 + c) = D.1 (31 + c) from rfl]
    exact M.iret rfl (Nat.zero_le _) (Nat.zero_le _) ⟨reI ev.symm, rfl⟩
  by_cases hs1_4 : what = 4
  · refine M.tswIn (tgt := 86) (off := 85) rfl (qI (by omega)) (by omega) (by omega) (by rw [hs1_4]; rfl) (by decide) ?_
    have ev : mTold tl D c what = ((bPc (D.1 (34 + c)).toNat : Nat) : Int) := (if_neg hs1_0).trans ((if_neg hs1_1).trans ((if_neg hs1_2).trans ((if_neg hs1_3).trans (if_pos hs1_4))))
    refine M.run 1 (pc' := 87) (lv' := [some (vr o), some (vi ((c : Nat) : Int)), some (vi what)]) (st' := [vr o]) rfl ?_
    refine M.get fl_X11_7 rfl (isM_o hM) (kf := 0) (v := vr (am 0)) rfl ?_
    refine M.run 3 (pc' := 94) (lv' := [some (vr o), some (vi ((c : Nat) : Int)), some (vi what)]) (st' := [vi (34 + ((c : Nat) : Int)), vr (am 0)]) rfl ?_
    refine M.ialdN (34 + c) rfl (isM_a hM) (by omega) (by decide) ?_
    rw [show a (34 + c) = D.1 (34 + c) from Rp_s hR (k := 34 + c) (by omega) (by omega) (by omega)]
    rw [show D.1 (34 + c) = (((D.1 (34 + c)).toNat : Nat) : Int) from (Int.toNat_of_nonneg (by omega)).symm]
    refine M.callS (kX11_bitsOf l G ((D.1 (34 + c)).toNat) (by omega)) cs_X11_250 cd_X11_bitsOf rfl (st := []) rfl (by decide) (by decide) rfl (Nat.zero_le _) (Nat.zero_le _) trivial (fun r9 w10 q11 => ?_)
    rw [q11.1, q11.2]
    exact M.iret rfl (Nat.zero_le _) (Nat.zero_le _) ⟨reI ev.symm, rfl⟩
  by_cases hs1_5 : what = 5
  · refine M.tswIn (tgt := 99) (off := 98) rfl (qI (by omega)) (by omega) (by omega) (by rw [hs1_5]; rfl) (by decide) ?_
    have ev : mTold tl D c what = ((bPc (D.1 (37 + c)).toNat : Nat) : Int) := (if_neg hs1_0).trans ((if_neg hs1_1).trans ((if_neg hs1_2).trans ((if_neg hs1_3).trans ((if_neg hs1_4).trans (if_pos hs1_5)))))
    refine M.run 1 (pc' := 100) (lv' := [some (vr o), some (vi ((c : Nat) : Int)), some (vi what)]) (st' := [vr o]) rfl ?_
    refine M.get fl_X11_7 rfl (isM_o hM) (kf := 0) (v := vr (am 0)) rfl ?_
    refine M.run 3 (pc' := 107) (lv' := [some (vr o), some (vi ((c : Nat) : Int)), some (vi what)]) (st' := [vi (37 + ((c : Nat) : Int)), vr (am 0)]) rfl ?_
    refine M.ialdN (37 + c) rfl (isM_a hM) (by omega) (by decide) ?_
    rw [show a (37 + c) = D.1 (37 + c) from Rp_s hR (k := 37 + c) (by omega) (by omega) (by omega)]
    rw [show D.1 (37 + c) = (((D.1 (37 + c)).toNat : Nat) : Int) from (Int.toNat_of_nonneg (by omega)).symm]
    refine M.callS (kX11_bitsOf l G ((D.1 (37 + c)).toNat) (by omega)) cs_X11_250 cd_X11_bitsOf rfl (st := []) rfl (by decide) (by decide) rfl (Nat.zero_le _) (Nat.zero_le _) trivial (fun r13 w14 q15 => ?_)
    rw [q15.1, q15.2]
    exact M.iret rfl (Nat.zero_le _) (Nat.zero_le _) ⟨reI ev.symm, rfl⟩
  by_cases hs1_6 : what = 6
  · refine M.tswIn (tgt := 112) (off := 111) rfl (qI (by omega)) (by omega) (by omega) (by rw [hs1_6]; rfl) (by decide) ?_
    have ev : mTold tl D c what = D.1 (40 + c) := (if_neg hs1_0).trans ((if_neg hs1_1).trans ((if_neg hs1_2).trans ((if_neg hs1_3).trans ((if_neg hs1_4).trans ((if_neg hs1_5).trans (if_pos hs1_6))))))
    refine M.run 1 (pc' := 113) (lv' := [some (vr o), some (vi ((c : Nat) : Int)), some (vi what)]) (st' := [vr o]) rfl ?_
    refine M.get fl_X11_7 rfl (isM_o hM) (kf := 0) (v := vr (am 0)) rfl ?_
    refine M.run 3 (pc' := 120) (lv' := [some (vr o), some (vi ((c : Nat) : Int)), some (vi what)]) (st' := [vi (40 + ((c : Nat) : Int)), vr (am 0)]) rfl ?_
    refine M.ialdN (40 + c) rfl (isM_a hM) (by omega) (by decide) ?_
    rw [show a (40 + c) = D.1 (40 + c) from Rp_s hR (k := 40 + c) (by omega) (by omega) (by omega)]
    exact M.iret rfl (Nat.zero_le _) (Nat.zero_le _) ⟨reI ev.symm, rfl⟩
  by_cases hs1_7 : what = 7
  · refine M.tswIn (tgt := 122) (off := 121) rfl (qI (by omega)) (by omega) (by omega) (by rw [hs1_7]; rfl) (by decide) ?_
    have ev : mTold tl D c what = D.1 (43 + c) := (if_neg hs1_0).trans ((if_neg hs1_1).trans ((if_neg hs1_2).trans ((if_neg hs1_3).trans ((if_neg hs1_4).trans ((if_neg hs1_5).trans ((if_neg hs1_6).trans (if_pos hs1_7)))))))
    refine M.run 1 (pc' := 123) (lv' := [some (vr o), some (vi ((c : Nat) : Int)), some (vi what)]) (st' := [vr o]) rfl ?_
    refine M.get fl_X11_7 rfl (isM_o hM) (kf := 0) (v := vr (am 0)) rfl ?_
    refine M.run 3 (pc' := 130) (lv' := [some (vr o), some (vi ((c : Nat) : Int)), some (vi what)]) (st' := [vi (43 + ((c : Nat) : Int)), vr (am 0)]) rfl ?_
    refine M.ialdN (43 + c) rfl (isM_a hM) (by omega) (by decide) ?_
    rw [show a (43 + c) = D.1 (43 + c) from Rp_s hR (k := 43 + c) (by omega) (by omega) (by omega)]
    exact M.iret rfl (Nat.zero_le _) (Nat.zero_le _) ⟨reI ev.symm, rfl⟩
  by_cases hs1_8 : what = 8
  · refine M.tswIn (tgt := 132) (off := 131) rfl (qI (by omega)) (by omega) (by omega) (by rw [hs1_8]; rfl) (by decide) ?_
    have ev : mTold tl D c what = D.1 (46 + c) := (if_neg hs1_0).trans ((if_neg hs1_1).trans ((if_neg hs1_2).trans ((if_neg hs1_3).trans ((if_neg hs1_4).trans ((if_neg hs1_5).trans ((if_neg hs1_6).trans ((if_neg hs1_7).trans (if_pos hs1_8))))))))
    refine M.run 1 (pc' := 133) (lv' := [some (vr o), some (vi ((c : Nat) : Int)), some (vi what)]) (st' := [vr o]) rfl ?_
    refine M.get fl_X11_7 rfl (isM_o hM) (kf := 0) (v := vr (am 0)) rfl ?_
    refine M.run 3 (pc' := 140) (lv' := [some (vr o), some (vi ((c : Nat) : Int)), some (vi what)]) (st' := [vi (46 + ((c : Nat) : Int)), vr (am 0)]) rfl ?_
    refine M.ialdN (46 + c) rfl (isM_a hM) (by omega) (by decide) ?_
    rw [show a (46 + c) = D.1 (46 + c) from Rp_s hR (k := 46 + c) (by omega) (by omega) (by omega)]
    exact M.iret rfl (Nat.zero_le _) (Nat.zero_le _) ⟨reI ev.symm, rfl⟩
  refine M.tswOut (tgt := 142) rfl (qI (by omega)) (by omega) (by decide) ?_
  have ev : mTold tl D c what = -2 := (if_neg hs1_0).trans ((if_neg hs1_1).trans ((if_neg hs1_2).trans ((if_neg hs1_3).trans ((if_neg hs1_4).trans ((if_neg hs1_5).trans ((if_neg hs1_6).trans ((if_neg hs1_7).trans (if_neg hs1_8))))))))
  refine M.run 1 (pc' := 144) (lv' := [some (vr o), some (vi ((c : Nat) : Int)), some (vi what)]) (st' := [vi (-2)]) rfl ?_
  exact M.iret rfl (Nat.zero_le _) (Nat.zero_le _) ⟨reI ev.symm, rfl⟩
set_option maxHeartbeats 4000000 in
set_option maxRecDepth 100000 in
theorem vX11_of (l : Launch) (G : GT) (o : Nat) (am : Nat → Nat) (u tl : Nat → Int) (b0 : Nat → Nat → Int) (D : Dy) (L : List Dy) (n : Int) (hT : Tok tl) (hd : Dok n D) (hi : Inv D) (hc9 : D.1 18 ≤ 9999) (hL : Lok n L) (hn : 0 ≤ n ∧ n ≤ 800000000) (hu : u 23 = 0 ∨ u 23 = 1) (X : Nat → Int → Option Gn) (hX : TxOk (b0 2) X (tl 1) ∧ tl 2 < tl 1) (x : Int) (y : Int) (hx : -2147483648 ≤ x ∧ x ≤ 2147483647) (hy : -2147483648 ≤ y ∧ y ≤ 2147483647) : Ctr l G yX11_of cX11_of 3 ((Option.some Jvm.ClassFile.FieldType.int)) 5 0 0 [vr o, vi x, vi y] (fun w => isT o am u tl b0 D L w) (fun w r w' => r = some (vi (if 0 ≤ x ∧ x < tl 0 then mTold tl D x.toNat y else -2)) ∧ w' = w) := by
  refine Ctr.of (t := tX11_of) (lv0 := [some (vr o), some (vi x), some (vi y)]) (by decide +kernel) tX11_of_ok rfl rfl (fun w g hP M => ?_)
  obtain ⟨a0, ⟨a, b, hM, hR, hF, hB⟩, hTE, hRg⟩ := hP
  have ht : Tok a0 := Tok_R hT hTE hRg
  have hk0 : 0 ≤ tl 0 ∧ tl 0 ≤ 3 := hT.1 0 (by decide)
  refine M.run 2 (pc' := 2) (lv' := [some (vr o), some (vi x), some (vi y)]) (st' := [vi x, vr o]) rfl ?_
  refine M.callV (kX11_isBlock l G o am u a b x (by omega) (Mok_of ht hd (by omega) hR hF)) cv_X11_331 cd_X11_isBlock rfl (st := []) rfl (isM_o hM) (by decide) (by decide) rfl (Nat.zero_le _) (Nat.zero_le _) hM (fun r1 w2 q3 => ?_)
  rw [q3.1, q3.2]
  rw [hF 0 (Or.inl (by decide)), hTE.1 0 (by decide) (by decide) (by decide)]
  refine M.if_eq (tgt := 17) rfl (inI_zb _) (by decide) (fun h5 => ?_) (fun h5 => ?_)
  · skip
    replace h5 := zb_fd h5
    refine M.run 1 (pc' := 19) (lv' := [some (vr o), some (vi x), some (vi y)]) (st' := [vi (-2)]) rfl ?_
    exact M.iret rfl (Nat.zero_le _) (Nat.zero_le _) ⟨reI (if_neg h5).symm, rfl⟩
  · skip
    replace h5 := zb_td h5
    have h05 := h5
    obtain ⟨c, rfl⟩ := Int.eq_ofNat_of_zero_le (show (0 : Int) ≤ x from h5.1)
    refine M.run 3 (pc' := 11) (lv' := [some (vr o), some (vi ((c : Nat) : Int)), some (vi y)]) (st' := [vi y, vi ((c : Nat) : Int), vr o]) rfl ?_
    refine M.callV (vX11_told l G o am u tl b0 D L n hT hd hi hc9 (Lok_mono (by omega) hL) (by omega) hu X hX c (by omega) y (by omega)) cv_X11_431 cd_X11_told rfl (st := []) rfl (isM_o hM) (by decide) (by decide) rfl (Nat.zero_le _) (Nat.zero_le _) ⟨a0, ⟨_, _, hM, hR, hF, hB⟩, hTE, hRg⟩ (fun r5 w6 q7 => ?_)
    rw [q7.1, q7.2]
    refine M.run 1 (pc' := 19) (lv' := [some (vr o), some (vi ((c : Nat) : Int)), some (vi y)]) (st' := [vi (mTold tl D c y)]) rfl ?_
    exact M.iret rfl (Nat.zero_le _) (Nat.zero_le _) ⟨reI (if_pos h05).symm, rfl⟩
set_option maxHeartbeats 4000000 in
set_option maxRecDepth 100000 in
theorem vX11_toldSpan (l : Launch) (G : GT) (o : Nat) (am : Nat → Nat) (u tl : Nat → Int) (b0 : Nat → Nat → Int) (D : Dy) (L : List Dy) (n : Int) (hT : Tok tl) (hd : Dok n D) (hi : Inv D) (hc9 : D.1 18 ≤ 9999) (hL : Lok n L) (hn : 0 ≤ n ∧ n ≤ 800000000) (hu : u 23 = 0 ∨ u 23 = 1) (X : Nat → Int → Option Gn) (hX : TxOk (b0 2) X (tl 1) ∧ tl 2 < tl 1) (v : Nat) (hb : v < 1073741824) (y : Int) (z : Int) (hy : -2147483648 ≤ y ∧ y ≤ 2147483647) (hz : -2147483648 ≤ z ∧ z ≤ 2147483647) : Ctr l G yX11_toldSpan cX11_toldSpan 4 ((Option.some Jvm.ClassFile.FieldType.int)) 4 0 0 [vr o, vi ((v : Nat) : Int), vi y, vi z] (fun w => isT o am u tl b0 D L w) (fun w r w' => r = some (vi (mSpn v y z)) ∧ w' = w) := by
  refine Ctr.of (t := tX11_toldSpan) (lv0 := [some (vr o), some (vi ((v : Nat) : Int)), some (vi y), some (vi z)]) (by decide +kernel) tX11_toldSpan_ok rfl rfl (fun w g hP M => ?_)
  obtain ⟨a0, ⟨a, b, hM, hR, hF, hB⟩, hTE, hRg⟩ := hP
  have ht : Tok a0 := Tok_R hT hTE hRg
  have hlen : (bPs v 30).length ≤ 30 := bPsF_len v 30 (by decide) 30 0 (by omega)
  refine M.run 2 (pc' := 2) (lv' := [some (vr o), some (vi ((v : Nat) : Int)), some (vi y), some (vi z)]) (st' := [vi (-1), vi y]) rfl ?_
  refine M.icmp_ne (tgt := 12) rfl (qI (by omega)) (qI (by decide)) (by decide) (fun h2 => ?_) (fun h2 => ?_)
  · skip
    refine M.run 3 (pc' := 15) (lv' := [some (vr o), some (vi ((v : Nat) : Int)), some (vi y), some (vi z)]) (st' := [vi ((v : Nat) : Int), vi 0, vi y]) rfl ?_
    refine M.callS (kX11_spansOf l G v (by omega)) cs_X11_434 cd_X11_spansOf rfl (st := [vi 0, vi y]) rfl (by decide) (by decide) rfl (Nat.zero_le _) (Nat.zero_le _) trivial (fun r1 w2 q3 => ?_)
    rw [q3.1, q3.2]
    refine M.run 2 (pc' := 20) (lv' := [some (vr o), some (vi ((v : Nat) : Int)), some (vi y), some (vi z)]) (st' := [vi ((((bPs v 30).length : Nat) : Int) - 1), vi 0, vi y]) rfl ?_
    refine M.callS (kX11_isIn l G y 0 ((((bPs v 30).length : Nat) : Int) - 1) (qI (by omega)) (qI (by omega)) (qI (by omega))) cs_X11_50 cd_X11_isIn rfl (st := []) rfl (by decide) (by decide) rfl (Nat.zero_le _) (Nat.zero_le _) trivial (fun r5 w6 q7 => ?_)
    rw [q7.1, q7.2]
    refine M.if_eq (tgt := 35) rfl (inI_zb _) (by decide) (fun h23 => ?_) (fun h23 => ?_)
    · skip
      replace h23 := zb_fd h23
      refine M.run 1 (pc' := 37) (lv' := [some (vr o), some (vi ((v : Nat) : Int)), some (vi y), some (vi z)]) (st' := [vi (-2)]) rfl ?_
      exact M.iret rfl (Nat.zero_le _) (Nat.zero_le _) ⟨reI ((if_neg h2).trans (if_neg (by omega))).symm, rfl⟩
    · skip
      replace h23 := zb_td h23
      obtain ⟨c, rfl⟩ := Int.eq_ofNat_of_zero_le (show (0 : Int) ≤ y from h23.1)
      refine M.run 3 (pc' := 29) (lv' := [some (vr o), some (vi ((v : Nat) : Int)), some (vi ((c : Nat) : Int)), some (vi z)]) (st' := [vi z, vi ((c : Nat) : Int), vi ((v : Nat) : Int)]) rfl ?_
      refine M.callS (kX11_spanOf l G v (by omega) c (by omega) z (by omega)) cs_X11_437 cd_X11_spanOf rfl (st := []) rfl (by decide) (by decide) rfl (Nat.zero_le _) (Nat.zero_le _) trivial (fun r9 w10 q11 => ?_)
      rw [q11.1, q11.2]
      refine M.run 1 (pc' := 37) (lv' := [some (vr o), some (vi ((v : Nat) : Int)), some (vi ((c : Nat) : Int)), some (vi z)]) (st' := [vi (bEg (bPs v 30) c z)]) rfl ?_
      exact M.iret rfl (Nat.zero_le _) (Nat.zero_le _) ⟨reI ((if_neg (by omega)).trans (if_pos (by omega))).symm, rfl⟩
  · skip
    refine M.run 1 (pc' := 6) (lv' := [some (vr o), some (vi ((v : Nat) : Int)), some (vi y), some (vi z)]) (st' := [vi ((v : Nat) : Int)]) rfl ?_
    refine M.callS (kX11_spansOf l G v (by omega)) cs_X11_434 cd_X11_spansOf rfl (st := []) rfl (by decide) (by decide) rfl (Nat.zero_le _) (Nat.zero_le _) trivial (fun r13 w14 q15 => ?_)
    rw [q15.1, q15.2]
    refine M.run 1 (pc' := 37) (lv' := [some (vr o), some (vi ((v : Nat) : Int)), some (vi y), some (vi z)]) (st' := [vi (((bPs v 30).length : Nat) : Int)]) rfl ?_
    exact M.iret rfl (Nat.zero_le _) (Nat.zero_le _) ⟨reI (if_pos h2).symm, rfl⟩
set_option maxHeartbeats 4000000 in
set_option maxRecDepth 100000 in
theorem vX11_claims (l : Launch) (G : GT) (o : Nat) (am : Nat → Nat) (u tl : Nat → Int) (b0 : Nat → Nat → Int) (D : Dy) (L : List Dy) (n : Int) (hT : Tok tl) (hd : Dok n D) (hi : Inv D) (hc9 : D.1 18 ≤ 9999) (hL : Lok n L) (hn : 0 ≤ n ∧ n ≤ 800000000) (hu : u 23 = 0 ∨ u 23 = 1) (X : Nat → Int → Option Gn) (hX : TxOk (b0 2) X (tl 1) ∧ tl 2 < tl 1) (x : Int) (y : Int) (z : Int) (hx : -2147483648 ≤ x ∧ x ≤ 2147483647) (hy : -2147483648 ≤ y ∧ y ≤ 2147483647) (hz : -2147483648 ≤ z ∧ z ≤ 2147483647) : Ctr l G yX11_claims cX11_claims 4 ((Option.some Jvm.ClassFile.FieldType.int)) 6 0 0 [vr o, vi x, vi y, vi z] (fun w => isT o am u tl b0 D L w) (fun w r w' => r = some (vi (if 0 ≤ x ∧ x < tl 0 then mSpn (D.1 (34 + x.toNat)).toNat y z else -2)) ∧ w' = w) := by
  refine Ctr.of (t := tX11_claims) (lv0 := [some (vr o), some (vi x), some (vi y), some (vi z)]) (by decide +kernel) tX11_claims_ok rfl rfl (fun w g hP M => ?_)
  obtain ⟨a0, ⟨a, b, hM, hR, hF, hB⟩, hTE, hRg⟩ := hP
  have ht : Tok a0 := Tok_R hT hTE hRg
  have hk0 : 0 ≤ tl 0 ∧ tl 0 ≤ 3 := hT.1 0 (by decide)
  refine M.run 2 (pc' := 2) (lv' := [some (vr o), some (vi x), some (vi y), some (vi z)]) (st' := [vi x, vr o]) rfl ?_
  refine M.callV (kX11_isBlock l G o am u a b x (by omega) (Mok_of ht hd (by omega) hR hF)) cv_X11_331 cd_X11_isBlock rfl (st := []) rfl (isM_o hM) (by decide) (by decide) rfl (Nat.zero_le _) (Nat.zero_le _) hM (fun r1 w2 q3 => ?_)
  rw [q3.1, q3.2]
  rw [hF 0 (Or.inl (by decide)), hTE.1 0 (by decide) (by decide) (by decide)]
  refine M.if_eq (tgt := 26) rfl (inI_zb _) (by decide) (fun h5 => ?_) (fun h5 => ?_)
  · skip
    replace h5 := zb_fd h5
    refine M.run 1 (pc' := 28) (lv' := [some (vr o), some (vi x), some (vi y), some (vi z)]) (st' := [vi (-2)]) rfl ?_
    exact M.iret rfl (Nat.zero_le _) (Nat.zero_le _) ⟨reI (if_neg h5).symm, rfl⟩
  · skip
    replace h5 := zb_td h5
    have h05 := h5
    obtain ⟨c, rfl⟩ := Int.eq_ofNat_of_zero_le (show (0 : Int) ≤ x from h5.1)
    have hq34 := Dok_clm hd (x := c) (by omega)
    refine M.run 2 (pc' := 10) (lv' := [some (vr o), some (vi ((c : Nat) : Int)), some (vi y), some (vi z)]) (st' := [vr o, vr o]) rfl ?_
    refine M.get fl_X11_7 rfl (isM_o hM) (kf := 0) (v := vr (am 0)) rfl ?_
    refine M.run 3 (pc' := 17) (lv' := [some (vr o), some (vi ((c : Nat) : Int)), some (vi y), some (vi z)]) (st' := [vi (34 + ((c : Nat) : Int)), vr (am 0), vr o]) rfl ?_
    refine M.ialdN (34 + c) rfl (isM_a hM) (by omega) (by decide) ?_
    rw [show a (34 + c) = D.1 (34 + c) from Rp_s hR (k := 34 + c) (by omega) (by omega) (by omega)]
    rw [show D.1 (34 + c) = (((D.1 (34 + c)).toNat : Nat) : Int) from (Int.toNat_of_nonneg (by omega)).symm]
    refine M.run 2 (pc' := 20) (lv' := [some (vr o), some (vi ((c : Nat) : Int)), some (vi y), some (vi z)]) (st' := [vi z, vi y, vi (((D.1 (34 + c)).toNat : Nat) : Int), vr o]) rfl ?_
    refine M.callV (vX11_toldSpan l G o am u tl b0 D L n hT hd hi hc9 (Lok_mono (by omega) hL) (by omega) hu X hX ((D.1 (34 + c)).toNat) (by omega) y z (by omega) (by omega)) cv_X11_440 cd_X11_toldSpan rfl (st := []) rfl (isM_o hM) (by decide) (by decide) rfl (Nat.zero_le _) (Nat.zero_le _) ⟨a0, ⟨_, _, hM, hR, hF, hB⟩, hTE, hRg⟩ (fun r5 w6 q7 => ?_)
    rw [q7.1, q7.2]
    refine M.run 1 (pc' := 28) (lv' := [some (vr o), some (vi ((c : Nat) : Int)), some (vi y), some (vi z)]) (st' := [vi (mSpn ((D.1 (34 + c)).toNat) y z)]) rfl ?_
    exact M.iret rfl (Nat.zero_le _) (Nat.zero_le _) ⟨reI (if_pos h05).symm, rfl⟩
set_option maxHeartbeats 4000000 in
set_option maxRecDepth 100000 in
theorem vX11_come (l : Launch) (G : GT) (o : Nat) (am : Nat → Nat) (u tl : Nat → Int) (b0 : Nat → Nat → Int) (D : Dy) (L : List Dy) (n : Int) (hT : Tok tl) (hd : Dok n D) (hi : Inv D) (hc9 : D.1 18 ≤ 9999) (hL : Lok n L) (hn : 0 ≤ n ∧ n ≤ 800000000) (hu : u 23 = 0 ∨ u 23 = 1) (X : Nat → Int → Option Gn) (hX : TxOk (b0 2) X (tl 1) ∧ tl 2 < tl 1) (x : Int) (y : Int) (z : Int) (hx : -2147483648 ≤ x ∧ x ≤ 2147483647) (hy : -2147483648 ≤ y ∧ y ≤ 2147483647) (hz : -2147483648 ≤ z ∧ z ≤ 2147483647) : Ctr l G yX11_come cX11_come 4 ((Option.some Jvm.ClassFile.FieldType.int)) 6 0 0 [vr o, vi x, vi y, vi z] (fun w => isT o am u tl b0 D L w) (fun w r w' => r = some (vi (if 0 ≤ x ∧ x < tl 0 then mSpn (D.1 (37 + x.toNat)).toNat y z else -2)) ∧ w' = w) := by
  refine Ctr.of (t := tX11_come) (lv0 := [some (vr o), some (vi x), some (vi y), some (vi z)]) (by decide +kernel) tX11_come_ok rfl rfl (fun w g hP M => ?_)
  obtain ⟨a0, ⟨a, b, hM, hR, hF, hB⟩, hTE, hRg⟩ := hP
  have ht : Tok a0 := Tok_R hT hTE hRg
  have hk0 : 0 ≤ tl 0 ∧ tl 0 ≤ 3 := hT.1 0 (by decide)
  refine M.run 2 (pc' := 2) (lv' := [some (vr o), some (vi x), some (vi y), some (vi z)]) (st' := [vi x, vr o]) rfl ?_
  refine M.callV (kX11_isBlock l G o am u a b x (by omega) (Mok_of ht hd (by omega) hR hF)) cv_X11_331 cd_X11_isBlock rfl (st := []) rfl (isM_o hM) (by decide) (by decide) rfl (Nat.zero_le _) (Nat.zero_le _) hM (fun r1 w2 q3 => ?_)
  rw [q3.1, q3.2]
  rw [hF 0 (Or.inl (by decide)), hTE.1 0 (by decide) (by decide) (by decide)]
  refine M.if_eq (tgt := 26) rfl (inI_zb _) (by decide) (fun h5 => ?_) (fun h5 => ?_)
  · skip
    replace h5 := zb_fd h5
    refine M.run 1 (pc' := 28) (lv' := [some (vr o), some (vi x), some (vi y), some (vi z)]) (st' := [vi (-2)]) rfl ?_
    exact M.iret rfl (Nat.zero_le _) (Nat.zero_le _) ⟨reI (if_neg h5).symm, rfl⟩
  · skip
    replace h5 := zb_td h5
    have h05 := h5
    obtain ⟨c, rfl⟩ := Int.eq_ofNat_of_zero_le (show (0 : Int) ≤ x from h5.1)
    have hq37 := Dok_com hd (x := c) (by omega)
    refine M.run 2 (pc' := 10) (lv' := [some (vr o), some (vi ((c : Nat) : Int)), some (vi y), some (vi z)]) (st' := [vr o, vr o]) rfl ?_
    refine M.get fl_X11_7 rfl (isM_o hM) (kf := 0) (v := vr (am 0)) rfl ?_
    refine M.run 3 (pc' := 17) (lv' := [some (vr o), some (vi ((c : Nat) : Int)), some (vi y), some (vi z)]) (st' := [vi (37 + ((c : Nat) : Int)), vr (am 0), vr o]) rfl ?_
    refine M.ialdN (37 + c) rfl (isM_a hM) (by omega) (by decide) ?_
    rw [show a (37 + c) = D.1 (37 + c) from Rp_s hR (k := 37 + c) (by omega) (by omega) (by omega)]
    rw [show D.1 (37 + c) = (((D.1 (37 + c)).toNat : Nat) : Int) from (Int.toNat_of_nonneg (by omega)).symm]
    refine M.run 2 (pc' := 20) (lv' := [some (vr o), some (vi ((c : Nat) : Int)), some (vi y), some (vi z)]) (st' := [vi z, vi y, vi (((D.1 (37 + c)).toNat : Nat) : Int), vr o]) rfl ?_
    refine M.callV (vX11_toldSpan l G o am u tl b0 D L n hT hd hi hc9 (Lok_mono (by omega) hL) (by omega) hu X hX ((D.1 (37 + c)).toNat) (by omega) y z (by omega) (by omega)) cv_X11_440 cd_X11_toldSpan rfl (st := []) rfl (isM_o hM) (by decide) (by decide) rfl (Nat.zero_le _) (Nat.zero_le _) ⟨a0, ⟨_, _, hM, hR, hF, hB⟩, hTE, hRg⟩ (fun r5 w6 q7 => ?_)
    rw [q7.1, q7.2]
    refine M.run 1 (pc' := 28) (lv' := [some (vr o), some (vi ((c : Nat) : Int)), some (vi y), some (vi z)]) (st' := [vi (mSpn ((D.1 (37 + c)).toNat) y z)]) rfl ?_
    exact M.iret rfl (Nat.zero_le _) (Nat.zero_le _) ⟨reI (if_pos h05).symm, rfl⟩
set_option maxHeartbeats 4000000 in
set_option maxRecDepth 100000 in
theorem vX11_gaps (l : Launch) (G : GT) (o : Nat) (am : Nat → Nat) (u tl : Nat → Int) (b0 : Nat → Nat → Int) (D : Dy) (L : List Dy) (n : Int) (hT : Tok tl) (hd : Dok n D) (hi : Inv D) (hc9 : D.1 18 ≤ 9999) (hL : Lok n L) (hn : 0 ≤ n ∧ n ≤ 800000000) (hu : u 23 = 0 ∨ u 23 = 1) (X : Nat → Int → Option Gn) (hX : TxOk (b0 2) X (tl 1) ∧ tl 2 < tl 1) (x : Int) (y : Int) (z : Int) (hx : -2147483648 ≤ x ∧ x ≤ 2147483647) (hy : -2147483648 ≤ y ∧ y ≤ 2147483647) (hz : -2147483648 ≤ z ∧ z ≤ 2147483647) : Ctr l G yX11_gaps cX11_gaps 4 ((Option.some Jvm.ClassFile.FieldType.int)) 6 0 0 [vr o, vi x, vi y, vi z] (fun w => isT o am u tl b0 D L w) (fun w r w' => r = some (vi (if 0 ≤ x ∧ x < tl 0 then mSpn (mMiss tl x.toNat (D.1 (34 + x.toNat)).toNat) y z else -2)) ∧ w' = w) := by
  refine Ctr.of (t := tX11_gaps) (lv0 := [some (vr o), some (vi x), some (vi y), some (vi z)]) (by decide +kernel) tX11_gaps_ok rfl rfl (fun w g hP M => ?_)
  obtain ⟨a0, ⟨a, b, hM, hR, hF, hB⟩, hTE, hRg⟩ := hP
  have ht : Tok a0 := Tok_R hT hTE hRg
  have hk0 : 0 ≤ tl 0 ∧ tl 0 ≤ 3 := hT.1 0 (by decide)
  refine M.run 2 (pc' := 2) (lv' := [some (vr o), some (vi x), some (vi y), some (vi z)]) (st' := [vi x, vr o]) rfl ?_
  refine M.callV (kX11_isBlock l G o am u a b x (by omega) (Mok_of ht hd (by omega) hR hF)) cv_X11_331 cd_X11_isBlock rfl (st := []) rfl (isM_o hM) (by decide) (by decide) rfl (Nat.zero_le _) (Nat.zero_le _) hM (fun r1 w2 q3 => ?_)
  rw [q3.1, q3.2]
  rw [hF 0 (Or.inl (by decide)), hTE.1 0 (by decide) (by decide) (by decide)]
  refine M.if_eq (tgt := 22) rfl (inI_zb _) (by decide) (fun h5 => ?_) (fun h5 => ?_)
  · skip
    replace h5 := zb_fd h5
    refine M.run 1 (pc' := 24) (lv' := [some (vr o), some (vi x), some (vi y), some (vi z)]) (st' := [vi (-2)]) rfl ?_
    exact M.iret rfl (Nat.zero_le _) (Nat.zero_le _) ⟨reI (if_neg h5).symm, rfl⟩
  · skip
    replace h5 := zb_td h5
    have h05 := h5
    obtain ⟨c, rfl⟩ := Int.eq_ofNat_of_zero_le (show (0 : Int) ≤ x from h5.1)
    refine M.run 3 (pc' := 11) (lv' := [some (vr o), some (vi ((c : Nat) : Int)), some (vi y), some (vi z)]) (st' := [vi ((c : Nat) : Int), vr o, vr o]) rfl ?_
    refine M.callV (kX11_missingOf l G o am u a b c (by omega) (Mok_of ht hd (by omega) hR hF)) cv_X11_318 cd_X11_missingOf rfl (st := [vr o]) rfl (isM_o hM) (by decide) (by decide) rfl (Nat.zero_le _) (Nat.zero_le _) hM (fun r5 w6 q7 => ?_)
    rw [q7.1, q7.2]
    rw [show bDf (bFs (a (15 + c)).toNat) (a (34 + c)).toNat = mMiss tl c (D.1 (34 + c)).toNat from by unfold mMiss mRedOf; rw [hF _ (Or.inl (by omega)), hTE.1 (15 + c) (by omega) (by omega) (by omega), Rp_s hR (k := 34 + c) (by omega) (by omega) (by omega)]]
    have hml := mMiss_lt (c := (D.1 (34 + c)).toNat) hT (show c < 3 by omega)
    refine M.run 2 (pc' := 16) (lv' := [some (vr o), some (vi ((c : Nat) : Int)), some (vi y), some (vi z)]) (st' := [vi z, vi y, vi ((mMiss tl c (D.1 (34 + c)).toNat : Nat) : Int), vr o]) rfl ?_
    refine M.callV (vX11_toldSpan l G o am u tl b0 D L n hT hd hi hc9 (Lok_mono (by omega) hL) (by omega) hu X hX (mMiss tl c (D.1 (34 + c)).toNat) (by omega) y z (by omega) (by omega)) cv_X11_440 cd_X11_toldSpan rfl (st := []) rfl (isM_o hM) (by decide) (by decide) rfl (Nat.zero_le _) (Nat.zero_le _) ⟨a0, ⟨_, _, hM, hR, hF, hB⟩, hTE, hRg⟩ (fun r9 w10 q11 => ?_)
    rw [q11.1, q11.2]
    refine M.run 1 (pc' := 24) (lv' := [some (vr o), some (vi ((c : Nat) : Int)), some (vi y), some (vi z)]) (st' := [vi (mSpn (mMiss tl c (D.1 (34 + c)).toNat) y z)]) rfl ?_
    exact M.iret rfl (Nat.zero_le _) (Nat.zero_le _) ⟨reI (if_pos h05).symm, rfl⟩
set_option maxHeartbeats 4000000 in
set_option maxRecDepth 100000 in
theorem vX11_out (l : Launch) (G : GT) (o : Nat) (am : Nat → Nat) (u tl : Nat → Int) (b0 : Nat → Nat → Int) (D : Dy) (L : List Dy) (n : Int) (hT : Tok tl) (hd : Dok n D) (hi : Inv D) (hc9 : D.1 18 ≤ 9999) (hL : Lok n L) (hn : 0 ≤ n ∧ n ≤ 800000000) (hu : u 23 = 0 ∨ u 23 = 1) (X : Nat → Int → Option Gn) (hX : TxOk (b0 2) X (tl 1) ∧ tl 2 < tl 1) (x : Int) (y : Int) (z : Int) (hx : -2147483648 ≤ x ∧ x ≤ 2147483647) (hy : -2147483648 ≤ y ∧ y ≤ 2147483647) (hz : -2147483648 ≤ z ∧ z ≤ 2147483647) : Ctr l G yX11_out cX11_out 4 ((Option.some Jvm.ClassFile.FieldType.int)) 3 0 0 [vr o, vi x, vi y, vi z] (fun w => isT o am u tl b0 D L w) (fun w r w' => r = some (vi (if 0 ≤ x ∧ x ≤ 1 then (if y = -1 then (((D.2.1 x.toNat).length : Nat) : Int) else if (0 ≤ y ∧ y < (((D.2.1 x.toNat).length : Nat) : Int)) ∧ 0 ≤ z ∧ z ≤ 6 then gR (D.2.1 x.toNat) y.toNat z.toNat else -2) else -2)) ∧ w' = w) := by
  refine Ctr.of (t := tX11_out) (lv0 := [some (vr o), some (vi x), some (vi y), some (vi z)]) (by decide +kernel) tX11_out_ok rfl rfl (fun w g hP M => ?_)
  obtain ⟨a0, ⟨a, b, hM, hR, hF, hB⟩, hTE, hRg⟩ := hP
  have ht : Tok a0 := Tok_R hT hTE hRg
  refine M.run 3 (pc' := 3) (lv' := [some (vr o), some (vi x), some (vi y), some (vi z)]) (st' := [vi 1, vi 0, vi x]) rfl ?_
  refine M.callS (kX11_isIn l G x 0 1 (qI (by omega)) (qI (by omega)) (qI (by omega))) cs_X11_50 cd_X11_isIn rfl (st := []) rfl (by decide) (by decide) rfl (Nat.zero_le _) (Nat.zero_le _) trivial (fun r1 w2 q3 => ?_)
  rw [q3.1, q3.2]
  refine M.if_ne (tgt := 12) rfl (inI_zb _) (by decide) (fun h6 => ?_) (fun h6 => ?_)
  · skip
    replace h6 := zb_td h6
    have h06 := h6
    obtain ⟨s, rfl⟩ := Int.eq_ofNat_of_zero_le (show (0 : Int) ≤ x from h6.1)
    have hll := Dok_l hd (s := s) (by omega)
    refine M.run 2 (pc' := 14) (lv' := [some (vr o), some (vi ((s : Nat) : Int)), some (vi y), some (vi z)]) (st' := [vi (-1), vi y]) rfl ?_
    refine M.icmp_ne (tgt := 27) rfl (qI (by omega)) (qI (by decide)) (by decide) (fun h14 => ?_) (fun h14 => ?_)
    · skip
      refine M.run 3 (pc' := 30) (lv' := [some (vr o), some (vi ((s : Nat) : Int)), some (vi y), some (vi z)]) (st' := [vr o, vi 0, vi y]) rfl ?_
      refine M.get fl_X11_7 rfl (isM_o hM) (kf := 0) (v := vr (am 0)) rfl ?_
      refine M.run 3 (pc' := 37) (lv' := [some (vr o), some (vi ((s : Nat) : Int)), some (vi y), some (vi z)]) (st' := [vi (24 + ((s : Nat) : Int)), vr (am 0), vi 0, vi y]) rfl ?_
      refine M.ialdN (24 + s) rfl (isM_a hM) (by omega) (by decide) ?_
      rw [show a (24 + s) = (((D.2.1 s).length : Nat) : Int) from Rp_l hR (s := s) (by omega)]
      refine M.run 2 (pc' := 40) (lv' := [some (vr o), some (vi ((s : Nat) : Int)), some (vi y), some (vi z)]) (st' := [vi ((((D.2.1 s).length : Nat) : Int) - 1), vi 0, vi y]) rfl ?_
      refine M.callS (kX11_isIn l G y 0 ((((D.2.1 s).length : Nat) : Int) - 1) (qI (by omega)) (qI (by omega)) (qI (by omega))) cs_X11_50 cd_X11_isIn rfl (st := []) rfl (by decide) (by decide) rfl (Nat.zero_le _) (Nat.zero_le _) trivial (fun r5 w6 q7 => ?_)
      rw [q7.1, q7.2]
      refine M.if_eq (tgt := 71) rfl (inI_zb _) (by decide) (fun h43 => ?_) (fun h43 => ?_)
      · skip
        replace h43 := zb_fd h43
        refine M.run 1 (pc' := 73) (lv' := [some (vr o), some (vi ((s : Nat) : Int)), some (vi y), some (vi z)]) (st' := [vi (-2)]) rfl ?_
        exact M.iret rfl (Nat.zero_le _) (Nat.zero_le _) ⟨reI (by rw [Int.toNat_natCast s]; exact ((if_pos h06).trans ((if_neg h14).trans (if_neg (by omega)))).symm), rfl⟩
      · skip
        replace h43 := zb_td h43
        refine M.run 3 (pc' := 50) (lv' := [some (vr o), some (vi ((s : Nat) : Int)), some (vi y), some (vi z)]) (st' := [vi 6, vi 0, vi z]) rfl ?_
        refine M.callS (kX11_isIn l G z 0 6 (qI (by omega)) (qI (by omega)) (qI (by omega))) cs_X11_50 cd_X11_isIn rfl (st := []) rfl (by decide) (by decide) rfl (Nat.zero_le _) (Nat.zero_le _) trivial (fun r9 w10 q11 => ?_)
        rw [q11.1, q11.2]
        refine M.if_eq (tgt := 71) rfl (inI_zb _) (by decide) (fun h53 => ?_) (fun h53 => ?_)
        · skip
          replace h53 := zb_fd h53
          refine M.run 1 (pc' := 73) (lv' := [some (vr o), some (vi ((s : Nat) : Int)), some (vi y), some (vi z)]) (st' := [vi (-2)]) rfl ?_
          exact M.iret rfl (Nat.zero_le _) (Nat.zero_le _) ⟨reI (by rw [Int.toNat_natCast s]; exact ((if_pos h06).trans ((if_neg h14).trans (if_neg (by omega)))).symm), rfl⟩
        · skip
          replace h53 := zb_td h53
          have h043 := h43
          have h053 := h53
          obtain ⟨i, rfl⟩ := Int.eq_ofNat_of_zero_le (show (0 : Int) ≤ y from h43.1)
          obtain ⟨k, rfl⟩ := Int.eq_ofNat_of_zero_le (show (0 : Int) ≤ z from h53.1)
          refine M.run 1 (pc' := 57) (lv' := [some (vr o), some (vi ((s : Nat) : Int)), some (vi ((i : Nat) : Int)), some (vi ((k : Nat) : Int))]) (st' := [vr o]) rfl ?_
          refine M.get fl_X11_7 rfl (isM_o hM) (kf := 0) (v := vr (am 0)) rfl ?_
          refine M.run 2 (pc' := 62) (lv' := [some (vr o), some (vi ((s : Nat) : Int)), some (vi ((i : Nat) : Int)), some (vi ((k : Nat) : Int))]) (st' := [vi ((i : Nat) : Int), vi ((s : Nat) : Int), vr (am 0)]) rfl ?_
          refine M.callS (kX11_outAt l G s i (by omega) (by omega)) cs_X11_292 cd_X11_outAt rfl (st := [vr (am 0)]) rfl (by decide) (by decide) rfl (Nat.zero_le _) (Nat.zero_le _) trivial (fun r13 w14 q15 => ?_)
          rw [q15.1, q15.2]
          refine M.run 2 (pc' := 67) (lv' := [some (vr o), some (vi ((s : Nat) : Int)), some (vi ((i : Nat) : Int)), some (vi ((k : Nat) : Int))]) (st' := [vi (((49 + 7 * (24 * s + i) : Nat) : Int) + ((k : Nat) : Int)), vr (am 0)]) rfl ?_
          refine M.ialdN (49 + 7 * (24 * s + i) + k) rfl (isM_a hM) (by omega) (by decide) ?_
          rw [show a (49 + 7 * (24 * s + i) + k) = gR (D.2.1 s) i k from (show _ = gR (D.2.1 s) i k from by rw [← Rp_lr hR (s := s) (i := i) (k := k) (by omega) (by omega) (by omega)]; congr 1; omega)]
          refine M.run 1 (pc' := 73) (lv' := [some (vr o), some (vi ((s : Nat) : Int)), some (vi ((i : Nat) : Int)), some (vi ((k : Nat) : Int))]) (st' := [vi (gR (D.2.1 s) i k)]) rfl ?_
          exact M.iret rfl (Nat.zero_le _) (Nat.zero_le _) ⟨reI (by rw [Int.toNat_natCast s]; exact ((if_pos h06).trans ((if_neg (by omega)).trans (if_pos (by omega)))).symm), rfl⟩
    · skip
      refine M.run 1 (pc' := 18) (lv' := [some (vr o), some (vi ((s : Nat) : Int)), some (vi y), some (vi z)]) (st' := [vr o]) rfl ?_
      refine M.get fl_X11_7 rfl (isM_o hM) (kf := 0) (v := vr (am 0)) rfl ?_
      refine M.run 3 (pc' := 25) (lv' := [some (vr o), some (vi ((s : Nat) : Int)), some (vi y), some (vi z)]) (st' := [vi (24 + ((s : Nat) : Int)), vr (am 0)]) rfl ?_
      refine M.ialdN (24 + s) rfl (isM_a hM) (by omega) (by decide) ?_
      rw [show a (24 + s) = (((D.2.1 s).length : Nat) : Int) from Rp_l hR (s := s) (by omega)]
      exact M.iret rfl (Nat.zero_le _) (Nat.zero_le _) ⟨reI ((if_pos h06).trans (if_pos h14)).symm, rfl⟩
  · skip
    replace h6 := zb_fd h6
    refine M.run 1 (pc' := 11) (lv' := [some (vr o), some (vi x), some (vi y), some (vi z)]) (st' := [vi (-2)]) rfl ?_
    exact M.iret rfl (Nat.zero_le _) (Nat.zero_le _) ⟨reI (if_neg h6).symm, rfl⟩
set_option maxHeartbeats 4000000 in
set_option maxRecDepth 100000 in
theorem vX11_flight (l : Launch) (G : GT) (o : Nat) (am : Nat → Nat) (u tl : Nat → Int) (b0 : Nat → Nat → Int) (D : Dy) (L : List Dy) (n : Int) (hT : Tok tl) (hd : Dok n D) (hi : Inv D) (hc9 : D.1 18 ≤ 9999) (hL : Lok n L) (hn : 0 ≤ n ∧ n ≤ 800000000) (hu : u 23 = 0 ∨ u 23 = 1) (X : Nat → Int → Option Gn) (hX : TxOk (b0 2) X (tl 1) ∧ tl 2 < tl 1) (y : Int) (z : Int) (hy : -2147483648 ≤ y ∧ y ≤ 2147483647) (hz : -2147483648 ≤ z ∧ z ≤ 2147483647) : Ctr l G yX11_flight cX11_flight 3 ((Option.some Jvm.ClassFile.FieldType.int)) 3 0 0 [vr o, vi y, vi z] (fun w => isT o am u tl b0 D L w) (fun w r w' => r = some (vi (if y = -1 then ((D.2.2.1.length : Nat) : Int) else if (0 ≤ y ∧ y < ((D.2.2.1.length : Nat) : Int)) ∧ 0 ≤ z ∧ z ≤ 8 then gR D.2.2.1 y.toNat z.toNat else -2)) ∧ w' = w) := by
  refine Ctr.of (t := tX11_flight) (lv0 := [some (vr o), some (vi y), some (vi z)]) (by decide +kernel) tX11_flight_ok rfl rfl (fun w g hP M => ?_)
  obtain ⟨a0, ⟨a, b, hM, hR, hF, hB⟩, hTE, hRg⟩ := hP
  have ht : Tok a0 := Tok_R hT hTE hRg
  have hk_f := Dok_f hd
  refine M.run 2 (pc' := 2) (lv' := [some (vr o), some (vi y), some (vi z)]) (st' := [vi (-1), vi y]) rfl ?_
  refine M.icmp_ne (tgt := 13) rfl (qI (by omega)) (qI (by decide)) (by decide) (fun h2 => ?_) (fun h2 => ?_)
  · skip
    refine M.run 3 (pc' := 16) (lv' := [some (vr o), some (vi y), some (vi z)]) (st' := [vr o, vi 0, vi y]) rfl ?_
    refine M.get fl_X11_7 rfl (isM_o hM) (kf := 0) (v := vr (am 0)) rfl ?_
    refine M.run 1 (pc' := 21) (lv' := [some (vr o), some (vi y), some (vi z)]) (st' := [vi 26, vr (am 0), vi 0, vi y]) rfl ?_
    refine M.ialdN (26) rfl (isM_a hM) (by decide) (by decide) ?_
    rw [show a 26 = ((D.2.2.1.length : Nat) : Int) from Rp_f hR]
    refine M.run 2 (pc' := 24) (lv' := [some (vr o), some (vi y), some (vi z)]) (st' := [vi (((D.2.2.1.length : Nat) : Int) - 1), vi 0, vi y]) rfl ?_
    refine M.callS (kX11_isIn l G y 0 (((D.2.2.1.length : Nat) : Int) - 1) (qI (by omega)) (qI (by omega)) (qI (by omega))) cs_X11_50 cd_X11_isIn rfl (st := []) rfl (by decide) (by decide) rfl (Nat.zero_le _) (Nat.zero_le _) trivial (fun r1 w2 q3 => ?_)
    rw [q3.1, q3.2]
    refine M.if_eq (tgt := 54) rfl (inI_zb _) (by decide) (fun h27 => ?_) (fun h27 => ?_)
    · skip
      replace h27 := zb_fd h27
      refine M.run 1 (pc' := 56) (lv' := [some (vr o), some (vi y), some (vi z)]) (st' := [vi (-2)]) rfl ?_
      exact M.iret rfl (Nat.zero_le _) (Nat.zero_le _) ⟨reI ((if_neg h2).trans (if_neg (by omega))).symm, rfl⟩
    · skip
      replace h27 := zb_td h27
      refine M.run 3 (pc' := 34) (lv' := [some (vr o), some (vi y), some (vi z)]) (st' := [vi 8, vi 0, vi z]) rfl ?_
      refine M.callS (kX11_isIn l G z 0 8 (qI (by omega)) (qI (by omega)) (qI (by omega))) cs_X11_50 cd_X11_isIn rfl (st := []) rfl (by decide) (by decide) rfl (Nat.zero_le _) (Nat.zero_le _) trivial (fun r5 w6 q7 => ?_)
      rw [q7.1, q7.2]
      refine M.if_eq (tgt := 54) rfl (inI_zb _) (by decide) (fun h37 => ?_) (fun h37 => ?_)
      · skip
        replace h37 := zb_fd h37
        refine M.run 1 (pc' := 56) (lv' := [some (vr o), some (vi y), some (vi z)]) (st' := [vi (-2)]) rfl ?_
        exact M.iret rfl (Nat.zero_le _) (Nat.zero_le _) ⟨reI ((if_neg h2).trans (if_neg (by omega))).symm, rfl⟩
      · skip
        replace h37 := zb_td h37
        have h027 := h27
        have h037 := h37
        obtain ⟨i, rfl⟩ := Int.eq_ofNat_of_zero_le (show (0 : Int) ≤ y from h27.1)
        obtain ⟨k, rfl⟩ := Int.eq_ofNat_of_zero_le (show (0 : Int) ≤ z from h37.1)
        refine M.run 1 (pc' := 41) (lv' := [some (vr o), some (vi ((i : Nat) : Int)), some (vi ((k : Nat) : Int))]) (st' := [vr o]) rfl ?_
        refine M.get fl_X11_7 rfl (isM_o hM) (kf := 0) (v := vr (am 0)) rfl ?_
        refine M.run 1 (pc' := 45) (lv' := [some (vr o), some (vi ((i : Nat) : Int)), some (vi ((k : Nat) : Int))]) (st' := [vi ((i : Nat) : Int), vr (am 0)]) rfl ?_
        refine M.callS (kX11_flightAt l G i (by omega)) cs_X11_298 cd_X11_flightAt rfl (st := [vr (am 0)]) rfl (by decide) (by decide) rfl (Nat.zero_le _) (Nat.zero_le _) trivial (fun r9 w10 q11 => ?_)
        rw [q11.1, q11.2]
        refine M.run 2 (pc' := 50) (lv' := [some (vr o), some (vi ((i : Nat) : Int)), some (vi ((k : Nat) : Int))]) (st' := [vi (((385 + 9 * i : Nat) : Int) + ((k : Nat) : Int)), vr (am 0)]) rfl ?_
        refine M.ialdN (385 + 9 * i + k) rfl (isM_a hM) (by omega) (by decide) ?_
        rw [show a (385 + 9 * i + k) = gR D.2.2.1 i k from Rp_fr hR (i := i) (k := k) (by omega) (by omega)]
        refine M.run 1 (pc' := 56) (lv' := [some (vr o), some (vi ((i : Nat) : Int)), some (vi ((k : Nat) : Int))]) (st' := [vi (gR D.2.2.1 i k)]) rfl ?_
        exact M.iret rfl (Nat.zero_le _) (Nat.zero_le _) ⟨reI ((if_neg (by omega)).trans (if_pos (by omega))).symm, rfl⟩
  · skip
    refine M.run 1 (pc' := 6) (lv' := [some (vr o), some (vi y), some (vi z)]) (st' := [vr o]) rfl ?_
    refine M.get fl_X11_7 rfl (isM_o hM) (kf := 0) (v := vr (am 0)) rfl ?_
    refine M.run 1 (pc' := 11) (lv' := [some (vr o), some (vi y), some (vi z)]) (st' := [vi 26, vr (am 0)]) rfl ?_
    refine M.ialdN (26) rfl (isM_a hM) (by decide) (by decide) ?_
    rw [show a 26 = ((D.2.2.1.length : Nat) : Int) from Rp_f hR]
    exact M.iret rfl (Nat.zero_le _) (Nat.zero_le _) ⟨reI (if_pos h2).symm, rfl⟩
def tmC (k : Nat) : Nat := ([8, 0, 1, 2, 7, 6] : List Nat).getD k 0
theorem tmC_t {k : Nat} (h : k < 6) : tmC k < 9 ∧ tpc (tmC k) = k := by
  match k, h with
  | 0, _ => decide
  | 1, _ => decide
  | 2, _ => decide
  | 3, _ => decide
  | 4, _ => decide
  | 5, _ => decide
  | n + 6, h => exact absurd h (by omega)
set_option maxHeartbeats 4000000 in
set_option maxRecDepth 100000 in
theorem vX11_timer (l : Launch) (G : GT) (o : Nat) (am : Nat → Nat) (u tl : Nat → Int) (b0 : Nat → Nat → Int) (D : Dy) (L : List Dy) (n : Int) (hT : Tok tl) (hd : Dok n D) (hi : Inv D) (hc9 : D.1 18 ≤ 9999) (hL : Lok n L) (hn : 0 ≤ n ∧ n ≤ 800000000) (hu : u 23 = 0 ∨ u 23 = 1) (X : Nat → Int → Option Gn) (hX : TxOk (b0 2) X (tl 1) ∧ tl 2 < tl 1) (y : Int) (z : Int) (hy : -2147483648 ≤ y ∧ y ≤ 2147483647) (hz : -2147483648 ≤ z ∧ z ≤ 2147483647) : Ctr l G yX11_timer cX11_timer 3 ((Option.some Jvm.ClassFile.FieldType.int)) 3 0 0 [vr o, vi y, vi z] (fun w => isT o am u tl b0 D L w) (fun w r w' => r = some (vi (if y = -1 then ((D.2.2.2.1.length : Nat) : Int) else if (0 ≤ y ∧ y < ((D.2.2.2.1.length : Nat) : Int)) ∧ 0 ≤ z ∧ z ≤ 5 then gR D.2.2.2.1 y.toNat (tmC z.toNat) else -2)) ∧ w' = w) := by
  refine Ctr.of (t := tX11_timer) (lv0 := [some (vr o), some (vi y), some (vi z)]) (by decide +kernel) tX11_timer_ok rfl rfl (fun w g hP M => ?_)
  obtain ⟨a0, ⟨a, b, hM, hR, hF, hB⟩, hTE, hRg⟩ := hP
  have ht : Tok a0 := Tok_R hT hTE hRg
  have hk_t := Dok_t hd
  refine M.run 2 (pc' := 2) (lv' := [some (vr o), some (vi y), some (vi z)]) (st' := [vi (-1), vi y]) rfl ?_
  refine M.icmp_ne (tgt := 13) rfl (qI (by omega)) (qI (by decide)) (by decide) (fun h2 => ?_) (fun h2 => ?_)
  · skip
    refine M.run 3 (pc' := 16) (lv' := [some (vr o), some (vi y), some (vi z)]) (st' := [vr o, vi 0, vi y]) rfl ?_
    refine M.get fl_X11_7 rfl (isM_o hM) (kf := 0) (v := vr (am 0)) rfl ?_
    refine M.run 1 (pc' := 21) (lv' := [some (vr o), some (vi y), some (vi z)]) (st' := [vi 27, vr (am 0), vi 0, vi y]) rfl ?_
    refine M.ialdN (27) rfl (isM_a hM) (by decide) (by decide) ?_
    rw [show a 27 = ((D.2.2.2.1.length : Nat) : Int) from Rp_t hR]
    refine M.run 2 (pc' := 24) (lv' := [some (vr o), some (vi y), some (vi z)]) (st' := [vi (((D.2.2.2.1.length : Nat) : Int) - 1), vi 0, vi y]) rfl ?_
    refine M.callS (kX11_isIn l G y 0 (((D.2.2.2.1.length : Nat) : Int) - 1) (qI (by omega)) (qI (by omega)) (qI (by omega))) cs_X11_50 cd_X11_isIn rfl (st := []) rfl (by decide) (by decide) rfl (Nat.zero_le _) (Nat.zero_le _) trivial (fun r1 w2 q3 => ?_)
    rw [q3.1, q3.2]
    refine M.if_eq (tgt := 53) rfl (inI_zb _) (by decide) (fun h27 => ?_) (fun h27 => ?_)
    · skip
      replace h27 := zb_fd h27
      refine M.run 1 (pc' := 55) (lv' := [some (vr o), some (vi y), some (vi z)]) (st' := [vi (-2)]) rfl ?_
      exact M.iret rfl (Nat.zero_le _) (Nat.zero_le _) ⟨reI ((if_neg h2).trans (if_neg (by omega))).symm, rfl⟩
    · skip
      replace h27 := zb_td h27
      refine M.run 3 (pc' := 33) (lv' := [some (vr o), some (vi y), some (vi z)]) (st' := [vi 5, vi 0, vi z]) rfl ?_
      refine M.callS (kX11_isIn l G z 0 5 (qI (by omega)) (qI (by omega)) (qI (by omega))) cs_X11_50 cd_X11_isIn rfl (st := []) rfl (by decide) (by decide) rfl (Nat.zero_le _) (Nat.zero_le _) trivial (fun r5 w6 q7 => ?_)
      rw [q7.1, q7.2]
      refine M.if_eq (tgt := 53) rfl (inI_zb _) (by decide) (fun h36 => ?_) (fun h36 => ?_)
      · skip
        replace h36 := zb_fd h36
        refine M.run 1 (pc' := 55) (lv' := [some (vr o), some (vi y), some (vi z)]) (st' := [vi (-2)]) rfl ?_
        exact M.iret rfl (Nat.zero_le _) (Nat.zero_le _) ⟨reI ((if_neg h2).trans (if_neg (by omega))).symm, rfl⟩
      · skip
        replace h36 := zb_td h36
        have h027 := h27
        have h036 := h36
        obtain ⟨i, rfl⟩ := Int.eq_ofNat_of_zero_le (show (0 : Int) ≤ y from h27.1)
        obtain ⟨k, rfl⟩ := Int.eq_ofNat_of_zero_le (show (0 : Int) ≤ z from h36.1)
        obtain ⟨htc, htp⟩ := tmC_t (k := k) (by omega)
        refine M.run 1 (pc' := 40) (lv' := [some (vr o), some (vi ((i : Nat) : Int)), some (vi ((k : Nat) : Int))]) (st' := [vr o]) rfl ?_
        refine M.get fl_X11_7 rfl (isM_o hM) (kf := 0) (v := vr (am 0)) rfl ?_
        refine M.run 1 (pc' := 44) (lv' := [some (vr o), some (vi ((i : Nat) : Int)), some (vi ((k : Nat) : Int))]) (st' := [vi ((i : Nat) : Int), vr (am 0)]) rfl ?_
        refine M.callS (kX11_timerAt l G i (by omega)) cs_X11_295 cd_X11_timerAt rfl (st := [vr (am 0)]) rfl (by decide) (by decide) rfl (Nat.zero_le _) (Nat.zero_le _) trivial (fun r9 w10 q11 => ?_)
        rw [q11.1, q11.2]
        refine M.run 2 (pc' := 49) (lv' := [some (vr o), some (vi ((i : Nat) : Int)), some (vi ((k : Nat) : Int))]) (st' := [vi (((817 + 9 * i : Nat) : Int) + ((k : Nat) : Int)), vr (am 0)]) rfl ?_
        refine M.ialdN (817 + 9 * i + k) rfl (isM_a hM) (by omega) (by decide) ?_
        rw [show a (817 + 9 * i + k) = gR D.2.2.2.1 i (tmC k) from (show _ = gR D.2.2.2.1 i (tmC k) from by rw [← Rp_tr hR (i := i) (k := tmC k) (by omega) htc, htp])]
        refine M.run 1 (pc' := 55) (lv' := [some (vr o), some (vi ((i : Nat) : Int)), some (vi ((k : Nat) : Int))]) (st' := [vi (gR D.2.2.2.1 i (tmC k))]) rfl ?_
        exact M.iret rfl (Nat.zero_le _) (Nat.zero_le _) ⟨reI ((if_neg (by omega)).trans (if_pos (by omega))).symm, rfl⟩
  · skip
    refine M.run 1 (pc' := 6) (lv' := [some (vr o), some (vi y), some (vi z)]) (st' := [vr o]) rfl ?_
    refine M.get fl_X11_7 rfl (isM_o hM) (kf := 0) (v := vr (am 0)) rfl ?_
    refine M.run 1 (pc' := 11) (lv' := [some (vr o), some (vi y), some (vi z)]) (st' := [vi 27, vr (am 0)]) rfl ?_
    refine M.ialdN (27) rfl (isM_a hM) (by decide) (by decide) ?_
    rw [show a 27 = ((D.2.2.2.1.length : Nat) : Int) from Rp_t hR]
    exact M.iret rfl (Nat.zero_le _) (Nat.zero_le _) ⟨reI (if_pos h2).symm, rfl⟩
set_option maxHeartbeats 4000000 in
set_option maxRecDepth 100000 in
theorem vX11_is (l : Launch) (G : GT) (o : Nat) (am : Nat → Nat) (u tl : Nat → Int) (b0 : Nat → Nat → Int) (D : Dy) (L : List Dy) (n : Int) (hT : Tok tl) (hd : Dok n D) (hi : Inv D) (hc9 : D.1 18 ≤ 9999) (hL : Lok n L) (hn : 0 ≤ n ∧ n ≤ 800000000) (hu : u 23 = 0 ∨ u 23 = 1) (X : Nat → Int → Option Gn) (hX : TxOk (b0 2) X (tl 1) ∧ tl 2 < tl 1) (y : Int) (hy : -2147483648 ≤ y ∧ y ≤ 2147483647) : Ctr l G yX11_is cX11_is 2 ((Option.some Jvm.ClassFile.FieldType.int)) 3 0 0 [vr o, vi y] (fun w => isT o am u tl b0 D L w) (fun w r w' => r = some (vi (if 0 ≤ y ∧ y ≤ 4 then D.1 (18 + y.toNat) else -2)) ∧ w' = w) := by
  refine Ctr.of (t := tX11_is) (lv0 := [some (vr o), some (vi y)]) (by decide +kernel) tX11_is_ok rfl rfl (fun w g hP M => ?_)
  obtain ⟨a0, ⟨a, b, hM, hR, hF, hB⟩, hTE, hRg⟩ := hP
  have ht : Tok a0 := Tok_R hT hTE hRg
  refine M.run 3 (pc' := 3) (lv' := [some (vr o), some (vi y)]) (st' := [vi 4, vi 0, vi y]) rfl ?_
  refine M.callS (kX11_isIn l G y 0 4 (qI (by omega)) (qI (by omega)) (qI (by omega))) cs_X11_50 cd_X11_isIn rfl (st := []) rfl (by decide) (by decide) rfl (Nat.zero_le _) (Nat.zero_le _) trivial (fun r1 w2 q3 => ?_)
  rw [q3.1, q3.2]
  refine M.if_eq (tgt := 21) rfl (inI_zb _) (by decide) (fun h6 => ?_) (fun h6 => ?_)
  · skip
    replace h6 := zb_fd h6
    refine M.run 1 (pc' := 23) (lv' := [some (vr o), some (vi y)]) (st' := [vi (-2)]) rfl ?_
    exact M.iret rfl (Nat.zero_le _) (Nat.zero_le _) ⟨reI (if_neg h6).symm, rfl⟩
  · skip
    replace h6 := zb_td h6
    have h06 := h6
    obtain ⟨k, rfl⟩ := Int.eq_ofNat_of_zero_le (show (0 : Int) ≤ y from h6.1)
    refine M.run 1 (pc' := 10) (lv' := [some (vr o), some (vi ((k : Nat) : Int))]) (st' := [vr o]) rfl ?_
    refine M.get fl_X11_7 rfl (isM_o hM) (kf := 0) (v := vr (am 0)) rfl ?_
    refine M.run 3 (pc' := 17) (lv' := [some (vr o), some (vi ((k : Nat) : Int))]) (st' := [vi (18 + ((k : Nat) : Int)), vr (am 0)]) rfl ?_
    refine M.ialdN (18 + k) rfl (isM_a hM) (by omega) (by decide) ?_
    rw [show a (18 + k) = D.1 (18 + k) from Rp_s hR (k := 18 + k) (by omega) (by omega) (by omega)]
    refine M.run 1 (pc' := 23) (lv' := [some (vr o), some (vi ((k : Nat) : Int))]) (st' := [vi (D.1 (18 + k))]) rfl ?_
    exact M.iret rfl (Nat.zero_le _) (Nat.zero_le _) ⟨reI (if_pos h06).symm, rfl⟩
set_option maxHeartbeats 4000000 in
set_option maxRecDepth 100000 in
theorem vX11_seen (l : Launch) (G : GT) (o : Nat) (am : Nat → Nat) (u tl : Nat → Int) (b0 : Nat → Nat → Int) (D : Dy) (L : List Dy) (n : Int) (hT : Tok tl) (hd : Dok n D) (hi : Inv D) (hc9 : D.1 18 ≤ 9999) (hL : Lok n L) (hn : 0 ≤ n ∧ n ≤ 800000000) (hu : u 23 = 0 ∨ u 23 = 1) (X : Nat → Int → Option Gn) (hX : TxOk (b0 2) X (tl 1) ∧ tl 2 < tl 1) (y : Int) (hy : -2147483648 ≤ y ∧ y ≤ 2147483647) : Ctr l G yX11_seen cX11_seen 2 ((Option.some Jvm.ClassFile.FieldType.boolean)) 4 0 0 [vr o, vi y] (fun w => isT o am u tl b0 D L w) (fun w r w' => r = some (vi (zb (decide ((0 ≤ y ∧ y ≤ 999) ∧ mSn tl (D.1 18 + y) = true)))) ∧ w' = w) := by
  refine Ctr.of (t := tX11_seen) (lv0 := [some (vr o), some (vi y)]) (by decide +kernel) tX11_seen_ok rfl rfl (fun w g hP M => ?_)
  obtain ⟨a0, ⟨a, b, hM, hR, hF, hB⟩, hTE, hRg⟩ := hP
  have ht : Tok a0 := Tok_R hT hTE hRg
  have hk18 := Dok_clk hd
  refine M.run 3 (pc' := 5) (lv' := [some (vr o), some (vi y)]) (st' := [vi 999, vi 0, vi y]) rfl ?_
  refine M.callS (kX11_isIn l G y 0 999 (qI (by omega)) (qI (by omega)) (qI (by omega))) cs_X11_50 cd_X11_isIn rfl (st := []) rfl (by decide) (by decide) rfl (Nat.zero_le _) (Nat.zero_le _) trivial (fun r1 w2 q3 => ?_)
  rw [q3.1, q3.2]
  refine M.if_eq (tgt := 31) rfl (inI_zb _) (by decide) (fun h8 => ?_) (fun h8 => ?_)
  · skip
    replace h8 := zb_fd h8
    have hno : ((0 ≤ y ∧ y ≤ 999) ∧ mSn tl (D.1 18 + y) = true) → (0 : Int) = 1 := fun q => absurd q.1 h8
    refine M.run 1 (pc' := 32) (lv' := [some (vr o), some (vi y)]) (st' := [vi 0]) rfl ?_
    exact M.zret rfl (Or.inl rfl) (Nat.zero_le _) (Nat.zero_le _) ⟨reI (zbd hno (fun _ => rfl)), rfl⟩
  · skip
    replace h8 := zb_td h8
    refine M.run 2 (pc' := 13) (lv' := [some (vr o), some (vi y)]) (st' := [vr o, vr o]) rfl ?_
    refine M.get fl_X11_7 rfl (isM_o hM) (kf := 0) (v := vr (am 0)) rfl ?_
    refine M.run 1 (pc' := 18) (lv' := [some (vr o), some (vi y)]) (st' := [vi 18, vr (am 0), vr o]) rfl ?_
    refine M.ialdN (18) rfl (isM_a hM) (by decide) (by decide) ?_
    rw [show a 18 = D.1 18 from Rp_s hR (k := 18) (by decide) (by decide) (by decide)]
    refine M.run 2 (pc' := 21) (lv' := [some (vr o), some (vi y)]) (st' := [vi ((D.1 18) + y), vr o]) rfl ?_
    refine M.callV (kX11_isSeenAt l G o am u a b ((D.1 18) + y) (by omega) (Mok_of ht hd (by omega) hR hF)) cv_X11_387 cd_X11_isSeenAt rfl (st := []) rfl (isM_o hM) (by decide) (by decide) rfl (Nat.zero_le _) (Nat.zero_le _) hM (fun r5 w6 q7 => ?_)
    rw [q7.1, q7.2]
    rw [show mSn a ((D.1 18) + y) = mSn tl ((D.1 18) + y) from (show mSn a ((D.1 18) + y) = mSn a0 ((D.1 18) + y) from by unfold mSn; rw [hF 9 (Or.inl (by decide)), hF 10 (Or.inl (by decide)), hF 11 (Or.inl (by decide))]).trans (c_sn hTE)]
    refine M.if_eq (tgt := 31) rfl (inI_zb _) (by decide) (fun h24 => ?_) (fun h24 => ?_)
    · skip
      replace h24 := zb_f0 h24
      have hno : ((0 ≤ y ∧ y ≤ 999) ∧ mSn tl (D.1 18 + y) = true) → (0 : Int) = 1 := fun q => absurd (q.2.symm.trans h24) (by decide)
      refine M.run 1 (pc' := 32) (lv' := [some (vr o), some (vi y)]) (st' := [vi 0]) rfl ?_
      exact M.zret rfl (Or.inl rfl) (Nat.zero_le _) (Nat.zero_le _) ⟨reI (zbd hno (fun _ => rfl)), rfl⟩
    · skip
      replace h24 := zb_t h24
      refine M.run 2 (pc' := 32) (lv' := [some (vr o), some (vi y)]) (st' := [vi 1]) rfl ?_
      exact M.zret rfl (Or.inr rfl) (Nat.zero_le _) (Nat.zero_le _) ⟨reI (zbd (fun _ => rfl) (fun q => absurd (And.intro h8 h24) q)), rfl⟩
set_option maxHeartbeats 4000000 in
set_option maxRecDepth 100000 in
theorem vX11_ticksTo (l : Launch) (G : GT) (o : Nat) (am : Nat → Nat) (u tl : Nat → Int) (b0 : Nat → Nat → Int) (D : Dy) (L : List Dy) (n : Int) (hT : Tok tl) (hd : Dok n D) (hi : Inv D) (hc9 : D.1 18 ≤ 9999) (hL : Lok n L) (hn : 0 ≤ n ∧ n ≤ 800000000) (hu : u 23 = 0 ∨ u 23 = 1) (X : Nat → Int → Option Gn) (hX : TxOk (b0 2) X (tl 1) ∧ tl 2 < tl 1) (m : Nat) (hm : m ≤ 20000) : Ctr l G yX11_ticksTo cX11_ticksTo 4 ((Option.some Jvm.ClassFile.FieldType.int)) 4 0 0 [vr o, vi ((m : Nat) : Int)] (fun w => isT o am u tl b0 D L w) (fun w r w' => r = some (vi (((mTt tl m (D.1 18) : Nat) : Int))) ∧ w' = w) := by
  refine Ctr.of (t := tX11_ticksTo) (lv0 := [some (vr o), some (vi ((m : Nat) : Int)), none, none]) (by decide +kernel) tX11_ticksTo_ok rfl rfl (fun w g hP M => ?_)
  obtain ⟨a0, ⟨a, b, hM, hR, hF, hB⟩, hTE, hRg⟩ := hP
  have ht : Tok a0 := Tok_R hT hTE hRg
  have hk18 := Dok_clk hd
  have hle := mTt_le (tl := tl) m (D.1 18)
  refine M.run 4 (pc' := 4) (lv' := [some (vr o), some (vi ((m : Nat) : Int)), some (vi 0), some (vi 0)]) (st' := []) rfl ?_
  have Lp4 : ∀ (N : Nat) (k : Nat) (t : Nat), (t + mTt tl (m - k) (D.1 18 + ((t : Nat) : Int)) = mTt tl m (D.1 18)) → (k ≤ m) → mTt tl (m - k) (D.1 18 + ((t : Nat) : Int)) < N → g 0 0 w 4 [some (vr o), some (vi ((m : Nat) : Int)), some (vi ((k : Nat) : Int)), some (vi ((t : Nat) : Int))] [] := by
    intro N
    induction N with
    | zero => intro k t _ _ hN; exact absurd hN (Nat.not_lt_zero _)
    | succ N ih4 =>
      intro k t hI hk hN
      refine M.run 2 (pc' := 6) (lv' := [some (vr o), some (vi ((m : Nat) : Int)), some (vi ((k : Nat) : Int)), some (vi ((t : Nat) : Int))]) (st' := [vi ((m : Nat) : Int), vi ((k : Nat) : Int)]) rfl ?_
      refine M.icmp_ge (tgt := 39) rfl (qI (by omega)) (qI (by omega)) (by decide) (fun h6 => ?_) (fun h6 => ?_)
      · skip
        refine M.run 1 (pc' := 40) (lv' := [some (vr o), some (vi ((m : Nat) : Int)), some (vi ((k : Nat) : Int)), some (vi ((t : Nat) : Int))]) (st' := [vi ((t : Nat) : Int)]) rfl ?_
        exact M.iret rfl (Nat.zero_le _) (Nat.zero_le _) ⟨reI (by rw [show m - k = 0 by omega] at hI; have e0 : mTt tl 0 (D.1 18 + ((t : Nat) : Int)) = 0 := rfl; omega), rfl⟩
      · skip
        refine M.run 3 (pc' := 12) (lv' := [some (vr o), some (vi ((m : Nat) : Int)), some (vi ((k : Nat) : Int)), some (vi ((t : Nat) : Int))]) (st' := [vr o, vr o, vi ((k : Nat) : Int)]) rfl ?_
        refine M.get fl_X11_7 rfl (isM_o hM) (kf := 0) (v := vr (am 0)) rfl ?_
        refine M.run 1 (pc' := 17) (lv' := [some (vr o), some (vi ((m : Nat) : Int)), some (vi ((k : Nat) : Int)), some (vi ((t : Nat) : Int))]) (st' := [vi 18, vr (am 0), vr o, vi ((k : Nat) : Int)]) rfl ?_
        refine M.ialdN (18) rfl (isM_a hM) (by decide) (by decide) ?_
        rw [show a 18 = D.1 18 from Rp_s hR (k := 18) (by decide) (by decide) (by decide)]
        refine M.run 2 (pc' := 20) (lv' := [some (vr o), some (vi ((m : Nat) : Int)), some (vi ((k : Nat) : Int)), some (vi ((t : Nat) : Int))]) (st' := [vi ((D.1 18) + ((t : Nat) : Int)), vr o, vi ((k : Nat) : Int)]) rfl ?_
        refine M.callV (kX11_isSeenAt l G o am u a b ((D.1 18) + ((t : Nat) : Int)) (by omega) (Mok_of ht hd (by omega) hR hF)) cv_X11_387 cd_X11_isSeenAt rfl (st := [vi ((k : Nat) : Int)]) rfl (isM_o hM) (by decide) (by decide) rfl (Nat.zero_le _) (Nat.zero_le _) hM (fun r1 w2 q3 => ?_)
        rw [q3.1, q3.2]
        rw [show mSn a ((D.1 18) + ((t : Nat) : Int)) = mSn tl ((D.1 18) + ((t : Nat) : Int)) from (show mSn a ((D.1 18) + ((t : Nat) : Int)) = mSn a0 ((D.1 18) + ((t : Nat) : Int)) from by unfold mSn; rw [hF 9 (Or.inl (by decide)), hF 10 (Or.inl (by decide)), hF 11 (Or.inl (by decide))]).trans (c_sn hTE)]
        refine M.if_eq (tgt := 30) rfl (inI_zb _) (by decide) (fun h23 => ?_) (fun h23 => ?_)
        · skip
          replace h23 := zb_f0 h23
          have hJ : t + 1 + mTt tl (m - k) (D.1 18 + ((t + 1 : Nat) : Int)) = mTt tl m (D.1 18) := by have q := mTt_n hT (k := m - k) (c := D.1 18 + ((t : Nat) : Int)) (by omega) (by omega) h23; rw [show D.1 18 + ((t + 1 : Nat) : Int) = D.1 18 + ((t : Nat) : Int) + 1 by omega]; omega
          have hmu : mTt tl (m - k) (D.1 18 + ((t + 1 : Nat) : Int)) < N := by omega
          refine M.run 1 (pc' := 31) (lv' := [some (vr o), some (vi ((m : Nat) : Int)), some (vi ((k : Nat) : Int)), some (vi ((t : Nat) : Int))]) (st' := [vi 0, vi ((k : Nat) : Int)]) rfl ?_
          refine M.run 4 (pc' := 4) (lv' := [some (vr o), some (vi ((m : Nat) : Int)), some (vi (((k : Nat) : Int) + 0)), some (vi (((t : Nat) : Int) + 1))]) (st' := []) rfl ?_
          exact ih4 (k + 0) (t + 1) hJ (by omega) (by omega)
        · skip
          replace h23 := zb_t h23
          have hJ : t + 1 + mTt tl (m - (k + 1)) (D.1 18 + ((t + 1 : Nat) : Int)) = mTt tl m (D.1 18) := by have q := mTt_y (tl := tl) (k := m - k) (c := D.1 18 + ((t : Nat) : Int)) (by omega) h23; rw [show D.1 18 + ((t + 1 : Nat) : Int) = D.1 18 + ((t : Nat) : Int) + 1 by omega, show m - (k + 1) = m - k - 1 by omega]; omega
          refine M.run 2 (pc' := 31) (lv' := [some (vr o), some (vi ((m : Nat) : Int)), some (vi ((k : Nat) : Int)), some (vi ((t : Nat) : Int))]) (st' := [vi 1, vi ((k : Nat) : Int)]) rfl ?_
          refine M.run 4 (pc' := 4) (lv' := [some (vr o), some (vi ((m : Nat) : Int)), some (vi (((k : Nat) : Int) + 1)), some (vi (((t : Nat) : Int) + 1))]) (st' := []) rfl ?_
          exact ih4 (k + 1) (t + 1) hJ (by omega) (by omega)
  exact Lp4 _ 0 0 (by rw [show D.1 18 + ((0 : Nat) : Int) = D.1 18 by omega]; exact Nat.zero_add _) (Nat.zero_le _) (Nat.lt_succ_self _)
set_option maxHeartbeats 4000000 in
set_option maxRecDepth 100000 in
theorem vX11_until (l : Launch) (G : GT) (o : Nat) (am : Nat → Nat) (u tl : Nat → Int) (b0 : Nat → Nat → Int) (D : Dy) (L : List Dy) (n : Int) (hT : Tok tl) (hd : Dok n D) (hi : Inv D) (hc9 : D.1 18 ≤ 9999) (hL : Lok n L) (hn : 0 ≤ n ∧ n ≤ 800000000) (hu : u 23 = 0 ∨ u 23 = 1) (X : Nat → Int → Option Gn) (hX : TxOk (b0 2) X (tl 1) ∧ tl 2 < tl 1) (y : Int) (hy : -2147483648 ≤ y ∧ y ≤ 2147483647) : Ctr l G yX11_until cX11_until 2 ((Option.some Jvm.ClassFile.FieldType.int)) 5 0 0 [vr o, vi y] (fun w => isT o am u tl b0 D L w) (fun w r w' => r = some (vi (if 0 ≤ y ∧ y ≤ 60 then ((mTt tl y.toNat (D.1 18) : Nat) : Int) else -1)) ∧ w' = w) := by
  refine Ctr.of (t := tX11_until) (lv0 := [some (vr o), some (vi y)]) (by decide +kernel) tX11_until_ok rfl rfl (fun w g hP M => ?_)
  obtain ⟨a0, ⟨a, b, hM, hR, hF, hB⟩, hTE, hRg⟩ := hP
  have ht : Tok a0 := Tok_R hT hTE hRg
  refine M.run 3 (pc' := 4) (lv' := [some (vr o), some (vi y)]) (st' := [vi 60, vi 0, vi y]) rfl ?_
  refine M.callS (kX11_isIn l G y 0 60 (qI (by omega)) (qI (by omega)) (qI (by omega))) cs_X11_50 cd_X11_isIn rfl (st := []) rfl (by decide) (by decide) rfl (Nat.zero_le _) (Nat.zero_le _) trivial (fun r1 w2 q3 => ?_)
  rw [q3.1, q3.2]
  refine M.if_eq (tgt := 18) rfl (inI_zb _) (by decide) (fun h7 => ?_) (fun h7 => ?_)
  · skip
    replace h7 := zb_fd h7
    refine M.run 1 (pc' := 19) (lv' := [some (vr o), some (vi y)]) (st' := [vi (-1)]) rfl ?_
    exact M.iret rfl (Nat.zero_le _) (Nat.zero_le _) ⟨reI (if_neg h7).symm, rfl⟩
  · skip
    replace h7 := zb_td h7
    have h07 := h7
    obtain ⟨m, rfl⟩ := Int.eq_ofNat_of_zero_le (show (0 : Int) ≤ y from h7.1)
    refine M.run 2 (pc' := 12) (lv' := [some (vr o), some (vi ((m : Nat) : Int))]) (st' := [vi ((m : Nat) : Int), vr o]) rfl ?_
    refine M.callV (vX11_ticksTo l G o am u tl b0 D L n hT hd hi hc9 (Lok_mono (by omega) hL) (by omega) hu X hX m (by omega)) cv_X11_443 cd_X11_ticksTo rfl (st := []) rfl (isM_o hM) (by decide) (by decide) rfl (Nat.zero_le _) (Nat.zero_le _) ⟨a0, ⟨_, _, hM, hR, hF, hB⟩, hTE, hRg⟩ (fun r5 w6 q7 => ?_)
    rw [q7.1, q7.2]
    refine M.run 1 (pc' := 19) (lv' := [some (vr o), some (vi ((m : Nat) : Int))]) (st' := [vi ((mTt tl m (D.1 18) : Nat) : Int)]) rfl ?_
    exact M.iret rfl (Nat.zero_le _) (Nat.zero_le _) ⟨reI (if_pos h07).symm, rfl⟩
set_option maxHeartbeats 4000000 in
set_option maxRecDepth 100000 in
theorem vX11_seenFrom (l : Launch) (G : GT) (o : Nat) (am : Nat → Nat) (u tl : Nat → Int) (b0 : Nat → Nat → Int) (D : Dy) (L : List Dy) (n : Int) (hT : Tok tl) (hd : Dok n D) (hi : Inv D) (hc9 : D.1 18 ≤ 9999) (hL : Lok n L) (hn : 0 ≤ n ∧ n ≤ 800000000) (hu : u 23 = 0 ∨ u 23 = 1) (X : Nat → Int → Option Gn) (hX : TxOk (b0 2) X (tl 1) ∧ tl 2 < tl 1) (c : Int) (hc : 0 ≤ c ∧ c ≤ 1000000) : Ctr l G yX11_seenFrom cX11_seenFrom 3 ((Option.some Jvm.ClassFile.FieldType.int)) 4 0 0 [vr o, vi c] (fun w => isT o am u tl b0 D L w) (fun w r w' => r = some (vi (c + ((mNxS tl 60 c : Nat) : Int))) ∧ w' = w) := by
  refine Ctr.of (t := tX11_seenFrom) (lv0 := [some (vr o), some (vi c), none]) (by decide +kernel) tX11_seenFrom_ok rfl rfl (fun w g hP M => ?_)
  obtain ⟨a0, ⟨a, b, hM, hR, hF, hB⟩, hTE, hRg⟩ := hP
  have ht : Tok a0 := Tok_R hT hTE hRg
  obtain ⟨hn1, hn2⟩ := mNxS_60 hT hc.1
  refine M.run 2 (pc' := 2) (lv' := [some (vr o), some (vi c), some (vi c)]) (st' := []) rfl ?_
  have Lp2 : ∀ (N : Nat) (q : Int) (j : Nat), (q = c + ((j : Nat) : Int)) → (j ≤ mNxS tl 60 c) → mNxS tl 60 c - j < N → g 0 0 w 2 [some (vr o), some (vi c), some (vi q)] [] := by
    intro N
    induction N with
    | zero => intro q j _ _ hN; exact absurd hN (Nat.not_lt_zero _)
    | succ N ih2 =>
      intro q j hq hj hN
      refine M.run 2 (pc' := 4) (lv' := [some (vr o), some (vi c), some (vi q)]) (st' := [vi q, vr o]) rfl ?_
      refine M.callV (kX11_isSeenAt l G o am u a b q (by omega) (Mok_of ht hd (by omega) hR hF)) cv_X11_387 cd_X11_isSeenAt rfl (st := []) rfl (isM_o hM) (by decide) (by decide) rfl (Nat.zero_le _) (Nat.zero_le _) hM (fun r1 w2 q3 => ?_)
      rw [q3.1, q3.2]
      rw [show mSn a q = mSn tl q from (show mSn a q = mSn a0 q from by unfold mSn; rw [hF 9 (Or.inl (by decide)), hF 10 (Or.inl (by decide)), hF 11 (Or.inl (by decide))]).trans (c_sn hTE)]
      refine M.if_ne (tgt := 16) rfl (inI_zb _) (by decide) (fun h7 => ?_) (fun h7 => ?_)
      · skip
        replace h7 := zb_t h7
        have hj2 : j = mNxS tl 60 c := by rcases Nat.lt_or_ge j (mNxS tl 60 c) with qq | qq; have q2 := mNxS_lt (tl := tl) 60 c j qq; rw [hq, q2] at h7; cases h7; omega
        refine M.run 1 (pc' := 17) (lv' := [some (vr o), some (vi c), some (vi q)]) (st' := [vi q]) rfl ?_
        exact M.iret rfl (Nat.zero_le _) (Nat.zero_le _) ⟨reI (by rw [hq, hj2]), rfl⟩
      · skip
        replace h7 := zb_f0 h7
        have hj2 : ¬ j = mNxS tl 60 c := fun qq => by rw [hq, qq, hn2] at h7; cases h7
        refine M.run 2 (pc' := 2) (lv' := [some (vr o), some (vi c), some (vi (q + 1))]) (st' := []) rfl ?_
        exact ih2 (q + 1) (j + 1) (by omega) (by omega) (by omega)
  exact Lp2 _ c 0 (by omega) (by omega) (Nat.lt_succ_self _)
set_option maxHeartbeats 4000000 in
set_option maxRecDepth 100000 in
theorem vX11_next (l : Launch) (G : GT) (o : Nat) (am : Nat → Nat) (u tl : Nat → Int) (b0 : Nat → Nat → Int) (D : Dy) (L : List Dy) (n : Int) (hT : Tok tl) (hd : Dok n D) (hi : Inv D) (hc9 : D.1 18 ≤ 9999) (hL : Lok n L) (hn : 0 ≤ n ∧ n ≤ 800000000) (hu : u 23 = 0 ∨ u 23 = 1) (X : Nat → Int → Option Gn) (hX : TxOk (b0 2) X (tl 1) ∧ tl 2 < tl 1) (y : Int) (hy : -2147483648 ≤ y ∧ y ≤ 2147483647) : Ctr l G yX11_next cX11_next 2 ((Option.some Jvm.ClassFile.FieldType.int)) 5 0 0 [vr o, vi y] (fun w => isT o am u tl b0 D L w) (fun w r w' => r = some (vi (if (0 ≤ y ∧ y ≤ 1) ∧ 0 < (D.2.1 y.toNat).length then ((mNxS tl 60 (D.1 18) : Nat) : Int) else -1)) ∧ w' = w) := by
  refine Ctr.of (t := tX11_next) (lv0 := [some (vr o), some (vi y)]) (by decide +kernel) tX11_next_ok rfl rfl (fun w g hP M => ?_)
  obtain ⟨a0, ⟨a, b, hM, hR, hF, hB⟩, hTE, hRg⟩ := hP
  have ht : Tok a0 := Tok_R hT hTE hRg
  have hk18 := Dok_clk hd
  refine M.run 3 (pc' := 3) (lv' := [some (vr o), some (vi y)]) (st' := [vi 1, vi 0, vi y]) rfl ?_
  refine M.callS (kX11_isIn l G y 0 1 (qI (by omega)) (qI (by omega)) (qI (by omega))) cs_X11_50 cd_X11_isIn rfl (st := []) rfl (by decide) (by decide) rfl (Nat.zero_le _) (Nat.zero_le _) trivial (fun r1 w2 q3 => ?_)
  rw [q3.1, q3.2]
  refine M.if_eq (tgt := 43) rfl (inI_zb _) (by decide) (fun h6 => ?_) (fun h6 => ?_)
  · skip
    replace h6 := zb_fd h6
    refine M.run 1 (pc' := 44) (lv' := [some (vr o), some (vi y)]) (st' := [vi (-1)]) rfl ?_
    exact M.iret rfl (Nat.zero_le _) (Nat.zero_le _) ⟨reI (if_neg (fun z => h6 z.1)).symm, rfl⟩
  · skip
    replace h6 := zb_td h6
    have h06 := h6
    obtain ⟨s, rfl⟩ := Int.eq_ofNat_of_zero_le (show (0 : Int) ≤ y from h6.1)
    have hll := Dok_l hd (s := s) (by omega)
    refine M.run 1 (pc' := 10) (lv' := [some (vr o), some (vi ((s : Nat) : Int))]) (st' := [vr o]) rfl ?_
    refine M.get fl_X11_7 rfl (isM_o hM) (kf := 0) (v := vr (am 0)) rfl ?_
    refine M.run 3 (pc' := 17) (lv' := [some (vr o), some (vi ((s : Nat) : Int))]) (st' := [vi (24 + ((s : Nat) : Int)), vr (am 0)]) rfl ?_
    refine M.ialdN (24 + s) rfl (isM_a hM) (by omega) (by decide) ?_
    rw [show a (24 + s) = (((D.2.1 s).length : Nat) : Int) from Rp_l hR (s := s) (by omega)]
    refine M.if_le (tgt := 43) rfl (qI (by omega)) (by decide) (fun h18 => ?_) (fun h18 => ?_)
    · skip
      refine M.run 1 (pc' := 44) (lv' := [some (vr o), some (vi ((s : Nat) : Int))]) (st' := [vi (-1)]) rfl ?_
      exact M.iret rfl (Nat.zero_le _) (Nat.zero_le _) ⟨reI (by rw [Int.toNat_natCast s, if_neg (by omega)]), rfl⟩
    · skip
      refine M.run 2 (pc' := 23) (lv' := [some (vr o), some (vi ((s : Nat) : Int))]) (st' := [vr o, vr o]) rfl ?_
      refine M.get fl_X11_7 rfl (isM_o hM) (kf := 0) (v := vr (am 0)) rfl ?_
      refine M.run 1 (pc' := 28) (lv' := [some (vr o), some (vi ((s : Nat) : Int))]) (st' := [vi 18, vr (am 0), vr o]) rfl ?_
      refine M.ialdN (18) rfl (isM_a hM) (by decide) (by decide) ?_
      rw [show a 18 = D.1 18 from Rp_s hR (k := 18) (by decide) (by decide) (by decide)]
      refine M.callV (vX11_seenFrom l G o am u tl b0 D L n hT hd hi hc9 (Lok_mono (by omega) hL) (by omega) hu X hX (D.1 18) (by omega)) cv_X11_446 cd_X11_seenFrom rfl (st := []) rfl (isM_o hM) (by decide) (by decide) rfl (Nat.zero_le _) (Nat.zero_le _) ⟨a0, ⟨_, _, hM, hR, hF, hB⟩, hTE, hRg⟩ (fun r5 w6 q7 => ?_)
      rw [q7.1, q7.2]
      have hns := (mNxS_60 hT (c := (D.1 18)) (by omega)).1
      refine M.run 1 (pc' := 33) (lv' := [some (vr o), some (vi ((s : Nat) : Int))]) (st' := [vr o, vi ((D.1 18) + ((mNxS tl 60 (D.1 18) : Nat) : Int))]) rfl ?_
      refine M.get fl_X11_7 rfl (isM_o hM) (kf := 0) (v := vr (am 0)) rfl ?_
      refine M.run 1 (pc' := 38) (lv' := [some (vr o), some (vi ((s : Nat) : Int))]) (st' := [vi 18, vr (am 0), vi ((D.1 18) + ((mNxS tl 60 (D.1 18) : Nat) : Int))]) rfl ?_
      refine M.ialdN (18) rfl (isM_a hM) (by decide) (by decide) ?_
      rw [show a 18 = D.1 18 from Rp_s hR (k := 18) (by decide) (by decide) (by decide)]
      refine M.run 2 (pc' := 44) (lv' := [some (vr o), some (vi ((s : Nat) : Int))]) (st' := [vi (((D.1 18) + ((mNxS tl 60 (D.1 18) : Nat) : Int)) - (D.1 18))]) rfl ?_
      exact M.iret rfl (Nat.zero_le _) (Nat.zero_le _) ⟨reI (by rw [Int.toNat_natCast s, if_pos (by omega)]; omega), rfl⟩
set_option maxHeartbeats 4000000 in
set_option maxRecDepth 100000 in
theorem vX11_round (l : Launch) (G : GT) (o : Nat) (am : Nat → Nat) (u tl : Nat → Int) (b0 : Nat → Nat → Int) (D : Dy) (L : List Dy) (n : Int) (hT : Tok tl) (hd : Dok n D) (hi : Inv D) (hc9 : D.1 18 ≤ 9999) (hL : Lok n L) (hn : 0 ≤ n ∧ n ≤ 800000000) (hu : u 23 = 0 ∨ u 23 = 1) (X : Nat → Int → Option Gn) (hX : TxOk (b0 2) X (tl 1) ∧ tl 2 < tl 1)  : Ctr l G yX11_round cX11_round 1 ((Option.some Jvm.ClassFile.FieldType.int)) 5 0 0 [vr o] (fun w => isT o am u tl b0 D L w) (fun w r w' => r = some (vi (D.1 18 + ((mNxS tl 60 (D.1 18) : Nat) : Int) + tl 6 + ((mNxS tl 60 (D.1 18 + ((mNxS tl 60 (D.1 18) : Nat) : Int) + tl 6) : Nat) : Int) + tl 6 - D.1 18)) ∧ w' = w) := by
  refine Ctr.of (t := tX11_round) (lv0 := [some (vr o)]) (by decide +kernel) tX11_round_ok rfl rfl (fun w g hP M => ?_)
  obtain ⟨a0, ⟨a, b, hM, hR, hF, hB⟩, hTE, hRg⟩ := hP
  have ht : Tok a0 := Tok_R hT hTE hRg
  have hk18 := Dok_clk hd
  have hk6 : 1 ≤ tl 6 ∧ tl 6 ≤ 20 := hT.1 6 (by decide)
  refine M.run 3 (pc' := 3) (lv' := [some (vr o)]) (st' := [vr o, vr o, vr o]) rfl ?_
  refine M.get fl_X11_7 rfl (isM_o hM) (kf := 0) (v := vr (am 0)) rfl ?_
  refine M.run 1 (pc' := 8) (lv' := [some (vr o)]) (st' := [vi 18, vr (am 0), vr o, vr o]) rfl ?_
  refine M.ialdN (18) rfl (isM_a hM) (by decide) (by decide) ?_
  rw [show a 18 = D.1 18 from Rp_s hR (k := 18) (by decide) (by decide) (by decide)]
  refine M.callV (vX11_seenFrom l G o am u tl b0 D L n hT hd hi hc9 (Lok_mono (by omega) hL) (by omega) hu X hX (D.1 18) (by omega)) cv_X11_446 cd_X11_seenFrom rfl (st := [vr o]) rfl (isM_o hM) (by decide) (by decide) rfl (Nat.zero_le _) (Nat.zero_le _) ⟨a0, ⟨_, _, hM, hR, hF, hB⟩, hTE, hRg⟩ (fun r1 w2 q3 => ?_)
  rw [q3.1, q3.2]
  have hns := (mNxS_60 hT (c := (D.1 18)) (by omega)).1
  refine M.run 1 (pc' := 13) (lv' := [some (vr o)]) (st' := [vr o, vi ((D.1 18) + ((mNxS tl 60 (D.1 18) : Nat) : Int)), vr o]) rfl ?_
  refine M.get fl_X11_7 rfl (isM_o hM) (kf := 0) (v := vr (am 0)) rfl ?_
  refine M.run 1 (pc' := 18) (lv' := [some (vr o)]) (st' := [vi 6, vr (am 0), vi ((D.1 18) + ((mNxS tl 60 (D.1 18) : Nat) : Int)), vr o]) rfl ?_
  refine M.ialdN (6) rfl (isM_a hM) (by decide) (by decide) ?_
  rw [show a 6 = tl 6 from (hF 6 (Or.inl (by decide))).trans (hTE.1 6 (by decide) (by decide) (by decide))]
  refine M.run 1 (pc' := 20) (lv' := [some (vr o)]) (st' := [vi (((D.1 18) + ((mNxS tl 60 (D.1 18) : Nat) : Int)) + (tl 6)), vr o]) rfl ?_
  refine M.callV (vX11_seenFrom l G o am u tl b0 D L n hT hd hi hc9 (Lok_mono (by omega) hL) (by omega) hu X hX (((D.1 18) + ((mNxS tl 60 (D.1 18) : Nat) : Int)) + (tl 6)) (by omega)) cv_X11_446 cd_X11_seenFrom rfl (st := []) rfl (isM_o hM) (by decide) (by decide) rfl (Nat.zero_le _) (Nat.zero_le _) ⟨a0, ⟨_, _, hM, hR, hF, hB⟩, hTE, hRg⟩ (fun r5 w6 q7 => ?_)
  rw [q7.1, q7.2]
  have hns := (mNxS_60 hT (c := (((D.1 18) + ((mNxS tl 60 (D.1 18) : Nat) : Int)) + (tl 6))) (by omega)).1
  refine M.run 1 (pc' := 24) (lv' := [some (vr o)]) (st' := [vr o, vi ((((D.1 18) + ((mNxS tl 60 (D.1 18) : Nat) : Int)) + (tl 6)) + ((mNxS tl 60 (((D.1 18) + ((mNxS tl 60 (D.1 18) : Nat) : Int)) + (tl 6)) : Nat) : Int))]) rfl ?_
  refine M.get fl_X11_7 rfl (isM_o hM) (kf := 0) (v := vr (am 0)) rfl ?_
  refine M.run 1 (pc' := 29) (lv' := [some (vr o)]) (st' := [vi 6, vr (am 0), vi ((((D.1 18) + ((mNxS tl 60 (D.1 18) : Nat) : Int)) + (tl 6)) + ((mNxS tl 60 (((D.1 18) + ((mNxS tl 60 (D.1 18) : Nat) : Int)) + (tl 6)) : Nat) : Int))]) rfl ?_
  refine M.ialdN (6) rfl (isM_a hM) (by decide) (by decide) ?_
  rw [show a 6 = tl 6 from (hF 6 (Or.inl (by decide))).trans (hTE.1 6 (by decide) (by decide) (by decide))]
  refine M.run 2 (pc' := 32) (lv' := [some (vr o)]) (st' := [vr o, vi (((((D.1 18) + ((mNxS tl 60 (D.1 18) : Nat) : Int)) + (tl 6)) + ((mNxS tl 60 (((D.1 18) + ((mNxS tl 60 (D.1 18) : Nat) : Int)) + (tl 6)) : Nat) : Int)) + (tl 6))]) rfl ?_
  refine M.get fl_X11_7 rfl (isM_o hM) (kf := 0) (v := vr (am 0)) rfl ?_
  refine M.run 1 (pc' := 37) (lv' := [some (vr o)]) (st' := [vi 18, vr (am 0), vi (((((D.1 18) + ((mNxS tl 60 (D.1 18) : Nat) : Int)) + (tl 6)) + ((mNxS tl 60 (((D.1 18) + ((mNxS tl 60 (D.1 18) : Nat) : Int)) + (tl 6)) : Nat) : Int)) + (tl 6))]) rfl ?_
  refine M.ialdN (18) rfl (isM_a hM) (by decide) (by decide) ?_
  rw [show a 18 = D.1 18 from Rp_s hR (k := 18) (by decide) (by decide) (by decide)]
  refine M.run 1 (pc' := 39) (lv' := [some (vr o)]) (st' := [vi ((((((D.1 18) + ((mNxS tl 60 (D.1 18) : Nat) : Int)) + (tl 6)) + ((mNxS tl 60 (((D.1 18) + ((mNxS tl 60 (D.1 18) : Nat) : Int)) + (tl 6)) : Nat) : Int)) + (tl 6)) - (D.1 18))]) rfl ?_
  exact M.iret rfl (Nat.zero_le _) (Nat.zero_le _) ⟨rfl, rfl⟩
set_option maxHeartbeats 4000000 in
set_option maxRecDepth 100000 in
theorem vX11_rings (l : Launch) (G : GT) (o : Nat) (am : Nat → Nat) (u tl : Nat → Int) (b0 : Nat → Nat → Int) (D : Dy) (L : List Dy) (n : Int) (hT : Tok tl) (hd : Dok n D) (hi : Inv D) (hc9 : D.1 18 ≤ 9999) (hL : Lok n L) (hn : 0 ≤ n ∧ n ≤ 800000000) (hu : u 23 = 0 ∨ u 23 = 1) (X : Nat → Int → Option Gn) (hX : TxOk (b0 2) X (tl 1) ∧ tl 2 < tl 1) (y : Int) (hy : -2147483648 ≤ y ∧ y ≤ 2147483647) (hrg : ∀ i : Nat, i < D.2.2.2.1.length → 0 ≤ gR D.2.2.2.1 i 7 - D.1 20) : Ctr l G yX11_rings cX11_rings 2 ((Option.some Jvm.ClassFile.FieldType.int)) 5 0 0 [vr o, vi y] (fun w => isT o am u tl b0 D L w) (fun w r w' => r = some (vi (if 0 ≤ y ∧ y < ((D.2.2.2.1.length : Nat) : Int) then ((mTt tl (gR D.2.2.2.1 y.toNat 7 - D.1 20).toNat (D.1 18) : Nat) : Int) else -1)) ∧ w' = w) := by
  refine Ctr.of (t := tX11_rings) (lv0 := [some (vr o), some (vi y)]) (by decide +kernel) tX11_rings_ok rfl rfl (fun w g hP M => ?_)
  obtain ⟨a0, ⟨a, b, hM, hR, hF, hB⟩, hTE, hRg⟩ := hP
  have ht : Tok a0 := Tok_R hT hTE hRg
  have hk_t := Dok_t hd
  have hk20 := Dok_sun hd
  refine M.run 3 (pc' := 3) (lv' := [some (vr o), some (vi y)]) (st' := [vr o, vi 0, vi y]) rfl ?_
  refine M.get fl_X11_7 rfl (isM_o hM) (kf := 0) (v := vr (am 0)) rfl ?_
  refine M.run 1 (pc' := 8) (lv' := [some (vr o), some (vi y)]) (st' := [vi 27, vr (am 0), vi 0, vi y]) rfl ?_
  refine M.ialdN (27) rfl (isM_a hM) (by decide) (by decide) ?_
  rw [show a 27 = ((D.2.2.2.1.length : Nat) : Int) from Rp_t hR]
  refine M.run 2 (pc' := 11) (lv' := [some (vr o), some (vi y)]) (st' := [vi (((D.2.2.2.1.length : Nat) : Int) - 1), vi 0, vi y]) rfl ?_
  refine M.callS (kX11_isIn l G y 0 (((D.2.2.2.1.length : Nat) : Int) - 1) (qI (by omega)) (qI (by omega)) (qI (by omega))) cs_X11_50 cd_X11_isIn rfl (st := []) rfl (by decide) (by decide) rfl (Nat.zero_le _) (Nat.zero_le _) trivial (fun r1 w2 q3 => ?_)
  rw [q3.1, q3.2]
  refine M.if_eq (tgt := 43) rfl (inI_zb _) (by decide) (fun h14 => ?_) (fun h14 => ?_)
  · skip
    replace h14 := zb_fd h14
    refine M.run 1 (pc' := 44) (lv' := [some (vr o), some (vi y)]) (st' := [vi (-1)]) rfl ?_
    exact M.iret rfl (Nat.zero_le _) (Nat.zero_le _) ⟨reI (if_neg (by omega)).symm, rfl⟩
  · skip
    replace h14 := zb_td h14
    have h014 := h14
    obtain ⟨i, rfl⟩ := Int.eq_ofNat_of_zero_le (show (0 : Int) ≤ y from h14.1)
    obtain ⟨q0, q1, q2, q3, q4, q5, q6, q7, q8, q9⟩ := Dok_tr hd (i := i) (by omega)
    have hiv := hrg i (by omega)
    refine M.run 2 (pc' := 19) (lv' := [some (vr o), some (vi ((i : Nat) : Int))]) (st' := [vr o, vr o]) rfl ?_
    refine M.get fl_X11_7 rfl (isM_o hM) (kf := 0) (v := vr (am 0)) rfl ?_
    refine M.run 1 (pc' := 23) (lv' := [some (vr o), some (vi ((i : Nat) : Int))]) (st' := [vi ((i : Nat) : Int), vr (am 0), vr o]) rfl ?_
    refine M.callS (kX11_timerAt l G i (by omega)) cs_X11_295 cd_X11_timerAt rfl (st := [vr (am 0), vr o]) rfl (by decide) (by decide) rfl (Nat.zero_le _) (Nat.zero_le _) trivial (fun r5 w6 q7 => ?_)
    rw [q7.1, q7.2]
    refine M.run 2 (pc' := 28) (lv' := [some (vr o), some (vi ((i : Nat) : Int))]) (st' := [vi (((817 + 9 * i : Nat) : Int) + 4), vr (am 0), vr o]) rfl ?_
    refine M.ialdN (817 + 9 * i + 4) rfl (isM_a hM) (by omega) (by decide) ?_
    rw [show a (817 + 9 * i + 4) = gR D.2.2.2.1 i 7 from Rp_tr hR (i := i) (k := 7) (by omega) (by decide)]
    refine M.run 1 (pc' := 30) (lv' := [some (vr o), some (vi ((i : Nat) : Int))]) (st' := [vr o, vi (gR D.2.2.2.1 i 7), vr o]) rfl ?_
    refine M.get fl_X11_7 rfl (isM_o hM) (kf := 0) (v := vr (am 0)) rfl ?_
    refine M.run 1 (pc' := 35) (lv' := [some (vr o), some (vi ((i : Nat) : Int))]) (st' := [vi 20, vr (am 0), vi (gR D.2.2.2.1 i 7), vr o]) rfl ?_
    refine M.ialdN (20) rfl (isM_a hM) (by decide) (by decide) ?_
    rw [show a 20 = D.1 20 from Rp_s hR (k := 20) (by decide) (by decide) (by decide)]
    refine M.run 1 (pc' := 37) (lv' := [some (vr o), some (vi ((i : Nat) : Int))]) (st' := [vi ((gR D.2.2.2.1 i 7) - (D.1 20)), vr o]) rfl ?_
    rw [show (gR D.2.2.2.1 i 7) - (D.1 20) = ((((gR D.2.2.2.1 i 7) - (D.1 20)).toNat : Nat) : Int) from (Int.toNat_of_nonneg (by omega)).symm]
    refine M.callV (vX11_ticksTo l G o am u tl b0 D L n hT hd hi hc9 (Lok_mono (by omega) hL) (by omega) hu X hX (((gR D.2.2.2.1 i 7) - (D.1 20)).toNat) (by omega)) cv_X11_443 cd_X11_ticksTo rfl (st := []) rfl (isM_o hM) (by decide) (by decide) rfl (Nat.zero_le _) (Nat.zero_le _) ⟨a0, ⟨_, _, hM, hR, hF, hB⟩, hTE, hRg⟩ (fun r9 w10 q11 => ?_)
    rw [q11.1, q11.2]
    refine M.run 1 (pc' := 44) (lv' := [some (vr o), some (vi ((i : Nat) : Int))]) (st' := [vi ((mTt tl (((gR D.2.2.2.1 i 7) - (D.1 20)).toNat) (D.1 18) : Nat) : Int)]) rfl ?_
    exact M.iret rfl (Nat.zero_le _) (Nat.zero_le _) ⟨reI (if_pos (by omega)).symm, rfl⟩
