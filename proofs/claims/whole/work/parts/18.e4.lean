section QGT
variable {a0 : Nat → Int} {i : Nat} {D : Dy}
def mF1 (i : Nat) (D : Dy) : Dy := (D.1, D.2.1, D.2.2.1.eraseIdx i, D.2.2.2)
theorem mGot_0 (h : gR D.2.2.1 i 0 = 0) : mGot a0 i D = mGotData a0 (gR D.2.2.1 i 1).toNat (gR D.2.2.1 i 2) (gR D.2.2.1 i 3).toNat (gR D.2.2.1 i 4).toNat (mF1 i D) := if_pos h
theorem mGot_1 (h0 : ¬ gR D.2.2.1 i 0 = 0) (h : gR D.2.2.1 i 0 = 1) : mGot a0 i D = mGotReport a0 (gR D.2.2.1 i 1).toNat (gR D.2.2.1 i 2) (gR D.2.2.1 i 4) (gR D.2.2.1 i 5).toNat (mF1 i D) := (if_neg h0).trans (if_pos h)
theorem mGot_2 (h0 : ¬ gR D.2.2.1 i 0 = 0) (h1 : ¬ gR D.2.2.1 i 0 = 1) (h : gR D.2.2.1 i 0 = 2) : mGot a0 i D = mDrop (gR D.2.2.1 i 8).toNat (pKS (((gR D.2.2.1 i 1).toNat : Nat) : Int) 1 (gR D.2.2.1 i 2)) (mF1 i D) := ((if_neg h0).trans (if_neg h1)).trans (if_pos h)
theorem mGot_3 (h0 : ¬ gR D.2.2.1 i 0 = 0) (h1 : ¬ gR D.2.2.1 i 0 = 1) (h2 : ¬ gR D.2.2.1 i 0 = 2) (h : gR D.2.2.1 i 0 = 3) : mGot a0 i D = mGotCancel (gR D.2.2.1 i 8).toNat (gR D.2.2.1 i 1).toNat (mF1 i D) := (((if_neg h0).trans (if_neg h1)).trans (if_neg h2)).trans (if_pos h)
theorem mGot_4 (h0 : ¬ gR D.2.2.1 i 0 = 0) (h1 : ¬ gR D.2.2.1 i 0 = 1) (h2 : ¬ gR D.2.2.1 i 0 = 2) (h3 : ¬ gR D.2.2.1 i 0 = 3) : mGot a0 i D = mDrop (gR D.2.2.1 i 8).toNat (pKS (((gR D.2.2.1 i 1).toNat : Nat) : Int) 3 0) (mF1 i D) := (((if_neg h0).trans (if_neg h1)).trans (if_neg h2)).trans (if_neg h3)
theorem mRingOne_a (h : gR D.2.2.2.1 i 6 < a0 8) : mRingOne a0 i D = mPut (gR D.2.2.2.1 i 8).toNat (rwM (gR D.2.2.2.1 i 0) (gR D.2.2.2.1 i 1) (gR D.2.2.2.1 i 2) (gR D.2.2.2.1 i 3) (gR D.2.2.2.1 i 4) (gR D.2.2.2.1 i 5) (gR D.2.2.2.1 i 6 + 1)) (mNote (rwB (D.1 18) 5 (gR D.2.2.2.1 i 1) (gR D.2.2.2.1 i 0)) (D.1, D.2.1, D.2.2.1, D.2.2.2.1.eraseIdx i, D.2.2.2.2)) := if_pos h
theorem mRingOne_b (h : ¬ gR D.2.2.2.1 i 6 < a0 8) (h1 : ¬ gR D.2.2.2.1 i 0 = 3) (h2 : mCan (gR D.2.2.2.1 i 1).toNat (gR D.2.2.2.1 i 8).toNat D) : mRingOne a0 i D = mCancel (gR D.2.2.2.1 i 1).toNat (gR D.2.2.2.1 i 8).toNat (mNote (rwB (D.1 18) 5 (gR D.2.2.2.1 i 1) (gR D.2.2.2.1 i 0)) (D.1, D.2.1, D.2.2.1, D.2.2.2.1.eraseIdx i, D.2.2.2.2)) := (if_neg h).trans (if_pos ⟨h1, h2⟩)
theorem mRingOne_c (h : ¬ gR D.2.2.2.1 i 6 < a0 8) (h1 : gR D.2.2.2.1 i 0 = 3 ∨ ¬ mCan (gR D.2.2.2.1 i 1).toNat (gR D.2.2.2.1 i 8).toNat D) : mRingOne a0 i D = mNote (rwB (D.1 18) 5 (gR D.2.2.2.1 i 1) (gR D.2.2.2.1 i 0)) (D.1, D.2.1, D.2.2.1, D.2.2.2.1.eraseIdx i, D.2.2.2.2) := (if_neg h).trans (if_neg (fun q => h1.elim (fun z => q.1 z) (fun z => z q.2)))
end QGT
/-- the first timer that is due -/
def mDue (sun : Int) : List Rw → Nat
  | [] => 0
  | r :: t => if r 7 ≤ sun then 0 else mDue sun t + 1
theorem gR_drop {L : List Rw} {i : Nat} (h : i < L.length) : L.drop i = gR L i :: L.drop (i + 1) := by
  rw [List.drop_eq_getElem_cons h]
  congr 1
  unfold gR
  rw [List.getD_eq_getElem?_getD, List.getElem?_eq_getElem h]
  rfl
theorem mDue_le (sun : Int) : ∀ L : List Rw, mDue sun L ≤ L.length
  | [] => Nat.le_refl _
  | r :: t => by
    unfold mDue
    have := mDue_le sun t
    split
    · exact Nat.zero_le _
    · exact Nat.succ_le_succ this
/-- cells that are copied -/
def cpP (a f : Nat → Int) (y x k : Nat) : Prop := ∀ q : Nat, f q = if y ≤ q ∧ q < y + k then a (q - y + x) else a q
theorem cpP_0 (a : Nat → Int) (y x : Nat) : cpP a a y x 0 := fun q => by rw [if_neg (by omega)]
theorem cpP_s {a f : Nat → Int} {y x k : Nat} (h : cpP a f y x k) (h1 : x + k < y ∨ y + k ≤ x + k) : cpP a (uN f (y + k) (f (x + k))) y x (k + 1) := fun q => by
  by_cases e : q = y + k
  · subst e
    rw [uN_s, if_pos (by omega), h (x + k), if_neg (by omega)]
    congr 1; omega
  · rw [uN_o e, h q]
    by_cases e2 : y ≤ q ∧ q < y + k
    · rw [if_pos e2, if_pos (by omega)]
    · rw [if_neg e2, if_neg (by omega)]

set_option maxHeartbeats 4000000 in
set_option maxRecDepth 100000 in
theorem eX11_got (l : Launch) (G : GT) (o : Nat) (am : Nat → Nat) (u a0 : Nat → Int) (b0 : Nat → Nat → Int) (D : Dy) (n : Int) (ht : Tok a0) (hd : Dok n D) (hn : 0 ≤ n ∧ n ≤ 899999997) (i : Nat) (hi : i < D.2.2.1.length) : Ctr l G yX11_got cX11_got 10 ((Option.none : Option Jvm.ClassFile.FieldType)) 7 0 0 [vr o, vi ((i : Nat) : Int)] (fun w => isE o am u a0 b0 D w) (fun w r w' => r = none ∧ isE o am u a0 b0 (mGot a0 i D) w') := by
  refine Ctr.of (t := tX11_got) (lv0 := [some (vr o), some (vi ((i : Nat) : Int)), none, none, none, none, none, none, none, none]) (by decide +kernel) tX11_got_ok rfl rfl (fun w g hP M => ?_)
  obtain ⟨a, b, hM, hR, hF, hB⟩ := hP
  have hk_f := Dok_f hd
  obtain ⟨q0, q1, q2, q3, q4, q5, q6, q7, q8, q9⟩ := Dok_fr hd hi
  refine M.run 1 (pc' := 1) (lv' := [some (vr o), some (vi ((i : Nat) : Int)), none, none, none, none, none, none, none, none]) (st' := [vi ((i : Nat) : Int)]) rfl ?_
  refine M.callS (kX11_flightAt l G i (by omega)) cs_X11_298 cd_X11_flightAt rfl (st := []) rfl (by decide) (by decide) rfl (Nat.zero_le _) (Nat.zero_le _) trivial (fun r1 w2 q3 => ?_)
  rw [q3.1, q3.2]
  refine M.run 2 (pc' := 6) (lv' := [some (vr o), some (vi ((i : Nat) : Int)), some (vi ((385 + 9 * i : Nat) : Int)), none, none, none, none, none, none, none]) (st' := [vr o]) rfl ?_
  refine M.get fl_X11_7 rfl (isM_o hM) (kf := 0) (v := vr (am 0)) rfl ?_
  refine M.run 3 (pc' := 13) (lv' := [some (vr o), some (vi ((i : Nat) : Int)), some (vi ((385 + 9 * i : Nat) : Int)), none, none, none, none, none, none, none]) (st' := [vi (((385 + 9 * i : Nat) : Int) + 8), vr (am 0)]) rfl ?_
  refine M.ialdN (385 + 9 * i + 8) rfl (isM_a hM) (by omega) (by decide) ?_
  rw [show a (385 + 9 * i + 8) = gR D.2.2.1 i 8 from Rp_fr hR (k := 8) hi (by decide)]
  refine M.run 2 (pc' := 16) (lv' := [some (vr o), some (vi ((i : Nat) : Int)), some (vi ((385 + 9 * i : Nat) : Int)), some (vi (gR D.2.2.1 i 8)), none, none, none, none, none, none]) (st' := [vr o]) rfl ?_
  refine M.get fl_X11_7 rfl (isM_o hM) (kf := 0) (v := vr (am 0)) rfl ?_
  refine M.run 3 (pc' := 22) (lv' := [some (vr o), some (vi ((i : Nat) : Int)), some (vi ((385 + 9 * i : Nat) : Int)), some (vi (gR D.2.2.1 i 8)), none, none, none, none, none, none]) (st' := [vi (((385 + 9 * i : Nat) : Int) + 1), vr (am 0)]) rfl ?_
  refine M.ialdN (385 + 9 * i + 1) rfl (isM_a hM) (by omega) (by decide) ?_
  rw [show a (385 + 9 * i + 1) = gR D.2.2.1 i 1 from Rp_fr hR (k := 1) hi (by decide)]
  refine M.run 2 (pc' := 26) (lv' := [some (vr o), some (vi ((i : Nat) : Int)), some (vi ((385 + 9 * i : Nat) : Int)), some (vi (gR D.2.2.1 i 8)), some (vi (gR D.2.2.1 i 1)), none, none, none, none, none]) (st' := [vr o]) rfl ?_
  refine M.get fl_X11_7 rfl (isM_o hM) (kf := 0) (v := vr (am 0)) rfl ?_
  refine M.run 3 (pc' := 32) (lv' := [some (vr o), some (vi ((i : Nat) : Int)), some (vi ((385 + 9 * i : Nat) : Int)), some (vi (gR D.2.2.1 i 8)), some (vi (gR D.2.2.1 i 1)), none, none, none, none, none]) (st' := [vi (((385 + 9 * i : Nat) : Int) + 2), vr (am 0)]) rfl ?_
  refine M.ialdN (385 + 9 * i + 2) rfl (isM_a hM) (by omega) (by decide) ?_
  rw [show a (385 + 9 * i + 2) = gR D.2.2.1 i 2 from Rp_fr hR (k := 2) hi (by decide)]
  refine M.run 2 (pc' := 36) (lv' := [some (vr o), some (vi ((i : Nat) : Int)), some (vi ((385 + 9 * i : Nat) : Int)), some (vi (gR D.2.2.1 i 8)), some (vi (gR D.2.2.1 i 1)), some (vi (gR D.2.2.1 i 2)), none, none, none, none]) (st' := [vr o]) rfl ?_
  refine M.get fl_X11_7 rfl (isM_o hM) (kf := 0) (v := vr (am 0)) rfl ?_
  refine M.run 3 (pc' := 42) (lv' := [some (vr o), some (vi ((i : Nat) : Int)), some (vi ((385 + 9 * i : Nat) : Int)), some (vi (gR D.2.2.1 i 8)), some (vi (gR D.2.2.1 i 1)), some (vi (gR D.2.2.1 i 2)), none, none, none, none]) (st' := [vi (((385 + 9 * i : Nat) : Int) + 3), vr (am 0)]) rfl ?_
  refine M.ialdN (385 + 9 * i + 3) rfl (isM_a hM) (by omega) (by decide) ?_
  rw [show a (385 + 9 * i + 3) = gR D.2.2.1 i 3 from Rp_fr hR (k := 3) hi (by decide)]
  refine M.run 2 (pc' := 46) (lv' := [some (vr o), some (vi ((i : Nat) : Int)), some (vi ((385 + 9 * i : Nat) : Int)), some (vi (gR D.2.2.1 i 8)), some (vi (gR D.2.2.1 i 1)), some (vi (gR D.2.2.1 i 2)), some (vi (gR D.2.2.1 i 3)), none, none, none]) (st' := [vr o]) rfl ?_
  refine M.get fl_X11_7 rfl (isM_o hM) (kf := 0) (v := vr (am 0)) rfl ?_
  refine M.run 3 (pc' := 52) (lv' := [some (vr o), some (vi ((i : Nat) : Int)), some (vi ((385 + 9 * i : Nat) : Int)), some (vi (gR D.2.2.1 i 8)), some (vi (gR D.2.2.1 i 1)), some (vi (gR D.2.2.1 i 2)), some (vi (gR D.2.2.1 i 3)), none, none, none]) (st' := [vi (((385 + 9 * i : Nat) : Int) + 4), vr (am 0)]) rfl ?_
  refine M.ialdN (385 + 9 * i + 4) rfl (isM_a hM) (by omega) (by decide) ?_
  rw [show a (385 + 9 * i + 4) = gR D.2.2.1 i 4 from Rp_fr hR (k := 4) hi (by decide)]
  refine M.run 2 (pc' := 56) (lv' := [some (vr o), some (vi ((i : Nat) : Int)), some (vi ((385 + 9 * i : Nat) : Int)), some (vi (gR D.2.2.1 i 8)), some (vi (gR D.2.2.1 i 1)), some (vi (gR D.2.2.1 i 2)), some (vi (gR D.2.2.1 i 3)), some (vi (gR D.2.2.1 i 4)), none, none]) (st' := [vr o]) rfl ?_
  refine M.get fl_X11_7 rfl (isM_o hM) (kf := 0) (v := vr (am 0)) rfl ?_
  refine M.run 3 (pc' := 62) (lv' := [some (vr o), some (vi ((i : Nat) : Int)), some (vi ((385 + 9 * i : Nat) : Int)), some (vi (gR D.2.2.1 i 8)), some (vi (gR D.2.2.1 i 1)), some (vi (gR D.2.2.1 i 2)), some (vi (gR D.2.2.1 i 3)), some (vi (gR D.2.2.1 i 4)), none, none]) (st' := [vi (((385 + 9 * i : Nat) : Int) + 5), vr (am 0)]) rfl ?_
  refine M.ialdN (385 + 9 * i + 5) rfl (isM_a hM) (by omega) (by decide) ?_
  rw [show a (385 + 9 * i + 5) = gR D.2.2.1 i 5 from Rp_fr hR (k := 5) hi (by decide)]
  refine M.run 2 (pc' := 66) (lv' := [some (vr o), some (vi ((i : Nat) : Int)), some (vi ((385 + 9 * i : Nat) : Int)), some (vi (gR D.2.2.1 i 8)), some (vi (gR D.2.2.1 i 1)), some (vi (gR D.2.2.1 i 2)), some (vi (gR D.2.2.1 i 3)), some (vi (gR D.2.2.1 i 4)), some (vi (gR D.2.2.1 i 5)), none]) (st' := [vr o]) rfl ?_
  refine M.get fl_X11_7 rfl (isM_o hM) (kf := 0) (v := vr (am 0)) rfl ?_
  refine M.run 3 (pc' := 72) (lv' := [some (vr o), some (vi ((i : Nat) : Int)), some (vi ((385 + 9 * i : Nat) : Int)), some (vi (gR D.2.2.1 i 8)), some (vi (gR D.2.2.1 i 1)), some (vi (gR D.2.2.1 i 2)), some (vi (gR D.2.2.1 i 3)), some (vi (gR D.2.2.1 i 4)), some (vi (gR D.2.2.1 i 5)), none]) (st' := [vi (((385 + 9 * i : Nat) : Int) + 0), vr (am 0)]) rfl ?_
  refine M.ialdN (385 + 9 * i + 0) rfl (isM_a hM) (by omega) (by decide) ?_
  rw [show a (385 + 9 * i + 0) = gR D.2.2.1 i 0 from Rp_fr hR (k := 0) hi (by decide)]
  refine M.run 2 (pc' := 76) (lv' := [some (vr o), some (vi ((i : Nat) : Int)), some (vi ((385 + 9 * i : Nat) : Int)), some (vi (gR D.2.2.1 i 8)), some (vi (gR D.2.2.1 i 1)), some (vi (gR D.2.2.1 i 2)), some (vi (gR D.2.2.1 i 3)), some (vi (gR D.2.2.1 i 4)), some (vi (gR D.2.2.1 i 5)), some (vi (gR D.2.2.1 i 0))]) (st' := [vr o]) rfl ?_
  rw [show gR D.2.2.1 i 8 = (((gR D.2.2.1 i 8).toNat : Nat) : Int) from (Int.toNat_of_nonneg (by omega)).symm]
  rw [show gR D.2.2.1 i 1 = (((gR D.2.2.1 i 1).toNat : Nat) : Int) from (Int.toNat_of_nonneg (by omega)).symm]
  refine M.run 1 (pc' := 77) (lv' := [some (vr o), some (vi ((i : Nat) : Int)), some (vi ((385 + 9 * i : Nat) : Int)), some (vi (((gR D.2.2.1 i 8).toNat : Nat) : Int)), some (vi (((gR D.2.2.1 i 1).toNat : Nat) : Int)), some (vi (gR D.2.2.1 i 2)), some (vi (gR D.2.2.1 i 3)), some (vi (gR D.2.2.1 i 4)), some (vi (gR D.2.2.1 i 5)), some (vi (gR D.2.2.1 i 0))]) (st' := [vi ((i : Nat) : Int), vr o]) rfl ?_
  refine M.callV (eX11_takeFlight l G o am u a0 b0 D _ ht hd (by omega)  i (by omega)) cv_X11_347 cd_X11_takeFlight rfl (st := []) rfl (isM_o hM) (by decide) (by decide) rfl (Nat.zero_le _) (Nat.zero_le _) ⟨_, _, hM, hR, hF, hB⟩ (fun r6 w7 q8 => ?_)
  obtain ⟨q8r, a5, b5, hM5, hR5, hF5, hB5⟩ := q8
  rw [q8r]
  have hd5 : Dok n ((D.1, D.2.1, D.2.2.1.eraseIdx i, D.2.2.2)) := Dok_takeF hd
  have es5 : ((D.1, D.2.1, D.2.2.1.eraseIdx i, D.2.2.2)).1 = D.1 := rfl
  refine M.run 1 (pc' := 82) (lv' := [some (vr o), some (vi ((i : Nat) : Int)), some (vi ((385 + 9 * i : Nat) : Int)), some (vi (((gR D.2.2.1 i 8).toNat : Nat) : Int)), some (vi (((gR D.2.2.1 i 1).toNat : Nat) : Int)), some (vi (gR D.2.2.1 i 2)), some (vi (gR D.2.2.1 i 3)), some (vi (gR D.2.2.1 i 4)), some (vi (gR D.2.2.1 i 5)), some (vi (gR D.2.2.1 i 0))]) (st' := [vi (gR D.2.2.1 i 0)]) rfl ?_
  by_cases hs82_0 : gR D.2.2.1 i 0 = 0
  · refine M.tswIn (tgt := 112) (off := 30) rfl (qI (by omega)) (by omega) (by omega) (by rw [hs82_0]; rfl) (by decide) ?_
    refine M.run 1 (pc' := 113) (lv' := [some (vr o), some (vi ((i : Nat) : Int)), some (vi ((385 + 9 * i : Nat) : Int)), some (vi (((gR D.2.2.1 i 8).toNat : Nat) : Int)), some (vi (((gR D.2.2.1 i 1).toNat : Nat) : Int)), some (vi (gR D.2.2.1 i 2)), some (vi (gR D.2.2.1 i 3)), some (vi (gR D.2.2.1 i 4)), some (vi (gR D.2.2.1 i 5)), some (vi (gR D.2.2.1 i 0))]) (st' := [vr o]) rfl ?_
    have q55 := q5 (by omega)
    rw [show gR D.2.2.1 i 3 = (((gR D.2.2.1 i 3).toNat : Nat) : Int) from (Int.toNat_of_nonneg (by omega)).symm]
    rw [show gR D.2.2.1 i 4 = (((gR D.2.2.1 i 4).toNat : Nat) : Int) from (Int.toNat_of_nonneg (by omega)).symm]
    refine M.run 4 (pc' := 121) (lv' := [some (vr o), some (vi ((i : Nat) : Int)), some (vi ((385 + 9 * i : Nat) : Int)), some (vi (((gR D.2.2.1 i 8).toNat : Nat) : Int)), some (vi (((gR D.2.2.1 i 1).toNat : Nat) : Int)), some (vi (gR D.2.2.1 i 2)), some (vi (((gR D.2.2.1 i 3).toNat : Nat) : Int)), some (vi (((gR D.2.2.1 i 4).toNat : Nat) : Int)), some (vi (gR D.2.2.1 i 5)), some (vi (gR D.2.2.1 i 0))]) (st' := [vi (((gR D.2.2.1 i 4).toNat : Nat) : Int), vi (((gR D.2.2.1 i 3).toNat : Nat) : Int), vi (gR D.2.2.1 i 2), vi (((gR D.2.2.1 i 1).toNat : Nat) : Int), vr o]) rfl ?_
    refine M.callV (eX11_gotData l G o am u a0 b0 ((D.1, D.2.1, D.2.2.1.eraseIdx i, D.2.2.2)) _ ht hd5 (by omega)  ((gR D.2.2.1 i 1).toNat) (by omega) (gR D.2.2.1 i 2) (by omega) ((gR D.2.2.1 i 3).toNat) ((gR D.2.2.1 i 4).toNat) (by omega)) cv_X11_350 cd_X11_gotData rfl (st := []) rfl (isM_o hM5) (by decide) (by decide) rfl (Nat.zero_le _) (Nat.zero_le _) ⟨_, _, hM5, hR5, hF5, hB5⟩ (fun r11 w12 q13 => ?_)
    obtain ⟨q13r, a10, b10, hM10, hR10, hF10, hB10⟩ := q13
    rw [q13r]
    have hd10 : Dok (n + 1) (mGotData a0 ((gR D.2.2.1 i 1).toNat) (gR D.2.2.1 i 2) ((gR D.2.2.1 i 3).toNat) ((gR D.2.2.1 i 4).toNat) ((D.1, D.2.1, D.2.2.1.eraseIdx i, D.2.2.2))) := Dok_gotData ht hd5 (by omega) (by omega) (by omega)
    have es10 : (mGotData a0 ((gR D.2.2.1 i 1).toNat) (gR D.2.2.1 i 2) ((gR D.2.2.1 i 3).toNat) ((gR D.2.2.1 i 4).toNat) ((D.1, D.2.1, D.2.2.1.eraseIdx i, D.2.2.2))).1 = (mGotData a0 ((gR D.2.2.1 i 1).toNat) (gR D.2.2.1 i 2) ((gR D.2.2.1 i 3).toNat) ((gR D.2.2.1 i 4).toNat) ((D.1, D.2.1, D.2.2.1.eraseIdx i, D.2.2.2))).1 := rfl
    refine M.run 1 (pc' := 174) (lv' := [some (vr o), some (vi ((i : Nat) : Int)), some (vi ((385 + 9 * i : Nat) : Int)), some (vi (((gR D.2.2.1 i 8).toNat : Nat) : Int)), some (vi (((gR D.2.2.1 i 1).toNat : Nat) : Int)), some (vi (gR D.2.2.1 i 2)), some (vi (((gR D.2.2.1 i 3).toNat : Nat) : Int)), some (vi (((gR D.2.2.1 i 4).toNat : Nat) : Int)), some (vi (gR D.2.2.1 i 5)), some (vi (gR D.2.2.1 i 0))]) (st' := []) rfl ?_
    exact M.vret rfl (Nat.zero_le _) (Nat.zero_le _) (by
        first
        | exact ⟨rfl, by rw [mGot_0 hs82_0]; exact ⟨_, _, hM10, hR10, hF10, hB10⟩⟩
        | exact ⟨rfl, by rw [mGot_1 hs82_0 hs82_1]; exact ⟨_, _, hM10, hR10, hF10, hB10⟩⟩
        | exact ⟨rfl, by rw [mGot_2 hs82_0 hs82_1 hs82_2]; exact ⟨_, _, hM10, hR10, hF10, hB10⟩⟩
        | exact ⟨rfl, by rw [mGot_3 hs82_0 hs82_1 hs82_2 hs82_3]; exact ⟨_, _, hM10, hR10, hF10, hB10⟩⟩
        | exact ⟨rfl, by rw [mGot_4 hs82_0 hs82_1 hs82_2 hs82_3]; exact ⟨_, _, hM10, hR10, hF10, hB10⟩⟩)
  by_cases hs82_1 : gR D.2.2.1 i 0 = 1
  · refine M.tswIn (tgt := 127) (off := 45) rfl (qI (by omega)) (by omega) (by omega) (by rw [hs82_1]; rfl) (by decide) ?_
    refine M.run 1 (pc' := 128) (lv' := [some (vr o), some (vi ((i : Nat) : Int)), some (vi ((385 + 9 * i : Nat) : Int)), some (vi (((gR D.2.2.1 i 8).toNat : Nat) : Int)), some (vi (((gR D.2.2.1 i 1).toNat : Nat) : Int)), some (vi (gR D.2.2.1 i 2)), some (vi (gR D.2.2.1 i 3)), some (vi (gR D.2.2.1 i 4)), some (vi (gR D.2.2.1 i 5)), some (vi (gR D.2.2.1 i 0))]) (st' := [vr o]) rfl ?_
    rw [show gR D.2.2.1 i 5 = (((gR D.2.2.1 i 5).toNat : Nat) : Int) from (Int.toNat_of_nonneg (by omega)).symm]
    refine M.run 4 (pc' := 136) (lv' := [some (vr o), some (vi ((i : Nat) : Int)), some (vi ((385 + 9 * i : Nat) : Int)), some (vi (((gR D.2.2.1 i 8).toNat : Nat) : Int)), some (vi (((gR D.2.2.1 i 1).toNat : Nat) : Int)), some (vi (gR D.2.2.1 i 2)), some (vi (gR D.2.2.1 i 3)), some (vi (gR D.2.2.1 i 4)), some (vi (((gR D.2.2.1 i 5).toNat : Nat) : Int)), some (vi (gR D.2.2.1 i 0))]) (st' := [vi (((gR D.2.2.1 i 5).toNat : Nat) : Int), vi (gR D.2.2.1 i 4), vi (gR D.2.2.1 i 2), vi (((gR D.2.2.1 i 1).toNat : Nat) : Int), vr o]) rfl ?_
    refine M.callV (eX11_gotReport l G o am u a0 b0 ((D.1, D.2.1, D.2.2.1.eraseIdx i, D.2.2.2)) _ ht hd5 (by omega)  ((gR D.2.2.1 i 1).toNat) (by omega) (gR D.2.2.1 i 2) (by omega) (gR D.2.2.1 i 4) (by omega) ((gR D.2.2.1 i 5).toNat) (by omega)) cv_X11_353 cd_X11_gotReport rfl (st := []) rfl (isM_o hM5) (by decide) (by decide) rfl (Nat.zero_le _) (Nat.zero_le _) ⟨_, _, hM5, hR5, hF5, hB5⟩ (fun r16 w17 q18 => ?_)
    obtain ⟨q18r, a15, b15, hM15, hR15, hF15, hB15⟩ := q18
    rw [q18r]
    have hd15 : Dok (n + 1) (mGotReport a0 ((gR D.2.2.1 i 1).toNat) (gR D.2.2.1 i 2) (gR D.2.2.1 i 4) ((gR D.2.2.1 i 5).toNat) ((D.1, D.2.1, D.2.2.1.eraseIdx i, D.2.2.2))) := Dok_gotReport ht hd5 (by omega) (by omega) (by omega)
    have es15 : (mGotReport a0 ((gR D.2.2.1 i 1).toNat) (gR D.2.2.1 i 2) (gR D.2.2.1 i 4) ((gR D.2.2.1 i 5).toNat) ((D.1, D.2.1, D.2.2.1.eraseIdx i, D.2.2.2))).1 = (mGotReport a0 ((gR D.2.2.1 i 1).toNat) (gR D.2.2.1 i 2) (gR D.2.2.1 i 4) ((gR D.2.2.1 i 5).toNat) ((D.1, D.2.1, D.2.2.1.eraseIdx i, D.2.2.2))).1 := rfl
    refine M.run 1 (pc' := 174) (lv' := [some (vr o), some (vi ((i : Nat) : Int)), some (vi ((385 + 9 * i : Nat) : Int)), some (vi (((gR D.2.2.1 i 8).toNat : Nat) : Int)), some (vi (((gR D.2.2.1 i 1).toNat : Nat) : Int)), some (vi (gR D.2.2.1 i 2)), some (vi (gR D.2.2.1 i 3)), some (vi (gR D.2.2.1 i 4)), some (vi (((gR D.2.2.1 i 5).toNat : Nat) : Int)), some (vi (gR D.2.2.1 i 0))]) (st' := []) rfl ?_
    exact M.vret rfl (Nat.zero_le _) (Nat.zero_le _) (by
        first
        | exact ⟨rfl, by rw [mGot_0 hs82_0]; exact ⟨_, _, hM15, hR15, hF15, hB15⟩⟩
        | exact ⟨rfl, by rw [mGot_1 hs82_0 hs82_1]; exact ⟨_, _, hM15, hR15, hF15, hB15⟩⟩
        | exact ⟨rfl, by rw [mGot_2 hs82_0 hs82_1 hs82_2]; exact ⟨_, _, hM15, hR15, hF15, hB15⟩⟩
        | exact ⟨rfl, by rw [mGot_3 hs82_0 hs82_1 hs82_2 hs82_3]; exact ⟨_, _, hM15, hR15, hF15, hB15⟩⟩
        | exact ⟨rfl, by rw [mGot_4 hs82_0 hs82_1 hs82_2 hs82_3]; exact ⟨_, _, hM15, hR15, hF15, hB15⟩⟩)
  by_cases hs82_2 : gR D.2.2.1 i 0 = 2
  · refine M.tswIn (tgt := 142) (off := 60) rfl (qI (by omega)) (by omega) (by omega) (by rw [hs82_2]; rfl) (by decide) ?_
    refine M.run 5 (pc' := 149) (lv' := [some (vr o), some (vi ((i : Nat) : Int)), some (vi ((385 + 9 * i : Nat) : Int)), some (vi (((gR D.2.2.1 i 8).toNat : Nat) : Int)), some (vi (((gR D.2.2.1 i 1).toNat : Nat) : Int)), some (vi (gR D.2.2.1 i 2)), some (vi (gR D.2.2.1 i 3)), some (vi (gR D.2.2.1 i 4)), some (vi (gR D.2.2.1 i 5)), some (vi (gR D.2.2.1 i 0))]) (st' := [vi (gR D.2.2.1 i 2), vi 1, vi (((gR D.2.2.1 i 1).toNat : Nat) : Int), vi (((gR D.2.2.1 i 8).toNat : Nat) : Int), vr o]) rfl ?_
    refine M.callV (eX11_dropAll l G o am u a0 b0 ((D.1, D.2.1, D.2.2.1.eraseIdx i, D.2.2.2)) _ ht hd5 (by omega)  ((gR D.2.2.1 i 8).toNat) (by omega) ((gR D.2.2.1 i 1).toNat) (by omega) 1 (gR D.2.2.1 i 2) (by omega) (by omega)) cv_X11_337 cd_X11_dropAll rfl (st := []) rfl (isM_o hM5) (by decide) (by decide) rfl (Nat.zero_le _) (Nat.zero_le _) ⟨_, _, hM5, hR5, hF5, hB5⟩ (fun r21 w22 q23 => ?_)
    obtain ⟨q23r, a20, b20, hM20, hR20, hF20, hB20⟩ := q23
    rw [q23r]
    have hd20 : Dok n (mDrop ((gR D.2.2.1 i 8).toNat) (pKS ((((gR D.2.2.1 i 1).toNat) : Nat) : Int) 1 (gR D.2.2.1 i 2)) ((D.1, D.2.1, D.2.2.1.eraseIdx i, D.2.2.2))) := Dok_drop hd5
    have es20 : (mDrop ((gR D.2.2.1 i 8).toNat) (pKS ((((gR D.2.2.1 i 1).toNat) : Nat) : Int) 1 (gR D.2.2.1 i 2)) ((D.1, D.2.1, D.2.2.1.eraseIdx i, D.2.2.2))).1 = D.1 := es5
    refine M.run 1 (pc' := 174) (lv' := [some (vr o), some (vi ((i : Nat) : Int)), some (vi ((385 + 9 * i : Nat) : Int)), some (vi (((gR D.2.2.1 i 8).toNat : Nat) : Int)), some (vi (((gR D.2.2.1 i 1).toNat : Nat) : Int)), some (vi (gR D.2.2.1 i 2)), some (vi (gR D.2.2.1 i 3)), some (vi (gR D.2.2.1 i 4)), some (vi (gR D.2.2.1 i 5)), some (vi (gR D.2.2.1 i 0))]) (st' := []) rfl ?_
    exact M.vret rfl (Nat.zero_le _) (Nat.zero_le _) (by
        first
        | exact ⟨rfl, by rw [mGot_0 hs82_0]; exact ⟨_, _, hM20, hR20, hF20, hB20⟩⟩
        | exact ⟨rfl, by rw [mGot_1 hs82_0 hs82_1]; exact ⟨_, _, hM20, hR20, hF20, hB20⟩⟩
        | exact ⟨rfl, by rw [mGot_2 hs82_0 hs82_1 hs82_2]; exact ⟨_, _, hM20, hR20, hF20, hB20⟩⟩
        | exact ⟨rfl, by rw [mGot_3 hs82_0 hs82_1 hs82_2 hs82_3]; exact ⟨_, _, hM20, hR20, hF20, hB20⟩⟩
        | exact ⟨rfl, by rw [mGot_4 hs82_0 hs82_1 hs82_2 hs82_3]; exact ⟨_, _, hM20, hR20, hF20, hB20⟩⟩)
  by_cases hs82_3 : gR D.2.2.1 i 0 = 3
  · refine M.tswIn (tgt := 155) (off := 73) rfl (qI (by omega)) (by omega) (by omega) (by rw [hs82_3]; rfl) (by decide) ?_
    refine M.run 3 (pc' := 159) (lv' := [some (vr o), some (vi ((i : Nat) : Int)), some (vi ((385 + 9 * i : Nat) : Int)), some (vi (((gR D.2.2.1 i 8).toNat : Nat) : Int)), some (vi (((gR D.2.2.1 i 1).toNat : Nat) : Int)), some (vi (gR D.2.2.1 i 2)), some (vi (gR D.2.2.1 i 3)), some (vi (gR D.2.2.1 i 4)), some (vi (gR D.2.2.1 i 5)), some (vi (gR D.2.2.1 i 0))]) (st' := [vi (((gR D.2.2.1 i 1).toNat : Nat) : Int), vi (((gR D.2.2.1 i 8).toNat : Nat) : Int), vr o]) rfl ?_
    refine M.callV (eX11_gotCancelling l G o am u a0 b0 ((D.1, D.2.1, D.2.2.1.eraseIdx i, D.2.2.2)) _ ht hd5 (by omega)  ((gR D.2.2.1 i 8).toNat) (by omega) ((gR D.2.2.1 i 1).toNat) (by omega)) cv_X11_356 cd_X11_gotCancelling rfl (st := []) rfl (isM_o hM5) (by decide) (by decide) rfl (Nat.zero_le _) (Nat.zero_le _) ⟨_, _, hM5, hR5, hF5, hB5⟩ (fun r26 w27 q28 => ?_)
    obtain ⟨q28r, a25, b25, hM25, hR25, hF25, hB25⟩ := q28
    rw [q28r]
    have hd25 : Dok n (mGotCancel ((gR D.2.2.1 i 8).toNat) ((gR D.2.2.1 i 1).toNat) ((D.1, D.2.1, D.2.2.1.eraseIdx i, D.2.2.2))) := Dok_gotCancel hd5 (by omega) (by omega)
    have es25 : (mGotCancel ((gR D.2.2.1 i 8).toNat) ((gR D.2.2.1 i 1).toNat) ((D.1, D.2.1, D.2.2.1.eraseIdx i, D.2.2.2))).1 = (mGotCancel ((gR D.2.2.1 i 8).toNat) ((gR D.2.2.1 i 1).toNat) ((D.1, D.2.1, D.2.2.1.eraseIdx i, D.2.2.2))).1 := rfl
    refine M.run 1 (pc' := 174) (lv' := [some (vr o), some (vi ((i : Nat) : Int)), some (vi ((385 + 9 * i : Nat) : Int)), some (vi (((gR D.2.2.1 i 8).toNat : Nat) : Int)), some (vi (((gR D.2.2.1 i 1).toNat : Nat) : Int)), some (vi (gR D.2.2.1 i 2)), some (vi (gR D.2.2.1 i 3)), some (vi (gR D.2.2.1 i 4)), some (vi (gR D.2.2.1 i 5)), some (vi (gR D.2.2.1 i 0))]) (st' := []) rfl ?_
    exact M.vret rfl (Nat.zero_le _) (Nat.zero_le _) (by
        first
        | exact ⟨rfl, by rw [mGot_0 hs82_0]; exact ⟨_, _, hM25, hR25, hF25, hB25⟩⟩
        | exact ⟨rfl, by rw [mGot_1 hs82_0 hs82_1]; exact ⟨_, _, hM25, hR25, hF25, hB25⟩⟩
        | exact ⟨rfl, by rw [mGot_2 hs82_0 hs82_1 hs82_2]; exact ⟨_, _, hM25, hR25, hF25, hB25⟩⟩
        | exact ⟨rfl, by rw [mGot_3 hs82_0 hs82_1 hs82_2 hs82_3]; exact ⟨_, _, hM25, hR25, hF25, hB25⟩⟩
        | exact ⟨rfl, by rw [mGot_4 hs82_0 hs82_1 hs82_2 hs82_3]; exact ⟨_, _, hM25, hR25, hF25, hB25⟩⟩)
  refine M.tswOut (tgt := 165) rfl (qI (by omega)) (by omega) (by decide) ?_
  refine M.run 5 (pc' := 171) (lv' := [some (vr o), some (vi ((i : Nat) : Int)), some (vi ((385 + 9 * i : Nat) : Int)), some (vi (((gR D.2.2.1 i 8).toNat : Nat) : Int)), some (vi (((gR D.2.2.1 i 1).toNat : Nat) : Int)), some (vi (gR D.2.2.1 i 2)), some (vi (gR D.2.2.1 i 3)), some (vi (gR D.2.2.1 i 4)), some (vi (gR D.2.2.1 i 5)), some (vi (gR D.2.2.1 i 0))]) (st' := [vi 0, vi 3, vi (((gR D.2.2.1 i 1).toNat : Nat) : Int), vi (((gR D.2.2.1 i 8).toNat : Nat) : Int), vr o]) rfl ?_
  refine M.callV (eX11_dropAll l G o am u a0 b0 ((D.1, D.2.1, D.2.2.1.eraseIdx i, D.2.2.2)) _ ht hd5 (by omega)  ((gR D.2.2.1 i 8).toNat) (by omega) ((gR D.2.2.1 i 1).toNat) (by omega) 3 0 (by omega) (by omega)) cv_X11_337 cd_X11_dropAll rfl (st := []) rfl (isM_o hM5) (by decide) (by decide) rfl (Nat.zero_le _) (Nat.zero_le _) ⟨_, _, hM5, hR5, hF5, hB5⟩ (fun r31 w32 q33 => ?_)
  obtain ⟨q33r, a30, b30, hM30, hR30, hF30, hB30⟩ := q33
  rw [q33r]
  have hd30 : Dok n (mDrop ((gR D.2.2.1 i 8).toNat) (pKS ((((gR D.2.2.1 i 1).toNat) : Nat) : Int) 3 0) ((D.1, D.2.1, D.2.2.1.eraseIdx i, D.2.2.2))) := Dok_drop hd5
  have es30 : (mDrop ((gR D.2.2.1 i 8).toNat) (pKS ((((gR D.2.2.1 i 1).toNat) : Nat) : Int) 3 0) ((D.1, D.2.1, D.2.2.1.eraseIdx i, D.2.2.2))).1 = D.1 := es5
  exact M.vret rfl (Nat.zero_le _) (Nat.zero_le _) (by
      first
      | exact ⟨rfl, by rw [mGot_0 hs82_0]; exact ⟨_, _, hM30, hR30, hF30, hB30⟩⟩
      | exact ⟨rfl, by rw [mGot_1 hs82_0 hs82_1]; exact ⟨_, _, hM30, hR30, hF30, hB30⟩⟩
      | exact ⟨rfl, by rw [mGot_2 hs82_0 hs82_1 hs82_2]; exact ⟨_, _, hM30, hR30, hF30, hB30⟩⟩
      | exact ⟨rfl, by rw [mGot_3 hs82_0 hs82_1 hs82_2 hs82_3]; exact ⟨_, _, hM30, hR30, hF30, hB30⟩⟩
      | exact ⟨rfl, by rw [mGot_4 hs82_0 hs82_1 hs82_2 hs82_3]; exact ⟨_, _, hM30, hR30, hF30, hB30⟩⟩)
set_option maxHeartbeats 4000000 in
set_option maxRecDepth 100000 in
theorem eX11_fly (l : Launch) (G : GT) (o : Nat) (am : Nat → Nat) (u a0 : Nat → Int) (b0 : Nat → Nat → Int) (D : Dy) (n : Int) (ht : Tok a0) (hd : Dok n D) (hn : 0 ≤ n ∧ n ≤ 900000000) (s : Nat) (hs : s < 2 ∧ 0 < (D.2.1 s).length ∧ D.2.2.1.length < 40) (x : Nat) (hx : x = 49 + 168 * s) : Ctr l G yX11_fly cX11_fly 5 ((Option.none : Option Jvm.ClassFile.FieldType)) 2 0 0 [vr o, vi ((s : Nat) : Int), vi ((x : Nat) : Int)] (fun w => isE o am u a0 b0 D w) (fun w r w' => r = none ∧ isE o am u a0 b0 (mFly a0 s D) w') := by
  refine Ctr.of (t := tX11_fly) (lv0 := [some (vr o), some (vi ((s : Nat) : Int)), some (vi ((x : Nat) : Int)), none, none]) (by decide +kernel) tX11_fly_ok rfl rfl (fun w g hP M => ?_)
  obtain ⟨a, b, hM, hR, hF, hB⟩ := hP
  have hk_f := Dok_f hd
  have hk_t := Dok_t hd
  have hl0 := Dok_l hd (s := 0) (by omega)
  have hl1 := Dok_l hd (s := 1) (by omega)
  refine M.run 1 (pc' := 1) (lv' := [some (vr o), some (vi ((s : Nat) : Int)), some (vi ((x : Nat) : Int)), none, none]) (st' := [vr o]) rfl ?_
  refine M.get fl_X11_7 rfl (isM_o hM) (kf := 0) (v := vr (am 0)) rfl ?_
  refine M.run 1 (pc' := 6) (lv' := [some (vr o), some (vi ((s : Nat) : Int)), some (vi ((x : Nat) : Int)), none, none]) (st' := [vi 26, vr (am 0)]) rfl ?_
  refine M.ialdN (26) rfl (isM_a hM) (by decide) (by decide) ?_
  rw [show a 26 = ((D.2.2.1.length : Nat) : Int) from Rp_f hR]
  refine M.callS (kX11_flightAt l G D.2.2.1.length (by omega)) cs_X11_298 cd_X11_flightAt rfl (st := []) rfl (by decide) (by decide) rfl (Nat.zero_le _) (Nat.zero_le _) trivial (fun r1 w2 q3 => ?_)
  rw [q3.1, q3.2]
  refine M.run 3 (pc' := 14) (lv' := [some (vr o), some (vi ((s : Nat) : Int)), some (vi ((x : Nat) : Int)), some (vi ((385 + 9 * D.2.2.1.length : Nat) : Int)), some (vi 0)]) (st' := []) rfl ?_
  have Lp14 : ∀ (N : Nat) (f : Nat → Int) (ww : Wo) (k : Nat), (isM o am u f b ww) → (cpP a f (385 + 9 * D.2.2.1.length) x k) → (k ≤ 7) → 7 - k < N → g 0 0 ww 14 [some (vr o), some (vi ((s : Nat) : Int)), some (vi ((x : Nat) : Int)), some (vi ((385 + 9 * D.2.2.1.length : Nat) : Int)), some (vi ((k : Nat) : Int))] [] := by
    intro N
    induction N with
    | zero => intro f ww k _ _ _ hN; exact absurd hN (Nat.not_lt_zero _)
    | succ N ih14 =>
      intro f ww k hMf hcp hk7 hN
      refine M.run 2 (pc' := 18) (lv' := [some (vr o), some (vi ((s : Nat) : Int)), some (vi ((x : Nat) : Int)), some (vi ((385 + 9 * D.2.2.1.length : Nat) : Int)), some (vi ((k : Nat) : Int))]) (st' := [vi 7, vi ((k : Nat) : Int)]) rfl ?_
      refine M.icmp_ge (tgt := 45) rfl (qI (by omega)) (qI (by decide)) (by decide) (fun h18 => ?_) (fun h18 => ?_)
      · skip
        refine M.run 1 (pc' := 46) (lv' := [some (vr o), some (vi ((s : Nat) : Int)), some (vi ((x : Nat) : Int)), some (vi ((385 + 9 * D.2.2.1.length : Nat) : Int)), some (vi ((k : Nat) : Int))]) (st' := [vr o]) rfl ?_
        refine M.get fl_X11_7 rfl (isM_o hMf) (kf := 0) (v := vr (am 0)) rfl ?_
        refine M.run 4 (pc' := 54) (lv' := [some (vr o), some (vi ((s : Nat) : Int)), some (vi ((x : Nat) : Int)), some (vi ((385 + 9 * D.2.2.1.length : Nat) : Int)), some (vi ((k : Nat) : Int))]) (st' := [vr o, vi (((385 + 9 * D.2.2.1.length : Nat) : Int) + 7), vr (am 0)]) rfl ?_
        refine M.get fl_X11_7 rfl (isM_o hMf) (kf := 0) (v := vr (am 0)) rfl ?_
        refine M.run 1 (pc' := 59) (lv' := [some (vr o), some (vi ((s : Nat) : Int)), some (vi ((x : Nat) : Int)), some (vi ((385 + 9 * D.2.2.1.length : Nat) : Int)), some (vi ((k : Nat) : Int))]) (st' := [vi 18, vr (am 0), vi (((385 + 9 * D.2.2.1.length : Nat) : Int) + 7), vr (am 0)]) rfl ?_
        refine M.ialdN (18) rfl (isM_a hMf) (by decide) (by decide) ?_
        rw [show f 18 = D.1 18 from (show _ from by rw [hcp 18, if_neg (by omega)]; exact Rp_s hR (k := 18) (by decide) (by decide) (by decide))]
        refine M.run 1 (pc' := 61) (lv' := [some (vr o), some (vi ((s : Nat) : Int)), some (vi ((x : Nat) : Int)), some (vi ((385 + 9 * D.2.2.1.length : Nat) : Int)), some (vi ((k : Nat) : Int))]) (st' := [vr o, vi (D.1 18), vi (((385 + 9 * D.2.2.1.length : Nat) : Int) + 7), vr (am 0)]) rfl ?_
        refine M.get fl_X11_7 rfl (isM_o hMf) (kf := 0) (v := vr (am 0)) rfl ?_
        refine M.run 1 (pc' := 66) (lv' := [some (vr o), some (vi ((s : Nat) : Int)), some (vi ((x : Nat) : Int)), some (vi ((385 + 9 * D.2.2.1.length : Nat) : Int)), some (vi ((k : Nat) : Int))]) (st' := [vi 6, vr (am 0), vi (D.1 18), vi (((385 + 9 * D.2.2.1.length : Nat) : Int) + 7), vr (am 0)]) rfl ?_
        refine M.ialdN (6) rfl (isM_a hMf) (by decide) (by decide) ?_
        rw [show f 6 = a0 6 from (show _ from by rw [hcp 6, if_neg (by omega)]; exact hF 6 (Or.inl (by decide)))]
        refine M.run 1 (pc' := 68) (lv' := [some (vr o), some (vi ((s : Nat) : Int)), some (vi ((x : Nat) : Int)), some (vi ((385 + 9 * D.2.2.1.length : Nat) : Int)), some (vi ((k : Nat) : Int))]) (st' := [vi ((D.1 18) + (a0 6)), vi (((385 + 9 * D.2.2.1.length : Nat) : Int) + 7), vr (am 0)]) rfl ?_
        refine M.iastN (385 + 9 * D.2.2.1.length + 7) rfl (isM_a hMf) (by omega) (by decide) ?_
        have hM6 := isM_setA hMf (uN f (385 + 9 * D.2.2.1.length + 7) ((D.1 18) + (a0 6)))
        generalize up ww (am 0) (Ar 0 30042 (uN f (385 + 9 * D.2.2.1.length + 7) ((D.1 18) + (a0 6)))) = w5 at hM6 ⊢
        refine M.run 1 (pc' := 70) (lv' := [some (vr o), some (vi ((s : Nat) : Int)), some (vi ((x : Nat) : Int)), some (vi ((385 + 9 * D.2.2.1.length : Nat) : Int)), some (vi ((k : Nat) : Int))]) (st' := [vr o]) rfl ?_
        refine M.get fl_X11_7 rfl (isM_o hM6) (kf := 0) (v := vr (am 0)) rfl ?_
        refine M.run 6 (pc' := 80) (lv' := [some (vr o), some (vi ((s : Nat) : Int)), some (vi ((x : Nat) : Int)), some (vi ((385 + 9 * D.2.2.1.length : Nat) : Int)), some (vi ((k : Nat) : Int))]) (st' := [vi (1 - ((s : Nat) : Int)), vi (((385 + 9 * D.2.2.1.length : Nat) : Int) + 8), vr (am 0)]) rfl ?_
        refine M.iastN (385 + 9 * D.2.2.1.length + 8) rfl (isM_a hM6) (by omega) (by decide) ?_
        have hM8 := isM_setA hM6 (uN (uN f (385 + 9 * D.2.2.1.length + 7) ((D.1 18) + (a0 6))) (385 + 9 * D.2.2.1.length + 8) (1 - ((s : Nat) : Int)))
        generalize up w5 (am 0) (Ar 0 30042 (uN (uN f (385 + 9 * D.2.2.1.length + 7) ((D.1 18) + (a0 6))) (385 + 9 * D.2.2.1.length + 8) (1 - ((s : Nat) : Int)))) = w7 at hM8 ⊢
        refine M.run 1 (pc' := 82) (lv' := [some (vr o), some (vi ((s : Nat) : Int)), some (vi ((x : Nat) : Int)), some (vi ((385 + 9 * D.2.2.1.length : Nat) : Int)), some (vi ((k : Nat) : Int))]) (st' := [vr o]) rfl ?_
        refine M.get fl_X11_7 rfl (isM_o hM8) (kf := 0) (v := vr (am 0)) rfl ?_
        refine M.run 2 (pc' := 88) (lv' := [some (vr o), some (vi ((s : Nat) : Int)), some (vi ((x : Nat) : Int)), some (vi ((385 + 9 * D.2.2.1.length : Nat) : Int)), some (vi ((k : Nat) : Int))]) (st' := [vi 26, vr (am 0), vi 26, vr (am 0)]) rfl ?_
        refine M.ialdN (26) rfl (isM_a hM8) (by decide) (by decide) ?_
        rw [show (uN (uN f (385 + 9 * D.2.2.1.length + 7) ((D.1 18) + (a0 6))) (385 + 9 * D.2.2.1.length + 8) (1 - ((s : Nat) : Int))) 26 = ((D.2.2.1.length : Nat) : Int) from ((uN_o (by omega)).trans (uN_o (by omega))).trans ((show _ from by rw [hcp 26, if_neg (by omega)]; exact Rp_f hR))]
        refine M.run 2 (pc' := 91) (lv' := [some (vr o), some (vi ((s : Nat) : Int)), some (vi ((x : Nat) : Int)), some (vi ((385 + 9 * D.2.2.1.length : Nat) : Int)), some (vi ((k : Nat) : Int))]) (st' := [vi (((D.2.2.1.length : Nat) : Int) + 1), vi 26, vr (am 0)]) rfl ?_
        refine M.iastN (26) rfl (isM_a hM8) (by decide) (by decide) ?_
        have hM10 := isM_setA hM8 (uN (uN (uN f (385 + 9 * D.2.2.1.length + 7) ((D.1 18) + (a0 6))) (385 + 9 * D.2.2.1.length + 8) (1 - ((s : Nat) : Int))) 26 (((D.2.2.1.length : Nat) : Int) + 1))
        generalize up w7 (am 0) (Ar 0 30042 (uN (uN (uN f (385 + 9 * D.2.2.1.length + 7) ((D.1 18) + (a0 6))) (385 + 9 * D.2.2.1.length + 8) (1 - ((s : Nat) : Int))) 26 (((D.2.2.1.length : Nat) : Int) + 1))) = w9 at hM10 ⊢
        exact M.vret rfl (Nat.zero_le _) (Nat.zero_le _) (by
            have hk : k = 7 := by omega
            subst hk
            refine ⟨rfl, _, b, hM10, ?_, fun q hq => ?_, hB⟩
            · refine Rp_uf hR (fun s hs => Dok_l hd hs) (x := D.2.2.1 ++ [rwF (gR (D.2.1 s) 0) (D.1 18 + a0 6) (1 - (s : Int))]) (fun j j1 j2 => ?_) ?_ (fun i c hi hc => ?_)
              · rw [uN_o (by omega), uN_o (by omega), uN_o (by omega), hcp j, if_neg (by omega)]
              · rw [uN_s, List.length_append]; rfl
              · rw [List.length_append] at hi
                have hi2 : i < D.2.2.1.length + 1 := hi
                by_cases e : i < D.2.2.1.length
                · rw [gR_app e, uN_o (by omega), uN_o (by omega), uN_o (by omega), hcp, if_neg (by omega)]
                  exact Rp_fr hR e hc
                · have e2 : i = D.2.2.1.length := by omega
                  subst e2
                  rw [gR_last, uN_o (by omega)]
                  by_cases c8 : c = 8
                  · subst c8
                    rw [uN_s]; rfl
                  · rw [uN_o (by omega)]
                    by_cases c7 : c = 7
                    · subst c7
                      rw [uN_s]; rfl
                    · rw [uN_o (by omega), hcp, if_pos (by omega)]
                      have q := Rp_lr hR hs.1 (i := 0) (k := c) hs.2.1 (by omega)
                      unfold rwF
                      rw [if_pos (by omega), ← q]
                      congr 1; omega
            · rw [uN_o (by omega), uN_o (by omega), uN_o (by omega), hcp q, if_neg (by omega)]; exact hF q hq)
      · skip
        refine M.run 1 (pc' := 22) (lv' := [some (vr o), some (vi ((s : Nat) : Int)), some (vi ((x : Nat) : Int)), some (vi ((385 + 9 * D.2.2.1.length : Nat) : Int)), some (vi ((k : Nat) : Int))]) (st' := [vr o]) rfl ?_
        refine M.get fl_X11_7 rfl (isM_o hMf) (kf := 0) (v := vr (am 0)) rfl ?_
        refine M.run 4 (pc' := 30) (lv' := [some (vr o), some (vi ((s : Nat) : Int)), some (vi ((x : Nat) : Int)), some (vi ((385 + 9 * D.2.2.1.length : Nat) : Int)), some (vi ((k : Nat) : Int))]) (st' := [vr o, vi (((385 + 9 * D.2.2.1.length : Nat) : Int) + ((k : Nat) : Int)), vr (am 0)]) rfl ?_
        refine M.get fl_X11_7 rfl (isM_o hMf) (kf := 0) (v := vr (am 0)) rfl ?_
        refine M.run 3 (pc' := 37) (lv' := [some (vr o), some (vi ((s : Nat) : Int)), some (vi ((x : Nat) : Int)), some (vi ((385 + 9 * D.2.2.1.length : Nat) : Int)), some (vi ((k : Nat) : Int))]) (st' := [vi (((x : Nat) : Int) + ((k : Nat) : Int)), vr (am 0), vi (((385 + 9 * D.2.2.1.length : Nat) : Int) + ((k : Nat) : Int)), vr (am 0)]) rfl ?_
        refine M.ialdN (x + k) rfl (isM_a hMf) (by omega) (by decide) ?_
        refine M.iastN (385 + 9 * D.2.2.1.length + k) rfl (isM_a hMf) (by omega) (by decide) ?_
        have hM12 := isM_setA hMf (uN f (385 + 9 * D.2.2.1.length + k) (f (x + k)))
        generalize up ww (am 0) (Ar 0 30042 (uN f (385 + 9 * D.2.2.1.length + k) (f (x + k)))) = w11 at hM12 ⊢
        refine M.run 2 (pc' := 14) (lv' := [some (vr o), some (vi ((s : Nat) : Int)), some (vi ((x : Nat) : Int)), some (vi ((385 + 9 * D.2.2.1.length : Nat) : Int)), some (vi (((k : Nat) : Int) + 1))]) (st' := []) rfl ?_
        exact ih14 ((uN f (385 + 9 * D.2.2.1.length + k) (f (x + k)))) w11 (k + 1) hM12 (cpP_s hcp (by omega)) (by omega) (by omega)
  exact Lp14 _ a w 0 hM (cpP_0 _ _ _) (by omega) (Nat.lt_succ_self _)
set_option maxHeartbeats 4000000 in
set_option maxRecDepth 100000 in
theorem eX11_ringing (l : Launch) (G : GT) (o : Nat) (am : Nat → Nat) (u a0 : Nat → Int) (b0 : Nat → Nat → Int) (D : Dy) (n : Int) (ht : Tok a0) (hd : Dok n D) (hn : 0 ≤ n ∧ n ≤ 900000000) (sun : Int) (hsun : D.1 20 = sun) : Ctr l G yX11_ringing cX11_ringing 2 ((Option.some Jvm.ClassFile.FieldType.int)) 2 0 0 [vr o] (fun w => isE o am u a0 b0 D w) (fun w r w' => r = some (vi (if mDue sun D.2.2.2.1 < D.2.2.2.1.length then ((mDue sun D.2.2.2.1 : Nat) : Int) else -1)) ∧ w' = w) := by
  refine Ctr.of (t := tX11_ringing) (lv0 := [some (vr o), none]) (by decide +kernel) tX11_ringing_ok rfl rfl (fun w g hP M => ?_)
  obtain ⟨a, b, hM, hR, hF, hB⟩ := hP
  have hk20 := Dok_sun hd
  have hk_t := Dok_t hd
  refine M.run 2 (pc' := 2) (lv' := [some (vr o), some (vi 0)]) (st' := []) rfl ?_
  have Lp2 : ∀ (N : Nat) (i : Nat), (mDue sun D.2.2.2.1 = i + mDue sun (D.2.2.2.1.drop i)) → (i ≤ D.2.2.2.1.length) → D.2.2.2.1.length - i < N → g 0 0 w 2 [some (vr o), some (vi ((i : Nat) : Int))] [] := by
    intro N
    induction N with
    | zero => intro i _ _ hN; exact absurd hN (Nat.not_lt_zero _)
    | succ N ih2 =>
      intro i hI hil hN
      refine M.run 2 (pc' := 4) (lv' := [some (vr o), some (vi ((i : Nat) : Int))]) (st' := [vr o, vi ((i : Nat) : Int)]) rfl ?_
      refine M.get fl_X11_7 rfl (isM_o hM) (kf := 0) (v := vr (am 0)) rfl ?_
      refine M.run 1 (pc' := 9) (lv' := [some (vr o), some (vi ((i : Nat) : Int))]) (st' := [vi 27, vr (am 0), vi ((i : Nat) : Int)]) rfl ?_
      refine M.ialdN (27) rfl (isM_a hM) (by decide) (by decide) ?_
      rw [show a 27 = ((D.2.2.2.1.length : Nat) : Int) from Rp_t hR]
      refine M.icmp_ge (tgt := 42) rfl (qI (by omega)) (qI (by omega)) (by decide) (fun h10 => ?_) (fun h10 => ?_)
      · skip
        refine M.run 1 (pc' := 43) (lv' := [some (vr o), some (vi ((i : Nat) : Int))]) (st' := [vi (-1)]) rfl ?_
        exact M.iret rfl (Nat.zero_le _) (Nat.zero_le _) ⟨by rw [List.drop_eq_nil_of_le (by omega)] at hI; have : mDue sun [] = 0 := rfl; rw [if_neg (by omega)], rfl⟩
      · skip
        refine M.run 1 (pc' := 14) (lv' := [some (vr o), some (vi ((i : Nat) : Int))]) (st' := [vr o]) rfl ?_
        refine M.get fl_X11_7 rfl (isM_o hM) (kf := 0) (v := vr (am 0)) rfl ?_
        obtain ⟨q0, q1, q2, q3, q4, q5, q6, q7, q8, q9⟩ := Dok_tr hd (i := i) (by omega)
        have hI2 : mDue sun (D.2.2.2.1.drop i) = if gR D.2.2.2.1 i 7 ≤ sun then 0 else mDue sun (D.2.2.2.1.drop (i + 1)) + 1 := by rw [gR_drop (show i < D.2.2.2.1.length by omega)]; rfl
        refine M.run 1 (pc' := 18) (lv' := [some (vr o), some (vi ((i : Nat) : Int))]) (st' := [vi ((i : Nat) : Int), vr (am 0)]) rfl ?_
        refine M.callS (kX11_timerAt l G i (by omega)) cs_X11_295 cd_X11_timerAt rfl (st := [vr (am 0)]) rfl (by decide) (by decide) rfl (Nat.zero_le _) (Nat.zero_le _) trivial (fun r1 w2 q3 => ?_)
        rw [q3.1, q3.2]
        refine M.run 2 (pc' := 23) (lv' := [some (vr o), some (vi ((i : Nat) : Int))]) (st' := [vi (((817 + 9 * i : Nat) : Int) + 4), vr (am 0)]) rfl ?_
        refine M.ialdN (817 + 9 * i + 4) rfl (isM_a hM) (by omega) (by decide) ?_
        rw [show a (817 + 9 * i + 4) = gR D.2.2.2.1 i 7 from Rp_tr hR (k := 7) (by omega) (by decide)]
        refine M.run 1 (pc' := 25) (lv' := [some (vr o), some (vi ((i : Nat) : Int))]) (st' := [vr o, vi (gR D.2.2.2.1 i 7)]) rfl ?_
        refine M.get fl_X11_7 rfl (isM_o hM) (kf := 0) (v := vr (am 0)) rfl ?_
        refine M.run 1 (pc' := 30) (lv' := [some (vr o), some (vi ((i : Nat) : Int))]) (st' := [vi 20, vr (am 0), vi (gR D.2.2.2.1 i 7)]) rfl ?_
        refine M.ialdN (20) rfl (isM_a hM) (by decide) (by decide) ?_
        rw [show a 20 = sun from (Rp_s hR (k := 20) (by decide) (by decide) (by decide)).trans hsun]
        refine M.icmp_gt (tgt := 36) rfl (qI (by omega)) (qI (by omega)) (by decide) (fun h31 => ?_) (fun h31 => ?_)
        · skip
          refine M.run 2 (pc' := 2) (lv' := [some (vr o), some (vi (((i : Nat) : Int) + 1))]) (st' := []) rfl ?_
          exact ih2 (i + 1) (by rw [if_neg (by omega)] at hI2; omega) (by omega) (by omega)
        · skip
          refine M.run 1 (pc' := 35) (lv' := [some (vr o), some (vi ((i : Nat) : Int))]) (st' := [vi ((i : Nat) : Int)]) rfl ?_
          exact M.iret rfl (Nat.zero_le _) (Nat.zero_le _) ⟨by rw [if_pos (by omega)] at hI2; rw [if_pos (by omega)]; congr 3; omega, rfl⟩
  exact Lp2 _ 0 (Nat.zero_add _).symm (by omega) (Nat.lt_succ_self _)
set_option maxHeartbeats 4000000 in
set_option maxRecDepth 100000 in
theorem eX11_ring (l : Launch) (G : GT) (o : Nat) (am : Nat → Nat) (u a0 : Nat → Int) (b0 : Nat → Nat → Int) (D : Dy) (n : Int) (ht : Tok a0) (hd : Dok n D) (hn : 0 ≤ n ∧ n ≤ 900000000) (i : Nat) (hi : i < D.2.2.2.1.length) : Ctr l G yX11_ring cX11_ring 11 ((Option.none : Option Jvm.ClassFile.FieldType)) 5 0 0 [vr o, vi ((i : Nat) : Int)] (fun w => isE o am u a0 b0 D w) (fun w r w' => r = none ∧ isE o am u a0 b0 (mRingOne a0 i D) w') := by
  refine Ctr.of (t := tX11_ring) (lv0 := [some (vr o), some (vi ((i : Nat) : Int)), none, none, none, none, none, none, none, none, none]) (by decide +kernel) tX11_ring_ok rfl rfl (fun w g hP M => ?_)
  obtain ⟨a, b, hM, hR, hF, hB⟩ := hP
  have hk_t := Dok_t hd
  have hk18 := Dok_clk hd
  have hk8 : 0 ≤ a0 8 ∧ a0 8 ≤ 9 := ht.1 8 (by decide)
  obtain ⟨q0, q1, q2, q3, q4, q5, q6, q7, q8, q9⟩ := Dok_tr hd hi
  refine M.run 1 (pc' := 1) (lv' := [some (vr o), some (vi ((i : Nat) : Int)), none, none, none, none, none, none, none, none, none]) (st' := [vi ((i : Nat) : Int)]) rfl ?_
  refine M.callS (kX11_timerAt l G i (by omega)) cs_X11_295 cd_X11_timerAt rfl (st := []) rfl (by decide) (by decide) rfl (Nat.zero_le _) (Nat.zero_le _) trivial (fun r1 w2 q3 => ?_)
  rw [q3.1, q3.2]
  refine M.run 2 (pc' := 6) (lv' := [some (vr o), some (vi ((i : Nat) : Int)), some (vi ((817 + 9 * i : Nat) : Int)), none, none, none, none, none, none, none, none]) (st' := [vr o]) rfl ?_
  refine M.get fl_X11_7 rfl (isM_o hM) (kf := 0) (v := vr (am 0)) rfl ?_
  refine M.run 3 (pc' := 12) (lv' := [some (vr o), some (vi ((i : Nat) : Int)), some (vi ((817 + 9 * i : Nat) : Int)), none, none, none, none, none, none, none, none]) (st' := [vi (((817 + 9 * i : Nat) : Int) + 0), vr (am 0)]) rfl ?_
  refine M.ialdN (817 + 9 * i + 0) rfl (isM_a hM) (by omega) (by decide) ?_
  rw [show a (817 + 9 * i + 0) = gR D.2.2.2.1 i 8 from Rp_tr hR (k := 8) hi (by decide)]
  refine M.run 2 (pc' := 15) (lv' := [some (vr o), some (vi ((i : Nat) : Int)), some (vi ((817 + 9 * i : Nat) : Int)), some (vi (gR D.2.2.2.1 i 8)), none, none, none, none, none, none, none]) (st' := [vr o]) rfl ?_
  refine M.get fl_X11_7 rfl (isM_o hM) (kf := 0) (v := vr (am 0)) rfl ?_
  refine M.run 3 (pc' := 21) (lv' := [some (vr o), some (vi ((i : Nat) : Int)), some (vi ((817 + 9 * i : Nat) : Int)), some (vi (gR D.2.2.2.1 i 8)), none, none, none, none, none, none, none]) (st' := [vi (((817 + 9 * i : Nat) : Int) + 1), vr (am 0)]) rfl ?_
  refine M.ialdN (817 + 9 * i + 1) rfl (isM_a hM) (by omega) (by decide) ?_
  rw [show a (817 + 9 * i + 1) = gR D.2.2.2.1 i 0 from Rp_tr hR (k := 0) hi (by decide)]
  refine M.run 2 (pc' := 25) (lv' := [some (vr o), some (vi ((i : Nat) : Int)), some (vi ((817 + 9 * i : Nat) : Int)), some (vi (gR D.2.2.2.1 i 8)), some (vi (gR D.2.2.2.1 i 0)), none, none, none, none, none, none]) (st' := [vr o]) rfl ?_
  refine M.get fl_X11_7 rfl (isM_o hM) (kf := 0) (v := vr (am 0)) rfl ?_
  refine M.run 3 (pc' := 31) (lv' := [some (vr o), some (vi ((i : Nat) : Int)), some (vi ((817 + 9 * i : Nat) : Int)), some (vi (gR D.2.2.2.1 i 8)), some (vi (gR D.2.2.2.1 i 0)), none, none, none, none, none, none]) (st' := [vi (((817 + 9 * i : Nat) : Int) + 2), vr (am 0)]) rfl ?_
  refine M.ialdN (817 + 9 * i + 2) rfl (isM_a hM) (by omega) (by decide) ?_
  rw [show a (817 + 9 * i + 2) = gR D.2.2.2.1 i 1 from Rp_tr hR (k := 1) hi (by decide)]
  refine M.run 2 (pc' := 35) (lv' := [some (vr o), some (vi ((i : Nat) : Int)), some (vi ((817 + 9 * i : Nat) : Int)), some (vi (gR D.2.2.2.1 i 8)), some (vi (gR D.2.2.2.1 i 0)), some (vi (gR D.2.2.2.1 i 1)), none, none, none, none, none]) (st' := [vr o]) rfl ?_
  refine M.get fl_X11_7 rfl (isM_o hM) (kf := 0) (v := vr (am 0)) rfl ?_
  refine M.run 3 (pc' := 41) (lv' := [some (vr o), some (vi ((i : Nat) : Int)), some (vi ((817 + 9 * i : Nat) : Int)), some (vi (gR D.2.2.2.1 i 8)), some (vi (gR D.2.2.2.1 i 0)), some (vi (gR D.2.2.2.1 i 1)), none, none, none, none, none]) (st' := [vi (((817 + 9 * i : Nat) : Int) + 3), vr (am 0)]) rfl ?_
  refine M.ialdN (817 + 9 * i + 3) rfl (isM_a hM) (by omega) (by decide) ?_
  rw [show a (817 + 9 * i + 3) = gR D.2.2.2.1 i 2 from Rp_tr hR (k := 2) hi (by decide)]
  refine M.run 2 (pc' := 45) (lv' := [some (vr o), some (vi ((i : Nat) : Int)), some (vi ((817 + 9 * i : Nat) : Int)), some (vi (gR D.2.2.2.1 i 8)), some (vi (gR D.2.2.2.1 i 0)), some (vi (gR D.2.2.2.1 i 1)), some (vi (gR D.2.2.2.1 i 2)), none, none, none, none]) (st' := [vr o]) rfl ?_
  refine M.get fl_X11_7 rfl (isM_o hM) (kf := 0) (v := vr (am 0)) rfl ?_
  refine M.run 3 (pc' := 51) (lv' := [some (vr o), some (vi ((i : Nat) : Int)), some (vi ((817 + 9 * i : Nat) : Int)), some (vi (gR D.2.2.2.1 i 8)), some (vi (gR D.2.2.2.1 i 0)), some (vi (gR D.2.2.2.1 i 1)), some (vi (gR D.2.2.2.1 i 2)), none, none, none, none]) (st' := [vi (((817 + 9 * i : Nat) : Int) + 5), vr (am 0)]) rfl ?_
  refine M.ialdN (817 + 9 * i + 5) rfl (isM_a hM) (by omega) (by decide) ?_
  rw [show a (817 + 9 * i + 5) = gR D.2.2.2.1 i 6 from Rp_tr hR (k := 6) hi (by decide)]
  refine M.run 2 (pc' := 55) (lv' := [some (vr o), some (vi ((i : Nat) : Int)), some (vi ((817 + 9 * i : Nat) : Int)), some (vi (gR D.2.2.2.1 i 8)), some (vi (gR D.2.2.2.1 i 0)), some (vi (gR D.2.2.2.1 i 1)), some (vi (gR D.2.2.2.1 i 2)), some (vi (gR D.2.2.2.1 i 6)), none, none, none]) (st' := [vr o]) rfl ?_
  refine M.get fl_X11_7 rfl (isM_o hM) (kf := 0) (v := vr (am 0)) rfl ?_
  refine M.run 3 (pc' := 62) (lv' := [some (vr o), some (vi ((i : Nat) : Int)), some (vi ((817 + 9 * i : Nat) : Int)), some (vi (gR D.2.2.2.1 i 8)), some (vi (gR D.2.2.2.1 i 0)), some (vi (gR D.2.2.2.1 i 1)), some (vi (gR D.2.2.2.1 i 2)), some (vi (gR D.2.2.2.1 i 6)), none, none, none]) (st' := [vi (((817 + 9 * i : Nat) : Int) + 6), vr (am 0)]) rfl ?_
  refine M.ialdN (817 + 9 * i + 6) rfl (isM_a hM) (by omega) (by decide) ?_
  rw [show a (817 + 9 * i + 6) = gR D.2.2.2.1 i 3 from Rp_tr hR (k := 3) hi (by decide)]
  refine M.run 2 (pc' := 66) (lv' := [some (vr o), some (vi ((i : Nat) : Int)), some (vi ((817 + 9 * i : Nat) : Int)), some (vi (gR D.2.2.2.1 i 8)), some (vi (gR D.2.2.2.1 i 0)), some (vi (gR D.2.2.2.1 i 1)), some (vi (gR D.2.2.2.1 i 2)), some (vi (gR D.2.2.2.1 i 6)), some (vi (gR D.2.2.2.1 i 3)), none, none]) (st' := [vr o]) rfl ?_
  refine M.get fl_X11_7 rfl (isM_o hM) (kf := 0) (v := vr (am 0)) rfl ?_
  refine M.run 3 (pc' := 73) (lv' := [some (vr o), some (vi ((i : Nat) : Int)), some (vi ((817 + 9 * i : Nat) : Int)), some (vi (gR D.2.2.2.1 i 8)), some (vi (gR D.2.2.2.1 i 0)), some (vi (gR D.2.2.2.1 i 1)), some (vi (gR D.2.2.2.1 i 2)), some (vi (gR D.2.2.2.1 i 6)), some (vi (gR D.2.2.2.1 i 3)), none, none]) (st' := [vi (((817 + 9 * i : Nat) : Int) + 7), vr (am 0)]) rfl ?_
  refine M.ialdN (817 + 9 * i + 7) rfl (isM_a hM) (by omega) (by decide) ?_
  rw [show a (817 + 9 * i + 7) = gR D.2.2.2.1 i 4 from Rp_tr hR (k := 4) hi (by decide)]
  refine M.run 2 (pc' := 77) (lv' := [some (vr o), some (vi ((i : Nat) : Int)), some (vi ((817 + 9 * i : Nat) : Int)), some (vi (gR D.2.2.2.1 i 8)), some (vi (gR D.2.2.2.1 i 0)), some (vi (gR D.2.2.2.1 i 1)), some (vi (gR D.2.2.2.1 i 2)), some (vi (gR D.2.2.2.1 i 6)), some (vi (gR D.2.2.2.1 i 3)), some (vi (gR D.2.2.2.1 i 4)), none]) (st' := [vr o]) rfl ?_
  refine M.get fl_X11_7 rfl (isM_o hM) (kf := 0) (v := vr (am 0)) rfl ?_
  refine M.run 3 (pc' := 84) (lv' := [some (vr o), some (vi ((i : Nat) : Int)), some (vi ((817 + 9 * i : Nat) : Int)), some (vi (gR D.2.2.2.1 i 8)), some (vi (gR D.2.2.2.1 i 0)), some (vi (gR D.2.2.2.1 i 1)), some (vi (gR D.2.2.2.1 i 2)), some (vi (gR D.2.2.2.1 i 6)), some (vi (gR D.2.2.2.1 i 3)), some (vi (gR D.2.2.2.1 i 4)), none]) (st' := [vi (((817 + 9 * i : Nat) : Int) + 8), vr (am 0)]) rfl ?_
  refine M.ialdN (817 + 9 * i + 8) rfl (isM_a hM) (by omega) (by decide) ?_
  rw [show a (817 + 9 * i + 8) = gR D.2.2.2.1 i 5 from Rp_tr hR (k := 5) hi (by decide)]
  refine M.run 2 (pc' := 88) (lv' := [some (vr o), some (vi ((i : Nat) : Int)), some (vi ((817 + 9 * i : Nat) : Int)), some (vi (gR D.2.2.2.1 i 8)), some (vi (gR D.2.2.2.1 i 0)), some (vi (gR D.2.2.2.1 i 1)), some (vi (gR D.2.2.2.1 i 2)), some (vi (gR D.2.2.2.1 i 6)), some (vi (gR D.2.2.2.1 i 3)), some (vi (gR D.2.2.2.1 i 4)), some (vi (gR D.2.2.2.1 i 5))]) (st' := [vr o]) rfl ?_
  rw [show gR D.2.2.2.1 i 8 = (((gR D.2.2.2.1 i 8).toNat : Nat) : Int) from (Int.toNat_of_nonneg (by omega)).symm]
  refine M.run 1 (pc' := 89) (lv' := [some (vr o), some (vi ((i : Nat) : Int)), some (vi ((817 + 9 * i : Nat) : Int)), some (vi (((gR D.2.2.2.1 i 8).toNat : Nat) : Int)), some (vi (gR D.2.2.2.1 i 0)), some (vi (gR D.2.2.2.1 i 1)), some (vi (gR D.2.2.2.1 i 2)), some (vi (gR D.2.2.2.1 i 6)), some (vi (gR D.2.2.2.1 i 3)), some (vi (gR D.2.2.2.1 i 4)), some (vi (gR D.2.2.2.1 i 5))]) (st' := [vi ((i : Nat) : Int), vr o]) rfl ?_
  refine M.callV (eX11_takeTimer l G o am u a0 b0 D _ ht hd (by omega)  i (by omega)) cv_X11_304 cd_X11_takeTimer rfl (st := []) rfl (isM_o hM) (by decide) (by decide) rfl (Nat.zero_le _) (Nat.zero_le _) ⟨_, _, hM, hR, hF, hB⟩ (fun r6 w7 q8 => ?_)
  obtain ⟨q8r, a5, b5, hM5, hR5, hF5, hB5⟩ := q8
  rw [q8r]
  have hd5 : Dok n ((D.1, D.2.1, D.2.2.1, D.2.2.2.1.eraseIdx i, D.2.2.2.2)) := Dok_takeT hd
  have es5 : ((D.1, D.2.1, D.2.2.1, D.2.2.2.1.eraseIdx i, D.2.2.2.2)).1 = D.1 := rfl
  refine M.run 4 (pc' := 98) (lv' := [some (vr o), some (vi ((i : Nat) : Int)), some (vi ((817 + 9 * i : Nat) : Int)), some (vi (((gR D.2.2.2.1 i 8).toNat : Nat) : Int)), some (vi (gR D.2.2.2.1 i 0)), some (vi (gR D.2.2.2.1 i 1)), some (vi (gR D.2.2.2.1 i 2)), some (vi (gR D.2.2.2.1 i 6)), some (vi (gR D.2.2.2.1 i 3)), some (vi (gR D.2.2.2.1 i 4)), some (vi (gR D.2.2.2.1 i 5))]) (st' := [vi (gR D.2.2.2.1 i 0), vi (gR D.2.2.2.1 i 1), vi 5, vr o]) rfl ?_
  refine M.callV (eX11_writeDown l G o am u a0 b0 ((D.1, D.2.1, D.2.2.1, D.2.2.2.1.eraseIdx i, D.2.2.2.2)) _ ht hd5 (by omega)  (D.1 18) (congrFun es5 _) 5 (gR D.2.2.2.1 i 1) (gR D.2.2.2.1 i 0) (by omega)) cv_X11_321 cd_X11_writeDown rfl (st := []) rfl (isM_o hM5) (by decide) (by decide) rfl (Nat.zero_le _) (Nat.zero_le _) ⟨_, _, hM5, hR5, hF5, hB5⟩ (fun r11 w12 q13 => ?_)
  obtain ⟨q13r, a10, b10, hM10, hR10, hF10, hB10⟩ := q13
  rw [q13r]
  have hd10 : Dok n (mNote (rwB (D.1 18) 5 (gR D.2.2.2.1 i 1) (gR D.2.2.2.1 i 0)) ((D.1, D.2.1, D.2.2.1, D.2.2.2.1.eraseIdx i, D.2.2.2.2))) := Dok_note hd5 (bokOk_B (by omega))
  have es10 : (mNote (rwB (D.1 18) 5 (gR D.2.2.2.1 i 1) (gR D.2.2.2.1 i 0)) ((D.1, D.2.1, D.2.2.1, D.2.2.2.1.eraseIdx i, D.2.2.2.2))).1 = D.1 := es5
  refine M.run 2 (pc' := 104) (lv' := [some (vr o), some (vi ((i : Nat) : Int)), some (vi ((817 + 9 * i : Nat) : Int)), some (vi (((gR D.2.2.2.1 i 8).toNat : Nat) : Int)), some (vi (gR D.2.2.2.1 i 0)), some (vi (gR D.2.2.2.1 i 1)), some (vi (gR D.2.2.2.1 i 2)), some (vi (gR D.2.2.2.1 i 6)), some (vi (gR D.2.2.2.1 i 3)), some (vi (gR D.2.2.2.1 i 4)), some (vi (gR D.2.2.2.1 i 5))]) (st' := [vr o, vi (gR D.2.2.2.1 i 6)]) rfl ?_
  refine M.get fl_X11_7 rfl (isM_o hM10) (kf := 0) (v := vr (am 0)) rfl ?_
  refine M.run 1 (pc' := 109) (lv' := [some (vr o), some (vi ((i : Nat) : Int)), some (vi ((817 + 9 * i : Nat) : Int)), some (vi (((gR D.2.2.2.1 i 8).toNat : Nat) : Int)), some (vi (gR D.2.2.2.1 i 0)), some (vi (gR D.2.2.2.1 i 1)), some (vi (gR D.2.2.2.1 i 2)), some (vi (gR D.2.2.2.1 i 6)), some (vi (gR D.2.2.2.1 i 3)), some (vi (gR D.2.2.2.1 i 4)), some (vi (gR D.2.2.2.1 i 5))]) (st' := [vi 8, vr (am 0), vi (gR D.2.2.2.1 i 6)]) rfl ?_
  refine M.ialdN (8) rfl (isM_a hM10) (by decide) (by decide) ?_
  rw [show a10 8 = a0 8 from hF10 8 (Or.inl (by decide))]
  refine M.icmp_ge (tgt := 138) rfl (qI (by omega)) (qI (by omega)) (by decide) (fun h110 => ?_) (fun h110 => ?_)
  · skip
    refine M.run 2 (pc' := 141) (lv' := [some (vr o), some (vi ((i : Nat) : Int)), some (vi ((817 + 9 * i : Nat) : Int)), some (vi (((gR D.2.2.2.1 i 8).toNat : Nat) : Int)), some (vi (gR D.2.2.2.1 i 0)), some (vi (gR D.2.2.2.1 i 1)), some (vi (gR D.2.2.2.1 i 2)), some (vi (gR D.2.2.2.1 i 6)), some (vi (gR D.2.2.2.1 i 3)), some (vi (gR D.2.2.2.1 i 4)), some (vi (gR D.2.2.2.1 i 5))]) (st' := [vi 3, vi (gR D.2.2.2.1 i 0)]) rfl ?_
    refine M.icmp_eq (tgt := 161) rfl (qI (by omega)) (qI (by decide)) (by decide) (fun h141 => ?_) (fun h141 => ?_)
    · skip
      exact M.vret rfl (Nat.zero_le _) (Nat.zero_le _) (by
          first
          | exact ⟨rfl, by rw [mRingOne_a (by omega)]; exact ⟨_, _, hM10, hR10, hF10, hB10⟩⟩
          | exact ⟨rfl, by rw [mRingOne_b (by omega) h141 h151]; exact ⟨_, _, hM10, hR10, hF10, hB10⟩⟩
          | exact ⟨rfl, by rw [mRingOne_c (by omega) (Or.inl h141)]; exact ⟨_, _, hM10, hR10, hF10, hB10⟩⟩
          | exact ⟨rfl, by rw [mRingOne_c (by omega) (Or.inr h151)]; exact ⟨_, _, hM10, hR10, hF10, hB10⟩⟩)
    · skip
      refine M.run 1 (pc' := 145) (lv' := [some (vr o), some (vi ((i : Nat) : Int)), some (vi ((817 + 9 * i : Nat) : Int)), some (vi (((gR D.2.2.2.1 i 8).toNat : Nat) : Int)), some (vi (gR D.2.2.2.1 i 0)), some (vi (gR D.2.2.2.1 i 1)), some (vi (gR D.2.2.2.1 i 2)), some (vi (gR D.2.2.2.1 i 6)), some (vi (gR D.2.2.2.1 i 3)), some (vi (gR D.2.2.2.1 i 4)), some (vi (gR D.2.2.2.1 i 5))]) (st' := [vr o]) rfl ?_
      rw [show gR D.2.2.2.1 i 1 = (((gR D.2.2.2.1 i 1).toNat : Nat) : Int) from (Int.toNat_of_nonneg (by omega)).symm]
      refine M.run 2 (pc' := 148) (lv' := [some (vr o), some (vi ((i : Nat) : Int)), some (vi ((817 + 9 * i : Nat) : Int)), some (vi (((gR D.2.2.2.1 i 8).toNat : Nat) : Int)), some (vi (gR D.2.2.2.1 i 0)), some (vi (((gR D.2.2.2.1 i 1).toNat : Nat) : Int)), some (vi (gR D.2.2.2.1 i 2)), some (vi (gR D.2.2.2.1 i 6)), some (vi (gR D.2.2.2.1 i 3)), some (vi (gR D.2.2.2.1 i 4)), some (vi (gR D.2.2.2.1 i 5))]) (st' := [vi (((gR D.2.2.2.1 i 8).toNat : Nat) : Int), vi (((gR D.2.2.2.1 i 1).toNat : Nat) : Int), vr o]) rfl ?_
      refine M.callV (eX11_canCancel l G o am u a0 b0 (mNote (rwB (D.1 18) 5 (gR D.2.2.2.1 i 1) (gR D.2.2.2.1 i 0)) ((D.1, D.2.1, D.2.2.1, D.2.2.2.1.eraseIdx i, D.2.2.2.2))) _ ht hd10 (by omega) ((gR D.2.2.2.1 i 1).toNat) (by omega) ((gR D.2.2.2.1 i 8).toNat) (by omega)) cv_X11_378 cd_X11_canCancel rfl (st := []) rfl (isM_o hM10) (by decide) (by decide) rfl (Nat.zero_le _) (Nat.zero_le _) ⟨_, _, hM10, hR10, hF10, hB10⟩ (fun r15 w16 q17 => ?_)
      rw [q17.1, q17.2]
      refine M.if_eq (tgt := 161) rfl (inI_zb _) (by decide) (fun h151 => ?_) (fun h151 => ?_)
      · skip
        replace h151 := zb_fd h151
        exact M.vret rfl (Nat.zero_le _) (Nat.zero_le _) (by
            first
            | exact ⟨rfl, by rw [mRingOne_a (by omega)]; exact ⟨_, _, hM10, hR10, hF10, hB10⟩⟩
            | exact ⟨rfl, by rw [mRingOne_b (by omega) h141 h151]; exact ⟨_, _, hM10, hR10, hF10, hB10⟩⟩
            | exact ⟨rfl, by rw [mRingOne_c (by omega) (Or.inl h141)]; exact ⟨_, _, hM10, hR10, hF10, hB10⟩⟩
            | exact ⟨rfl, by rw [mRingOne_c (by omega) (Or.inr h151)]; exact ⟨_, _, hM10, hR10, hF10, hB10⟩⟩)
      · skip
        replace h151 := zb_td h151
        refine M.run 3 (pc' := 158) (lv' := [some (vr o), some (vi ((i : Nat) : Int)), some (vi ((817 + 9 * i : Nat) : Int)), some (vi (((gR D.2.2.2.1 i 8).toNat : Nat) : Int)), some (vi (gR D.2.2.2.1 i 0)), some (vi (((gR D.2.2.2.1 i 1).toNat : Nat) : Int)), some (vi (gR D.2.2.2.1 i 2)), some (vi (gR D.2.2.2.1 i 6)), some (vi (gR D.2.2.2.1 i 3)), some (vi (gR D.2.2.2.1 i 4)), some (vi (gR D.2.2.2.1 i 5))]) (st' := [vi (((gR D.2.2.2.1 i 8).toNat : Nat) : Int), vi (((gR D.2.2.2.1 i 1).toNat : Nat) : Int), vr o]) rfl ?_
        refine M.callV (eX11_cancelNow l G o am u a0 b0 (mNote (rwB (D.1 18) 5 (gR D.2.2.2.1 i 1) (gR D.2.2.2.1 i 0)) ((D.1, D.2.1, D.2.2.1, D.2.2.2.1.eraseIdx i, D.2.2.2.2))) _ ht hd10 (by omega)  ((gR D.2.2.2.1 i 1).toNat) (by omega) ((gR D.2.2.2.1 i 8).toNat) (by omega)) cv_X11_381 cd_X11_cancelNow rfl (st := []) rfl (isM_o hM10) (by decide) (by decide) rfl (Nat.zero_le _) (Nat.zero_le _) ⟨_, _, hM10, hR10, hF10, hB10⟩ (fun r20 w21 q22 => ?_)
        obtain ⟨q22r, a19, b19, hM19, hR19, hF19, hB19⟩ := q22
        rw [q22r]
        have hd19 : Dok n (mCancel ((gR D.2.2.2.1 i 1).toNat) ((gR D.2.2.2.1 i 8).toNat) (mNote (rwB (D.1 18) 5 (gR D.2.2.2.1 i 1) (gR D.2.2.2.1 i 0)) ((D.1, D.2.1, D.2.2.1, D.2.2.2.1.eraseIdx i, D.2.2.2.2)))) := Dok_cancel hd10 (by omega) (by omega)
        have es19 : (mCancel ((gR D.2.2.2.1 i 1).toNat) ((gR D.2.2.2.1 i 8).toNat) (mNote (rwB (D.1 18) 5 (gR D.2.2.2.1 i 1) (gR D.2.2.2.1 i 0)) ((D.1, D.2.1, D.2.2.1, D.2.2.2.1.eraseIdx i, D.2.2.2.2)))).1 = (mCancel ((gR D.2.2.2.1 i 1).toNat) ((gR D.2.2.2.1 i 8).toNat) (mNote (rwB (D.1 18) 5 (gR D.2.2.2.1 i 1) (gR D.2.2.2.1 i 0)) ((D.1, D.2.1, D.2.2.1, D.2.2.2.1.eraseIdx i, D.2.2.2.2)))).1 := rfl
        exact M.vret rfl (Nat.zero_le _) (Nat.zero_le _) (by
            first
            | exact ⟨rfl, by rw [mRingOne_a (by omega)]; exact ⟨_, _, hM19, hR19, hF19, hB19⟩⟩
            | exact ⟨rfl, by rw [mRingOne_b (by omega) h141 h151]; exact ⟨_, _, hM19, hR19, hF19, hB19⟩⟩
            | exact ⟨rfl, by rw [mRingOne_c (by omega) (Or.inl h141)]; exact ⟨_, _, hM19, hR19, hF19, hB19⟩⟩
            | exact ⟨rfl, by rw [mRingOne_c (by omega) (Or.inr h151)]; exact ⟨_, _, hM19, hR19, hF19, hB19⟩⟩)
  · skip
    refine M.run 11 (pc' := 131) (lv' := [some (vr o), some (vi ((i : Nat) : Int)), some (vi ((817 + 9 * i : Nat) : Int)), some (vi (((gR D.2.2.2.1 i 8).toNat : Nat) : Int)), some (vi (gR D.2.2.2.1 i 0)), some (vi (gR D.2.2.2.1 i 1)), some (vi (gR D.2.2.2.1 i 2)), some (vi (gR D.2.2.2.1 i 6)), some (vi (gR D.2.2.2.1 i 3)), some (vi (gR D.2.2.2.1 i 4)), some (vi (gR D.2.2.2.1 i 5))]) (st' := [vi ((gR D.2.2.2.1 i 6) + 1), vi (gR D.2.2.2.1 i 5), vi (gR D.2.2.2.1 i 4), vi (gR D.2.2.2.1 i 3), vi (gR D.2.2.2.1 i 2), vi (gR D.2.2.2.1 i 1), vi (gR D.2.2.2.1 i 0), vi (((gR D.2.2.2.1 i 8).toNat : Nat) : Int), vr o]) rfl ?_
    refine M.callV (eX11_put l G o am u a0 b0 (mNote (rwB (D.1 18) 5 (gR D.2.2.2.1 i 1) (gR D.2.2.2.1 i 0)) ((D.1, D.2.1, D.2.2.1, D.2.2.2.1.eraseIdx i, D.2.2.2.2))) _ ht hd10 (by omega)  ((gR D.2.2.2.1 i 8).toNat) (by omega) (gR D.2.2.2.1 i 0) (gR D.2.2.2.1 i 1) (gR D.2.2.2.1 i 2) (gR D.2.2.2.1 i 3) (gR D.2.2.2.1 i 4) (gR D.2.2.2.1 i 5) ((gR D.2.2.2.1 i 6) + 1)) cv_X11_314 cd_X11_put rfl (st := []) rfl (isM_o hM10) (by decide) (by decide) rfl (Nat.zero_le _) (Nat.zero_le _) ⟨_, _, hM10, hR10, hF10, hB10⟩ (fun r25 w26 q27 => ?_)
    obtain ⟨q27r, a24, b24, hM24, hR24, hF24, hB24⟩ := q27
    rw [q27r]
    have hd24 : Dok n (mPut ((gR D.2.2.2.1 i 8).toNat) (rwM (gR D.2.2.2.1 i 0) (gR D.2.2.2.1 i 1) (gR D.2.2.2.1 i 2) (gR D.2.2.2.1 i 3) (gR D.2.2.2.1 i 4) (gR D.2.2.2.1 i 5) ((gR D.2.2.2.1 i 6) + 1)) (mNote (rwB (D.1 18) 5 (gR D.2.2.2.1 i 1) (gR D.2.2.2.1 i 0)) ((D.1, D.2.1, D.2.2.1, D.2.2.2.1.eraseIdx i, D.2.2.2.2)))) := Dok_put hd10 (by omega) (rowOk_M (by omega))
    have es24 : (mPut ((gR D.2.2.2.1 i 8).toNat) (rwM (gR D.2.2.2.1 i 0) (gR D.2.2.2.1 i 1) (gR D.2.2.2.1 i 2) (gR D.2.2.2.1 i 3) (gR D.2.2.2.1 i 4) (gR D.2.2.2.1 i 5) ((gR D.2.2.2.1 i 6) + 1)) (mNote (rwB (D.1 18) 5 (gR D.2.2.2.1 i 1) (gR D.2.2.2.1 i 0)) ((D.1, D.2.1, D.2.2.1, D.2.2.2.1.eraseIdx i, D.2.2.2.2)))).1 = D.1 := (mPut_1 _ _ _).trans es10
    refine M.run 2 (pc' := 161) (lv' := [some (vr o), some (vi ((i : Nat) : Int)), some (vi ((817 + 9 * i : Nat) : Int)), some (vi (((gR D.2.2.2.1 i 8).toNat : Nat) : Int)), some (vi (gR D.2.2.2.1 i 0)), some (vi (gR D.2.2.2.1 i 1)), some (vi (gR D.2.2.2.1 i 2)), some (vi (gR D.2.2.2.1 i 6)), some (vi (gR D.2.2.2.1 i 3)), some (vi (gR D.2.2.2.1 i 4)), some (vi (gR D.2.2.2.1 i 5))]) (st' := []) rfl ?_
    exact M.vret rfl (Nat.zero_le _) (Nat.zero_le _) (by
        first
        | exact ⟨rfl, by rw [mRingOne_a (by omega)]; exact ⟨_, _, hM24, hR24, hF24, hB24⟩⟩
        | exact ⟨rfl, by rw [mRingOne_b (by omega) h141 h151]; exact ⟨_, _, hM24, hR24, hF24, hB24⟩⟩
        | exact ⟨rfl, by rw [mRingOne_c (by omega) (Or.inl h141)]; exact ⟨_, _, hM24, hR24, hF24, hB24⟩⟩
        | exact ⟨rfl, by rw [mRingOne_c (by omega) (Or.inr h151)]; exact ⟨_, _, hM24, hR24, hF24, hB24⟩⟩)
