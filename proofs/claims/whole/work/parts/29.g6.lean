def lnI (w : Int) : Nat := if w = 0 then 0 else if w = 1 then 1 else if w = 2 then 2 else 3
/-- a line of the book is one number -/
theorem bk_v {r : Rw} (h : bokOk r) : (0 ≤ bkc r ∧ bkc r ≤ 1000000) ∧ (bkc r).tdiv 90 = r 0 ∧ ((bkc r).tdiv 15).tmod 6 = r 1 ∧ ((bkc r).tdiv 5).tmod 3 = r 2 ∧ (bkc r).tmod 5 = r 3 ∧ (0 ≤ (bkc r).tdiv 15 ∧ (bkc r).tdiv 15 ≤ 1000000) ∧ (0 ≤ (bkc r).tdiv 5 ∧ (bkc r).tdiv 5 ≤ 1000000) := by
  obtain ⟨h0, h1, h2, h3⟩ := h
  have e : bkc r = 90 * r 0 + 15 * r 1 + 5 * r 2 + r 3 := by unfold bkc; omega
  have hn : 0 ≤ bkc r := by omega
  have d15 : (bkc r).tdiv 15 = bkc r / 15 := Int.tdiv_eq_ediv_of_nonneg hn
  have d5 : (bkc r).tdiv 5 = bkc r / 5 := Int.tdiv_eq_ediv_of_nonneg hn
  refine ⟨by omega, ?_, ?_, ?_, ?_, by omega, by omega⟩
  · rw [Int.tdiv_eq_ediv_of_nonneg hn]; omega
  · rw [d15, Int.tmod_eq_emod_of_nonneg (by omega)]; omega
  · rw [d5, Int.tmod_eq_emod_of_nonneg (by omega)]; omega
  · rw [Int.tmod_eq_emod_of_nonneg hn]; omega
/-- how many of the first are so -/
def mCnt (p : Nat → Bool) : Nat → Nat
  | 0 => 0
  | k + 1 => mCnt p k + (if p k = true then 1 else 0)
theorem mCnt_le (p : Nat → Bool) : ∀ k : Nat, mCnt p k ≤ k
  | 0 => Nat.le_refl _
  | k + 1 => by
    have := mCnt_le p k
    unfold mCnt
    split <;> omega
theorem mCnt_y {p : Nat → Bool} {k : Nat} (h : p k = true) : mCnt p (k + 1) = mCnt p k + 1 := by show mCnt p k + (if p k = true then 1 else 0) = _; rw [if_pos h]
theorem mCnt_n {p : Nat → Bool} {k : Nat} (h : ¬ p k = true) : mCnt p (k + 1) = mCnt p k := by show mCnt p k + (if p k = true then 1 else 0) = mCnt p k; rw [if_neg h, Nat.add_zero]
def mAll (p : Nat → Bool) : Nat → Bool
  | 0 => true
  | k + 1 => mAll p k && p k
theorem mAll_f {p : Nat → Bool} {k : Nat} (h : p k = false) : ∀ n : Nat, k < n → mAll p n = false
  | 0, hk => absurd hk (Nat.not_lt_zero _)
  | n + 1, hk => by
    unfold mAll
    by_cases e : k = n
    · subst e; rw [h, Bool.and_false]
    · rw [mAll_f h n (by omega), Bool.false_and]
theorem mAll_s {p : Nat → Bool} {k : Nat} (h0 : mAll p k = true) (h : p k = true) : mAll p (k + 1) = true := by unfold mAll; rw [h0, h]; rfl
/-- those that are so as bits -/
def mOrs (p : Nat → Bool) : Nat → Nat
  | 0 => 0
  | k + 1 => mOrs p k ||| (if p k = true then 1 <<< k else 0)
theorem mOrs_y {p : Nat → Bool} {k : Nat} (h : p k = true) : mOrs p (k + 1) = mOrs p k ||| (1 <<< k) := by show mOrs p k ||| (if p k = true then 1 <<< k else 0) = _; rw [if_pos h]
theorem mOrs_n {p : Nat → Bool} {k : Nat} (h : ¬ p k = true) : mOrs p (k + 1) = mOrs p k ||| 0 := by show mOrs p k ||| (if p k = true then 1 <<< k else 0) = _; rw [if_neg h]
theorem mOrs_lt (p : Nat → Bool) : ∀ k : Nat, k ≤ 8 → mOrs p k < 256
  | 0, _ => show 0 < 256 by decide
  | k + 1, h => by
    have h1 := mOrs_lt p k (by omega)
    unfold mOrs
    refine Nat.or_lt_two_pow (n := 8) h1 ?_
    split
    · rw [Nat.one_shiftLeft]; exact Nat.pow_lt_pow_right (by decide) (by omega)
    · decide
def mLg (v : Nat) : Nat → Nat
  | 0 => 0
  | k + 1 => max (mLg v k) (bEd v k - k)
theorem mLg_le (v : Nat) : ∀ k : Nat, k ≤ 30 → mLg v k ≤ 30
  | 0, _ => Nat.zero_le _
  | k + 1, h => by
    have h1 := mLg_le v k (by omega)
    have h2 := bEd_le 30 v k (by omega) (by omega)
    show max (mLg v k) (bEd v k - k) ≤ 30
    omega
def mSoon (F : List Rw) : Nat → Int
  | 0 => -1
  | k + 1 => if mSoon F k = -1 ∨ gR F k 7 < mSoon F k then gR F k 7 else mSoon F k
theorem mSoon_b {F : List Rw} {n : Int} (h : ∀ r ∈ F, rowOk n r) : ∀ k : Nat, k ≤ F.length → -1 ≤ mSoon F k ∧ mSoon F k ≤ 20000
  | 0, _ => ⟨show (-1 : Int) ≤ -1 by decide, show (-1 : Int) ≤ 20000 by decide⟩
  | k + 1, hk => by
    have h1 := mSoon_b h k (by omega)
    obtain ⟨q0, q1, q2, q3, q4, q5, q6, q7, q8, q9⟩ := h _ (gR_mem (show k < F.length by omega))
    show -1 ≤ (if mSoon F k = -1 ∨ gR F k 7 < mSoon F k then gR F k 7 else mSoon F k) ∧ (if mSoon F k = -1 ∨ gR F k 7 < mSoon F k then gR F k 7 else mSoon F k) ≤ 20000
    split <;> omega
def mMsg (D : Dy) (c : Nat) : Nat := mCnt (fun i => decide (gR (D.2.1 0) i 1 = ((c : Nat) : Int))) (D.2.1 0).length + mCnt (fun i => decide (gR (D.2.1 1) i 1 = ((c : Nat) : Int))) (D.2.1 1).length + mCnt (fun i => decide (gR D.2.2.1 i 1 = ((c : Nat) : Int))) D.2.2.1.length
theorem mMsg_le {D : Dy} {n : Int} (hd : Dok n D) (c : Nat) : mMsg D c ≤ 88 := by
  have h0 := Dok_l hd (s := 0) (by decide)
  have h1 := Dok_l hd (s := 1) (by decide)
  have h2 := Dok_f hd
  have c0 := mCnt_le (fun i => decide (gR (D.2.1 0) i 1 = ((c : Nat) : Int))) (D.2.1 0).length
  have c1 := mCnt_le (fun i => decide (gR (D.2.1 1) i 1 = ((c : Nat) : Int))) (D.2.1 1).length
  have c2 := mCnt_le (fun i => decide (gR D.2.2.1 i 1 = ((c : Nat) : Int))) D.2.2.1.length
  unfold mMsg
  omega
/-- the block that most messages are of -/
def mBus (D : Dy) : Nat → Int
  | 0 => -1
  | k + 1 => if (if mBus D k = -1 then 0 else mMsg D (mBus D k).toNat) < mMsg D k then ((k : Nat) : Int) else mBus D k
theorem mBus_b {D : Dy} : ∀ k : Nat, -1 ≤ mBus D k ∧ mBus D k < k
  | 0 => ⟨show (-1 : Int) ≤ -1 by decide, show (-1 : Int) < 0 by decide⟩
  | k + 1 => by
    have := mBus_b (D := D) k
    show -1 ≤ (if (if mBus D k = -1 then 0 else mMsg D (mBus D k).toNat) < mMsg D k then ((k : Nat) : Int) else mBus D k) ∧ (if (if mBus D k = -1 then 0 else mMsg D (mBus D k).toNat) < mMsg D k then ((k : Nat) : Int) else mBus D k) < ((k + 1 : Nat) : Int)
    split <;> omega

set_option maxHeartbeats 4000000 in
set_option maxRecDepth 100000 in
theorem vX11_lineOf (l : Launch) (G : GT) (o : Nat) (am : Nat → Nat) (u tl : Nat → Int) (b0 : Nat → Nat → Int) (D : Dy) (L : List Dy) (n : Int) (hT : Tok tl) (hd : Dok n D) (hi : Inv D) (hc9 : D.1 18 ≤ 9999) (hL : Lok n L) (hn : 0 ≤ n ∧ n ≤ 800000000) (hu : u 23 = 0 ∨ u 23 = 1) (X : Nat → Int → Option Gn) (hX : TxOk (b0 2) X (tl 1) ∧ tl 2 < tl 1) (i : Nat) (hil : i < D.2.2.2.2.length) (y : Int) (hy : -2147483648 ≤ y ∧ y ≤ 2147483647) : Ctr l G yX11_lineOf cX11_lineOf 4 ((Option.some Jvm.ClassFile.FieldType.int)) 2 0 0 [vr o, vi ((i : Nat) : Int), vi y] (fun w => isT o am u tl b0 D L w) (fun w r w' => r = some (vi (gR D.2.2.2.2 i (lnI y))) ∧ w' = w) := by
  refine Ctr.of (t := tX11_lineOf) (lv0 := [some (vr o), some (vi ((i : Nat) : Int)), some (vi y), none]) (by decide +kernel) tX11_lineOf_ok rfl rfl (fun w g hP M => ?_)
  obtain ⟨a0, ⟨a, b, hM, hR, hF, hB⟩, hTE, hRg⟩ := hP
  have ht : Tok a0 := Tok_R hT hTE hRg
  have hk_b := Dok_b hd
  obtain ⟨v0, v1, v2, v3, v4, v5, v6⟩ := bk_v (Dok_br hd hil)
  refine M.run 1 (pc' := 1) (lv' := [some (vr o), some (vi ((i : Nat) : Int)), some (vi y), none]) (st' := [vr o]) rfl ?_
  refine M.get fl_X11_7 rfl (isM_o hM) (kf := 0) (v := vr (am 0)) rfl ?_
  refine M.run 3 (pc' := 9) (lv' := [some (vr o), some (vi ((i : Nat) : Int)), some (vi y), none]) (st' := [vi (961 + ((i : Nat) : Int)), vr (am 0)]) rfl ?_
  refine M.ialdN (961 + i) rfl (isM_a hM) (by omega) (by decide) ?_
  rw [show a (961 + i) = bkc (gR D.2.2.2.2 i) from Rp_br hR (i := i) (by omega)]
  refine M.run 2 (pc' := 12) (lv' := [some (vr o), some (vi ((i : Nat) : Int)), some (vi y), some (vi (bkc (gR D.2.2.2.2 i)))]) (st' := [vi y]) rfl ?_
  refine M.if_ne (tgt := 22) rfl (qI (by omega)) (by decide) (fun h12 => ?_) (fun h12 => ?_)
  · skip
    refine M.run 2 (pc' := 24) (lv' := [some (vr o), some (vi ((i : Nat) : Int)), some (vi y), some (vi (bkc (gR D.2.2.2.2 i)))]) (st' := [vi 1, vi y]) rfl ?_
    refine M.icmp_ne (tgt := 37) rfl (qI (by omega)) (qI (by decide)) (by decide) (fun h24 => ?_) (fun h24 => ?_)
    · skip
      refine M.run 2 (pc' := 39) (lv' := [some (vr o), some (vi ((i : Nat) : Int)), some (vi y), some (vi (bkc (gR D.2.2.2.2 i)))]) (st' := [vi 2, vi y]) rfl ?_
      refine M.icmp_ne (tgt := 50) rfl (qI (by omega)) (qI (by decide)) (by decide) (fun h39 => ?_) (fun h39 => ?_)
      · skip
        refine M.run 2 (pc' := 52) (lv' := [some (vr o), some (vi ((i : Nat) : Int)), some (vi y), some (vi (bkc (gR D.2.2.2.2 i)))]) (st' := [vi 5, vi (bkc (gR D.2.2.2.2 i))]) rfl ?_
        refine M.irem rfl (qI (by omega)) (qI (by decide)) (by decide) ?_
        exact M.iret rfl (Nat.zero_le _) (Nat.zero_le _) ⟨reI (by unfold lnI; first | (rw [if_pos (by omega)]; exact v1) | (rw [if_neg (by omega), if_pos (by omega)]; exact v2) | (rw [if_neg (by omega), if_neg (by omega), if_pos (by omega)]; exact v3) | (rw [if_neg (by omega), if_neg (by omega), if_neg (by omega)]; exact v4)), rfl⟩
      · skip
        refine M.run 2 (pc' := 44) (lv' := [some (vr o), some (vi ((i : Nat) : Int)), some (vi y), some (vi (bkc (gR D.2.2.2.2 i)))]) (st' := [vi 5, vi (bkc (gR D.2.2.2.2 i))]) rfl ?_
        refine M.idiv rfl (qI (by omega)) (qI (by decide)) (by decide) ?_
        refine M.run 1 (pc' := 46) (lv' := [some (vr o), some (vi ((i : Nat) : Int)), some (vi y), some (vi (bkc (gR D.2.2.2.2 i)))]) (st' := [vi 3, vi ((bkc (gR D.2.2.2.2 i)).tdiv 5)]) rfl ?_
        refine M.irem rfl (qI (by omega)) (qI (by decide)) (by decide) ?_
        refine M.run 1 (pc' := 53) (lv' := [some (vr o), some (vi ((i : Nat) : Int)), some (vi y), some (vi (bkc (gR D.2.2.2.2 i)))]) (st' := [vi (((bkc (gR D.2.2.2.2 i)).tdiv 5).tmod 3)]) rfl ?_
        exact M.iret rfl (Nat.zero_le _) (Nat.zero_le _) ⟨reI (by unfold lnI; first | (rw [if_pos (by omega)]; exact v1) | (rw [if_neg (by omega), if_pos (by omega)]; exact v2) | (rw [if_neg (by omega), if_neg (by omega), if_pos (by omega)]; exact v3) | (rw [if_neg (by omega), if_neg (by omega), if_neg (by omega)]; exact v4)), rfl⟩
    · skip
      refine M.run 2 (pc' := 30) (lv' := [some (vr o), some (vi ((i : Nat) : Int)), some (vi y), some (vi (bkc (gR D.2.2.2.2 i)))]) (st' := [vi 15, vi (bkc (gR D.2.2.2.2 i))]) rfl ?_
      refine M.idiv rfl (qI (by omega)) (qI (by decide)) (by decide) ?_
      refine M.run 1 (pc' := 33) (lv' := [some (vr o), some (vi ((i : Nat) : Int)), some (vi y), some (vi (bkc (gR D.2.2.2.2 i)))]) (st' := [vi 6, vi ((bkc (gR D.2.2.2.2 i)).tdiv 15)]) rfl ?_
      refine M.irem rfl (qI (by omega)) (qI (by decide)) (by decide) ?_
      refine M.run 1 (pc' := 53) (lv' := [some (vr o), some (vi ((i : Nat) : Int)), some (vi y), some (vi (bkc (gR D.2.2.2.2 i)))]) (st' := [vi (((bkc (gR D.2.2.2.2 i)).tdiv 15).tmod 6)]) rfl ?_
      exact M.iret rfl (Nat.zero_le _) (Nat.zero_le _) ⟨reI (by unfold lnI; first | (rw [if_pos (by omega)]; exact v1) | (rw [if_neg (by omega), if_pos (by omega)]; exact v2) | (rw [if_neg (by omega), if_neg (by omega), if_pos (by omega)]; exact v3) | (rw [if_neg (by omega), if_neg (by omega), if_neg (by omega)]; exact v4)), rfl⟩
  · skip
    refine M.run 2 (pc' := 18) (lv' := [some (vr o), some (vi ((i : Nat) : Int)), some (vi y), some (vi (bkc (gR D.2.2.2.2 i)))]) (st' := [vi 90, vi (bkc (gR D.2.2.2.2 i))]) rfl ?_
    refine M.idiv rfl (qI (by omega)) (qI (by decide)) (by decide) ?_
    refine M.run 1 (pc' := 53) (lv' := [some (vr o), some (vi ((i : Nat) : Int)), some (vi y), some (vi (bkc (gR D.2.2.2.2 i)))]) (st' := [vi ((bkc (gR D.2.2.2.2 i)).tdiv 90)]) rfl ?_
    exact M.iret rfl (Nat.zero_le _) (Nat.zero_le _) ⟨reI (by unfold lnI; first | (rw [if_pos (by omega)]; exact v1) | (rw [if_neg (by omega), if_pos (by omega)]; exact v2) | (rw [if_neg (by omega), if_neg (by omega), if_pos (by omega)]; exact v3) | (rw [if_neg (by omega), if_neg (by omega), if_neg (by omega)]; exact v4)), rfl⟩
set_option maxHeartbeats 4000000 in
set_option maxRecDepth 100000 in
theorem vX11_book (l : Launch) (G : GT) (o : Nat) (am : Nat → Nat) (u tl : Nat → Int) (b0 : Nat → Nat → Int) (D : Dy) (L : List Dy) (n : Int) (hT : Tok tl) (hd : Dok n D) (hi : Inv D) (hc9 : D.1 18 ≤ 9999) (hL : Lok n L) (hn : 0 ≤ n ∧ n ≤ 800000000) (hu : u 23 = 0 ∨ u 23 = 1) (X : Nat → Int → Option Gn) (hX : TxOk (b0 2) X (tl 1) ∧ tl 2 < tl 1) (y : Int) (z : Int) (hy : -2147483648 ≤ y ∧ y ≤ 2147483647) (hz : -2147483648 ≤ z ∧ z ≤ 2147483647) : Ctr l G yX11_book cX11_book 3 ((Option.some Jvm.ClassFile.FieldType.int)) 3 0 0 [vr o, vi y, vi z] (fun w => isT o am u tl b0 D L w) (fun w r w' => r = some (vi (if y = -1 then ((D.2.2.2.2.length : Nat) : Int) else if (0 ≤ y ∧ y < ((D.2.2.2.2.length : Nat) : Int)) ∧ 0 ≤ z ∧ z ≤ 3 then gR D.2.2.2.2 y.toNat (lnI z) else -2)) ∧ w' = w) := by
  refine Ctr.of (t := tX11_book) (lv0 := [some (vr o), some (vi y), some (vi z)]) (by decide +kernel) tX11_book_ok rfl rfl (fun w g hP M => ?_)
  obtain ⟨a0, ⟨a, b, hM, hR, hF, hB⟩, hTE, hRg⟩ := hP
  have ht : Tok a0 := Tok_R hT hTE hRg
  have hk_b := Dok_b hd
  refine M.run 2 (pc' := 2) (lv' := [some (vr o), some (vi y), some (vi z)]) (st' := [vi (-1), vi y]) rfl ?_
  refine M.icmp_ne (tgt := 13) rfl (qI (by omega)) (qI (by decide)) (by decide) (fun h2 => ?_) (fun h2 => ?_)
  · skip
    refine M.run 3 (pc' := 16) (lv' := [some (vr o), some (vi y), some (vi z)]) (st' := [vr o, vi 0, vi y]) rfl ?_
    refine M.get fl_X11_7 rfl (isM_o hM) (kf := 0) (v := vr (am 0)) rfl ?_
    refine M.run 1 (pc' := 21) (lv' := [some (vr o), some (vi y), some (vi z)]) (st' := [vi 23, vr (am 0), vi 0, vi y]) rfl ?_
    refine M.ialdN (23) rfl (isM_a hM) (by decide) (by decide) ?_
    rw [show a 23 = ((D.2.2.2.2.length : Nat) : Int) from Rp_b hR]
    refine M.run 2 (pc' := 24) (lv' := [some (vr o), some (vi y), some (vi z)]) (st' := [vi (((D.2.2.2.2.length : Nat) : Int) - 1), vi 0, vi y]) rfl ?_
    refine M.callS (kX11_isIn l G y 0 (((D.2.2.2.2.length : Nat) : Int) - 1) (qI (by omega)) (qI (by omega)) (qI (by omega))) cs_X11_50 cd_X11_isIn rfl (st := []) rfl (by decide) (by decide) rfl (Nat.zero_le _) (Nat.zero_le _) trivial (fun r1 w2 q3 => ?_)
    rw [q3.1, q3.2]
    refine M.if_eq (tgt := 48) rfl (inI_zb _) (by decide) (fun h27 => ?_) (fun h27 => ?_)
    · skip
      replace h27 := zb_fd h27
      refine M.run 1 (pc' := 50) (lv' := [some (vr o), some (vi y), some (vi z)]) (st' := [vi (-2)]) rfl ?_
      exact M.iret rfl (Nat.zero_le _) (Nat.zero_le _) ⟨reI ((if_neg h2).trans (if_neg (by omega))).symm, rfl⟩
    · skip
      replace h27 := zb_td h27
      refine M.run 3 (pc' := 33) (lv' := [some (vr o), some (vi y), some (vi z)]) (st' := [vi 3, vi 0, vi z]) rfl ?_
      refine M.callS (kX11_isIn l G z 0 3 (qI (by omega)) (qI (by omega)) (qI (by omega))) cs_X11_50 cd_X11_isIn rfl (st := []) rfl (by decide) (by decide) rfl (Nat.zero_le _) (Nat.zero_le _) trivial (fun r5 w6 q7 => ?_)
      rw [q7.1, q7.2]
      refine M.if_eq (tgt := 48) rfl (inI_zb _) (by decide) (fun h36 => ?_) (fun h36 => ?_)
      · skip
        replace h36 := zb_fd h36
        refine M.run 1 (pc' := 50) (lv' := [some (vr o), some (vi y), some (vi z)]) (st' := [vi (-2)]) rfl ?_
        exact M.iret rfl (Nat.zero_le _) (Nat.zero_le _) ⟨reI ((if_neg h2).trans (if_neg (by omega))).symm, rfl⟩
      · skip
        replace h36 := zb_td h36
        have h027 := h27
        have h036 := h36
        obtain ⟨i, rfl⟩ := Int.eq_ofNat_of_zero_le (show (0 : Int) ≤ y from h27.1)
        refine M.run 3 (pc' := 42) (lv' := [some (vr o), some (vi ((i : Nat) : Int)), some (vi z)]) (st' := [vi z, vi ((i : Nat) : Int), vr o]) rfl ?_
        refine M.callV (vX11_lineOf l G o am u tl b0 D L n hT hd hi hc9 (Lok_mono (by omega) hL) (by omega) hu X hX i (by omega) z (by omega)) cv_X11_449 cd_X11_lineOf rfl (st := []) rfl (isM_o hM) (by decide) (by decide) rfl (Nat.zero_le _) (Nat.zero_le _) ⟨a0, ⟨_, _, hM, hR, hF, hB⟩, hTE, hRg⟩ (fun r9 w10 q11 => ?_)
        rw [q11.1, q11.2]
        refine M.run 1 (pc' := 50) (lv' := [some (vr o), some (vi ((i : Nat) : Int)), some (vi z)]) (st' := [vi (gR D.2.2.2.2 i (lnI z))]) rfl ?_
        exact M.iret rfl (Nat.zero_le _) (Nat.zero_le _) ⟨reI ((if_neg (by omega)).trans (if_pos (by omega))).symm, rfl⟩
  · skip
    refine M.run 1 (pc' := 6) (lv' := [some (vr o), some (vi y), some (vi z)]) (st' := [vr o]) rfl ?_
    refine M.get fl_X11_7 rfl (isM_o hM) (kf := 0) (v := vr (am 0)) rfl ?_
    refine M.run 1 (pc' := 11) (lv' := [some (vr o), some (vi y), some (vi z)]) (st' := [vi 23, vr (am 0)]) rfl ?_
    refine M.ialdN (23) rfl (isM_a hM) (by decide) (by decide) ?_
    rw [show a 23 = ((D.2.2.2.2.length : Nat) : Int) from Rp_b hR]
    exact M.iret rfl (Nat.zero_le _) (Nat.zero_le _) ⟨reI (if_pos h2).symm, rfl⟩
set_option maxHeartbeats 4000000 in
set_option maxRecDepth 100000 in
theorem vX11_ledger (l : Launch) (G : GT) (o : Nat) (am : Nat → Nat) (u tl : Nat → Int) (b0 : Nat → Nat → Int) (D : Dy) (L : List Dy) (n : Int) (hT : Tok tl) (hd : Dok n D) (hi : Inv D) (hc9 : D.1 18 ≤ 9999) (hL : Lok n L) (hn : 0 ≤ n ∧ n ≤ 800000000) (hu : u 23 = 0 ∨ u 23 = 1) (X : Nat → Int → Option Gn) (hX : TxOk (b0 2) X (tl 1) ∧ tl 2 < tl 1) (y : Int) (hy : -2147483648 ≤ y ∧ y ≤ 2147483647) : Ctr l G yX11_ledger cX11_ledger 4 ((Option.some Jvm.ClassFile.FieldType.int)) 3 0 0 [vr o, vi y] (fun w => isT o am u tl b0 D L w) (fun w r w' => r = some (vi (if 0 ≤ y ∧ y ≤ 5 then ((mCnt (fun i => decide (gR D.2.2.2.2 i 1 = y)) D.2.2.2.2.length : Nat) : Int) else -2)) ∧ w' = w) := by
  refine Ctr.of (t := tX11_ledger) (lv0 := [some (vr o), some (vi y), none, none]) (by decide +kernel) tX11_ledger_ok rfl rfl (fun w g hP M => ?_)
  obtain ⟨a0, ⟨a, b, hM, hR, hF, hB⟩, hTE, hRg⟩ := hP
  have ht : Tok a0 := Tok_R hT hTE hRg
  have hk_b := Dok_b hd
  have hcl := mCnt_le (fun i => decide (gR D.2.2.2.2 i 1 = y))
  refine M.run 3 (pc' := 3) (lv' := [some (vr o), some (vi y), none, none]) (st' := [vi 5, vi 0, vi y]) rfl ?_
  refine M.callS (kX11_isIn l G y 0 5 (qI (by omega)) (qI (by omega)) (qI (by omega))) cs_X11_50 cd_X11_isIn rfl (st := []) rfl (by decide) (by decide) rfl (Nat.zero_le _) (Nat.zero_le _) trivial (fun r1 w2 q3 => ?_)
  rw [q3.1, q3.2]
  refine M.if_ne (tgt := 12) rfl (inI_zb _) (by decide) (fun h6 => ?_) (fun h6 => ?_)
  · skip
    replace h6 := zb_td h6
    refine M.run 4 (pc' := 16) (lv' := [some (vr o), some (vi y), some (vi 0), some (vi 0)]) (st' := []) rfl ?_
    have Lp16 : ∀ (N : Nat) (k : Nat) (m : Nat), (m = mCnt (fun i => decide (gR D.2.2.2.2 i 1 = y)) k) → (k ≤ D.2.2.2.2.length) → D.2.2.2.2.length - k < N → g 0 0 w 16 [some (vr o), some (vi y), some (vi ((m : Nat) : Int)), some (vi ((k : Nat) : Int))] [] := by
      intro N
      induction N with
      | zero => intro k m _ _ hN; exact absurd hN (Nat.not_lt_zero _)
      | succ N ih16 =>
        intro k m hm hk hN
        refine M.run 2 (pc' := 18) (lv' := [some (vr o), some (vi y), some (vi ((m : Nat) : Int)), some (vi ((k : Nat) : Int))]) (st' := [vr o, vi ((k : Nat) : Int)]) rfl ?_
        refine M.get fl_X11_7 rfl (isM_o hM) (kf := 0) (v := vr (am 0)) rfl ?_
        refine M.run 1 (pc' := 23) (lv' := [some (vr o), some (vi y), some (vi ((m : Nat) : Int)), some (vi ((k : Nat) : Int))]) (st' := [vi 23, vr (am 0), vi ((k : Nat) : Int)]) rfl ?_
        refine M.ialdN (23) rfl (isM_a hM) (by decide) (by decide) ?_
        rw [show a 23 = ((D.2.2.2.2.length : Nat) : Int) from Rp_b hR]
        refine M.icmp_ge (tgt := 51) rfl (qI (by omega)) (qI (by omega)) (by decide) (fun h24 => ?_) (fun h24 => ?_)
        · skip
          refine M.run 1 (pc' := 52) (lv' := [some (vr o), some (vi y), some (vi ((m : Nat) : Int)), some (vi ((k : Nat) : Int))]) (st' := [vi ((m : Nat) : Int)]) rfl ?_
          exact M.iret rfl (Nat.zero_le _) (Nat.zero_le _) ⟨reI (by rw [if_pos h6, hm, show k = D.2.2.2.2.length by omega]), rfl⟩
        · skip
          have hkl : k < D.2.2.2.2.length := by omega
          have hk5 := (Dok_br hd hkl).2.1
          refine M.run 4 (pc' := 31) (lv' := [some (vr o), some (vi y), some (vi ((m : Nat) : Int)), some (vi ((k : Nat) : Int))]) (st' := [vi 1, vi ((k : Nat) : Int), vr o, vi ((m : Nat) : Int)]) rfl ?_
          refine M.callV (vX11_lineOf l G o am u tl b0 D L n hT hd hi hc9 (Lok_mono (by omega) hL) (by omega) hu X hX k (by omega) 1 (by omega)) cv_X11_449 cd_X11_lineOf rfl (st := [vi ((m : Nat) : Int)]) rfl (isM_o hM) (by decide) (by decide) rfl (Nat.zero_le _) (Nat.zero_le _) ⟨a0, ⟨_, _, hM, hR, hF, hB⟩, hTE, hRg⟩ (fun r5 w6 q7 => ?_)
          rw [q7.1, q7.2]
          rw [show gR D.2.2.2.2 k (lnI 1) = gR D.2.2.2.2 k 1 from rfl]
          refine M.run 1 (pc' := 35) (lv' := [some (vr o), some (vi y), some (vi ((m : Nat) : Int)), some (vi ((k : Nat) : Int))]) (st' := [vi y, vi (gR D.2.2.2.2 k 1), vi ((m : Nat) : Int)]) rfl ?_
          refine M.icmp_ne (tgt := 42) rfl (qI (by omega)) (qI (by omega)) (by decide) (fun h35 => ?_) (fun h35 => ?_)
          · skip
            have h35b : ¬ (fun i => decide (gR D.2.2.2.2 i 1 = y)) k = true := fun q => h35 (of_decide_eq_true q)
            refine M.run 5 (pc' := 16) (lv' := [some (vr o), some (vi y), some (vi (((m : Nat) : Int) + 0)), some (vi (((k : Nat) : Int) + 1))]) (st' := []) rfl ?_
            exact ih16 (k + 1) (m + 0) (by rw [hm]; exact (mCnt_n h35b).symm) (by omega) (by omega)
          · skip
            have h35b : (fun i => decide (gR D.2.2.2.2 i 1 = y)) k = true := decide_eq_true h35
            refine M.run 6 (pc' := 16) (lv' := [some (vr o), some (vi y), some (vi (((m : Nat) : Int) + 1)), some (vi (((k : Nat) : Int) + 1))]) (st' := []) rfl ?_
            exact ih16 (k + 1) (m + 1) (by rw [hm]; exact (mCnt_y h35b).symm) (by omega) (by omega)
    exact Lp16 _ 0 0 rfl (Nat.zero_le _) (Nat.lt_succ_self _)
  · skip
    replace h6 := zb_fd h6
    refine M.run 1 (pc' := 11) (lv' := [some (vr o), some (vi y), none, none]) (st' := [vi (-2)]) rfl ?_
    exact M.iret rfl (Nat.zero_le _) (Nat.zero_le _) ⟨reI (if_neg h6).symm, rfl⟩
set_option maxHeartbeats 4000000 in
set_option maxRecDepth 100000 in
theorem vX11_whole (l : Launch) (G : GT) (o : Nat) (am : Nat → Nat) (u tl : Nat → Int) (b0 : Nat → Nat → Int) (D : Dy) (L : List Dy) (n : Int) (hT : Tok tl) (hd : Dok n D) (hi : Inv D) (hc9 : D.1 18 ≤ 9999) (hL : Lok n L) (hn : 0 ≤ n ∧ n ≤ 800000000) (hu : u 23 = 0 ∨ u 23 = 1) (X : Nat → Int → Option Gn) (hX : TxOk (b0 2) X (tl 1) ∧ tl 2 < tl 1) (x : Int) (hx : -2147483648 ≤ x ∧ x ≤ 2147483647) : Ctr l G yX11_whole cX11_whole 2 ((Option.some Jvm.ClassFile.FieldType.boolean)) 5 0 0 [vr o, vi x] (fun w => isT o am u tl b0 D L w) (fun w r w' => r = some (vi (zb (decide ((0 ≤ x ∧ x < tl 0) ∧ mMiss tl x.toNat (D.1 (37 + x.toNat)).toNat = 0)))) ∧ w' = w) := by
  refine Ctr.of (t := tX11_whole) (lv0 := [some (vr o), some (vi x)]) (by decide +kernel) tX11_whole_ok rfl rfl (fun w g hP M => ?_)
  obtain ⟨a0, ⟨a, b, hM, hR, hF, hB⟩, hTE, hRg⟩ := hP
  have ht : Tok a0 := Tok_R hT hTE hRg
  have hk0 : 0 ≤ tl 0 ∧ tl 0 ≤ 3 := hT.1 0 (by decide)
  refine M.run 2 (pc' := 2) (lv' := [some (vr o), some (vi x)]) (st' := [vi x, vr o]) rfl ?_
  refine M.callV (kX11_isBlock l G o am u a b x (by omega) (Mok_of ht hd (by omega) hR hF)) cv_X11_331 cd_X11_isBlock rfl (st := []) rfl (isM_o hM) (by decide) (by decide) rfl (Nat.zero_le _) (Nat.zero_le _) hM (fun r1 w2 q3 => ?_)
  rw [q3.1, q3.2]
  rw [hF 0 (Or.inl (by decide)), hTE.1 0 (by decide) (by decide) (by decide)]
  refine M.if_eq (tgt := 32) rfl (inI_zb _) (by decide) (fun h5 => ?_) (fun h5 => ?_)
  · skip
    replace h5 := zb_fd h5
    have hno : ¬ ((0 ≤ x ∧ x < tl 0) ∧ mMiss tl x.toNat (D.1 (37 + x.toNat)).toNat = 0) := fun q => h5 q.1
    refine M.run 1 (pc' := 33) (lv' := [some (vr o), some (vi x)]) (st' := [vi 0]) rfl ?_
    exact M.zret rfl (Or.inl rfl) (Nat.zero_le _) (Nat.zero_le _) ⟨reI (zbd (fun q => absurd q hno) (fun _ => rfl)), rfl⟩
  · skip
    replace h5 := zb_td h5
    have h05 := h5
    obtain ⟨c, rfl⟩ := Int.eq_ofNat_of_zero_le (show (0 : Int) ≤ x from h5.1)
    have hq37 := Dok_com hd (x := c) (by omega)
    refine M.run 2 (pc' := 10) (lv' := [some (vr o), some (vi ((c : Nat) : Int))]) (st' := [vi ((c : Nat) : Int), vr o]) rfl ?_
    refine M.callV (kX11_redOf l G o am u a b c (by omega) (Mok_of ht hd (by omega) hR hF)) cv_X11_58 cd_X11_redOf rfl (st := []) rfl (isM_o hM) (by decide) (by decide) rfl (Nat.zero_le _) (Nat.zero_le _) hM (fun r5 w6 q7 => ?_)
    rw [q7.1, q7.2]
    rw [show bFs (a (15 + c)).toNat = mRedOf tl c from by unfold mRedOf; rw [hF _ (Or.inl (by omega)), hTE.1 (15 + c) (by omega) (by omega) (by omega)]]
    have hrl := bFs_lt (n := (tl (15 + c)).toNat) (by have := Tok_red hT (x := c) (by omega); omega)
    have hrl2 : mRedOf tl c < 1073741824 := hrl
    refine M.run 1 (pc' := 14) (lv' := [some (vr o), some (vi ((c : Nat) : Int))]) (st' := [vr o, vi ((mRedOf tl c : Nat) : Int)]) rfl ?_
    refine M.get fl_X11_7 rfl (isM_o hM) (kf := 0) (v := vr (am 0)) rfl ?_
    refine M.run 3 (pc' := 21) (lv' := [some (vr o), some (vi ((c : Nat) : Int))]) (st' := [vi (37 + ((c : Nat) : Int)), vr (am 0), vi ((mRedOf tl c : Nat) : Int)]) rfl ?_
    refine M.ialdN (37 + c) rfl (isM_a hM) (by omega) (by decide) ?_
    rw [show a (37 + c) = D.1 (37 + c) from Rp_s hR (k := 37 + c) (by omega) (by omega) (by omega)]
    rw [show D.1 (37 + c) = (((D.1 (37 + c)).toNat : Nat) : Int) from (Int.toNat_of_nonneg (by omega)).symm]
    refine M.run 1 (pc' := 23) (lv' := [some (vr o), some (vi ((c : Nat) : Int))]) (st' := [vi (-1), vi (((D.1 (37 + c)).toNat : Nat) : Int), vi ((mRedOf tl c : Nat) : Int)]) rfl ?_
    refine M.ixm1 (b1 := (D.1 (37 + c)).toNat) rfl ?_
    refine M.iandn (b1 := mRedOf tl c) (b2 := (D.1 (37 + c)).toNat) rfl (by omega) (by omega) ?_
    have hbd : bDf (mRedOf tl c) (D.1 (37 + c)).toNat < 1073741824 := bDf_lt30 hrl2
    refine M.if_ne (tgt := 32) rfl (qI (by omega)) (by decide) (fun h25 => ?_) (fun h25 => ?_)
    · skip
      have hno : ¬ ((0 ≤ ((c : Nat) : Int) ∧ ((c : Nat) : Int) < tl 0) ∧ mMiss tl c (D.1 (37 + c)).toNat = 0) := fun q => h25 (congrArg (fun z : Nat => ((z : Nat) : Int)) q.2)
      refine M.run 1 (pc' := 33) (lv' := [some (vr o), some (vi ((c : Nat) : Int))]) (st' := [vi 0]) rfl ?_
      exact M.zret rfl (Or.inl rfl) (Nat.zero_le _) (Nat.zero_le _) ⟨reI (zbd (fun q => absurd q hno) (fun _ => rfl)), rfl⟩
    · skip
      refine M.run 2 (pc' := 33) (lv' := [some (vr o), some (vi ((c : Nat) : Int))]) (st' := [vi 1]) rfl ?_
      exact M.zret rfl (Or.inr rfl) (Nat.zero_le _) (Nat.zero_le _) ⟨reI (zbd (fun _ => rfl) (fun q => absurd (And.intro h05 (Int.ofNat_eq_zero.mp h25)) q)), rfl⟩
set_option maxHeartbeats 4000000 in
set_option maxRecDepth 100000 in
theorem vX11_resent (l : Launch) (G : GT) (o : Nat) (am : Nat → Nat) (u tl : Nat → Int) (b0 : Nat → Nat → Int) (D : Dy) (L : List Dy) (n : Int) (hT : Tok tl) (hd : Dok n D) (hi : Inv D) (hc9 : D.1 18 ≤ 9999) (hL : Lok n L) (hn : 0 ≤ n ∧ n ≤ 800000000) (hu : u 23 = 0 ∨ u 23 = 1) (X : Nat → Int → Option Gn) (hX : TxOk (b0 2) X (tl 1) ∧ tl 2 < tl 1) (x : Int) (hx : -2147483648 ≤ x ∧ x ≤ 2147483647) : Ctr l G yX11_resent cX11_resent 2 ((Option.some Jvm.ClassFile.FieldType.int)) 3 0 0 [vr o, vi x] (fun w => isT o am u tl b0 D L w) (fun w r w' => r = some (vi (if 0 ≤ x ∧ x < tl 0 then (if tl (12 + x.toNat) < D.1 (46 + x.toNat) then D.1 (46 + x.toNat) - tl (12 + x.toNat) else 0) else -1)) ∧ w' = w) := by
  refine Ctr.of (t := tX11_resent) (lv0 := [some (vr o), some (vi x)]) (by decide +kernel) tX11_resent_ok rfl rfl (fun w g hP M => ?_)
  obtain ⟨a0, ⟨a, b, hM, hR, hF, hB⟩, hTE, hRg⟩ := hP
  have ht : Tok a0 := Tok_R hT hTE hRg
  have hk0 : 0 ≤ tl 0 ∧ tl 0 ≤ 3 := hT.1 0 (by decide)
  refine M.run 2 (pc' := 2) (lv' := [some (vr o), some (vi x)]) (st' := [vi x, vr o]) rfl ?_
  refine M.callV (kX11_isBlock l G o am u a b x (by omega) (Mok_of ht hd (by omega) hR hF)) cv_X11_331 cd_X11_isBlock rfl (st := []) rfl (isM_o hM) (by decide) (by decide) rfl (Nat.zero_le _) (Nat.zero_le _) hM (fun r1 w2 q3 => ?_)
  rw [q3.1, q3.2]
  rw [hF 0 (Or.inl (by decide)), hTE.1 0 (by decide) (by decide) (by decide)]
  refine M.if_ne (tgt := 12) rfl (inI_zb _) (by decide) (fun h5 => ?_) (fun h5 => ?_)
  · skip
    replace h5 := zb_td h5
    have h05 := h5
    obtain ⟨c, rfl⟩ := Int.eq_ofNat_of_zero_le (show (0 : Int) ≤ x from h5.1)
    have hq46 := Dok_byt hd (x := c) (by omega)
    have hq12 : 0 ≤ tl (12 + c) ∧ tl (12 + c) ≤ 30 := Tok_len hT (x := c) (by omega)
    refine M.run 1 (pc' := 13) (lv' := [some (vr o), some (vi ((c : Nat) : Int))]) (st' := [vr o]) rfl ?_
    refine M.get fl_X11_7 rfl (isM_o hM) (kf := 0) (v := vr (am 0)) rfl ?_
    refine M.run 3 (pc' := 20) (lv' := [some (vr o), some (vi ((c : Nat) : Int))]) (st' := [vi (46 + ((c : Nat) : Int)), vr (am 0)]) rfl ?_
    refine M.ialdN (46 + c) rfl (isM_a hM) (by omega) (by decide) ?_
    rw [show a (46 + c) = D.1 (46 + c) from Rp_s hR (k := 46 + c) (by omega) (by omega) (by omega)]
    refine M.run 1 (pc' := 22) (lv' := [some (vr o), some (vi ((c : Nat) : Int))]) (st' := [vr o, vi (D.1 (46 + c))]) rfl ?_
    refine M.get fl_X11_7 rfl (isM_o hM) (kf := 0) (v := vr (am 0)) rfl ?_
    refine M.run 3 (pc' := 29) (lv' := [some (vr o), some (vi ((c : Nat) : Int))]) (st' := [vi (12 + ((c : Nat) : Int)), vr (am 0), vi (D.1 (46 + c))]) rfl ?_
    refine M.ialdN (12 + c) rfl (isM_a hM) (by omega) (by decide) ?_
    rw [show a (12 + c) = tl (12 + c) from (hF (12 + c) (Or.inl (by omega))).trans (hTE.1 (12 + c) (by omega) (by omega) (by omega))]
    refine M.icmp_le (tgt := 55) rfl (qI (by omega)) (qI (by omega)) (by decide) (fun h30 => ?_) (fun h30 => ?_)
    · skip
      refine M.run 1 (pc' := 56) (lv' := [some (vr o), some (vi ((c : Nat) : Int))]) (st' := [vi 0]) rfl ?_
      exact M.iret rfl (Nat.zero_le _) (Nat.zero_le _) ⟨reI ((if_pos h05).trans (if_neg (by show ¬ tl (12 + c) < D.1 (46 + c); omega))).symm, rfl⟩
    · skip
      refine M.run 1 (pc' := 34) (lv' := [some (vr o), some (vi ((c : Nat) : Int))]) (st' := [vr o]) rfl ?_
      refine M.get fl_X11_7 rfl (isM_o hM) (kf := 0) (v := vr (am 0)) rfl ?_
      refine M.run 3 (pc' := 41) (lv' := [some (vr o), some (vi ((c : Nat) : Int))]) (st' := [vi (46 + ((c : Nat) : Int)), vr (am 0)]) rfl ?_
      refine M.ialdN (46 + c) rfl (isM_a hM) (by omega) (by decide) ?_
      rw [show a (46 + c) = D.1 (46 + c) from Rp_s hR (k := 46 + c) (by omega) (by omega) (by omega)]
      refine M.run 1 (pc' := 43) (lv' := [some (vr o), some (vi ((c : Nat) : Int))]) (st' := [vr o, vi (D.1 (46 + c))]) rfl ?_
      refine M.get fl_X11_7 rfl (isM_o hM) (kf := 0) (v := vr (am 0)) rfl ?_
      refine M.run 3 (pc' := 50) (lv' := [some (vr o), some (vi ((c : Nat) : Int))]) (st' := [vi (12 + ((c : Nat) : Int)), vr (am 0), vi (D.1 (46 + c))]) rfl ?_
      refine M.ialdN (12 + c) rfl (isM_a hM) (by omega) (by decide) ?_
      rw [show a (12 + c) = tl (12 + c) from (hF (12 + c) (Or.inl (by omega))).trans (hTE.1 (12 + c) (by omega) (by omega) (by omega))]
      refine M.run 2 (pc' := 56) (lv' := [some (vr o), some (vi ((c : Nat) : Int))]) (st' := [vi ((D.1 (46 + c)) - (tl (12 + c)))]) rfl ?_
      exact M.iret rfl (Nat.zero_le _) (Nat.zero_le _) ⟨reI ((if_pos h05).trans (if_pos (by show tl (12 + c) < D.1 (46 + c); omega))).symm, rfl⟩
  · skip
    replace h5 := zb_fd h5
    refine M.run 2 (pc' := 56) (lv' := [some (vr o), some (vi x)]) (st' := [vi (-1)]) rfl ?_
    exact M.iret rfl (Nat.zero_le _) (Nat.zero_le _) ⟨reI (if_neg h5).symm, rfl⟩
set_option maxHeartbeats 4000000 in
set_option maxRecDepth 100000 in
theorem vX11_idle (l : Launch) (G : GT) (o : Nat) (am : Nat → Nat) (u tl : Nat → Int) (b0 : Nat → Nat → Int) (D : Dy) (L : List Dy) (n : Int) (hT : Tok tl) (hd : Dok n D) (hi : Inv D) (hc9 : D.1 18 ≤ 9999) (hL : Lok n L) (hn : 0 ≤ n ∧ n ≤ 800000000) (hu : u 23 = 0 ∨ u 23 = 1) (X : Nat → Int → Option Gn) (hX : TxOk (b0 2) X (tl 1) ∧ tl 2 < tl 1)  : Ctr l G yX11_idle cX11_idle 1 ((Option.some Jvm.ClassFile.FieldType.boolean)) 1 0 0 [vr o] (fun w => isT o am u tl b0 D L w) (fun w r w' => r = some (vi (zb (decide ((D.2.1 0).length + (D.2.1 1).length + D.2.2.1.length + D.2.2.2.1.length = 0)))) ∧ w' = w) := by
  refine Ctr.of (t := tX11_idle) (lv0 := [some (vr o)]) (by decide +kernel) tX11_idle_ok rfl rfl (fun w g hP M => ?_)
  obtain ⟨a0, ⟨a, b, hM, hR, hF, hB⟩, hTE, hRg⟩ := hP
  have ht : Tok a0 := Tok_R hT hTE hRg
  have hk_f := Dok_f hd
  have hk_t := Dok_t hd
  have hk_l_0 := Dok_l hd (s := 0) (by omega)
  have hk_l_1 := Dok_l hd (s := 1) (by omega)
  refine M.run 1 (pc' := 1) (lv' := [some (vr o)]) (st' := [vr o]) rfl ?_
  refine M.get fl_X11_7 rfl (isM_o hM) (kf := 0) (v := vr (am 0)) rfl ?_
  refine M.run 1 (pc' := 6) (lv' := [some (vr o)]) (st' := [vi 24, vr (am 0)]) rfl ?_
  refine M.ialdN (24) rfl (isM_a hM) (by decide) (by decide) ?_
  rw [show a 24 = (((D.2.1 0).length : Nat) : Int) from Rp_l hR (s := 0) (by decide)]
  refine M.run 1 (pc' := 8) (lv' := [some (vr o)]) (st' := [vr o, vi (((D.2.1 0).length : Nat) : Int)]) rfl ?_
  refine M.get fl_X11_7 rfl (isM_o hM) (kf := 0) (v := vr (am 0)) rfl ?_
  refine M.run 1 (pc' := 13) (lv' := [some (vr o)]) (st' := [vi 25, vr (am 0), vi (((D.2.1 0).length : Nat) : Int)]) rfl ?_
  refine M.ialdN (25) rfl (isM_a hM) (by decide) (by decide) ?_
  rw [show a 25 = (((D.2.1 1).length : Nat) : Int) from Rp_l hR (s := 1) (by decide)]
  refine M.run 2 (pc' := 16) (lv' := [some (vr o)]) (st' := [vr o, vi ((((D.2.1 0).length : Nat) : Int) + (((D.2.1 1).length : Nat) : Int))]) rfl ?_
  refine M.get fl_X11_7 rfl (isM_o hM) (kf := 0) (v := vr (am 0)) rfl ?_
  refine M.run 1 (pc' := 21) (lv' := [some (vr o)]) (st' := [vi 26, vr (am 0), vi ((((D.2.1 0).length : Nat) : Int) + (((D.2.1 1).length : Nat) : Int))]) rfl ?_
  refine M.ialdN (26) rfl (isM_a hM) (by decide) (by decide) ?_
  rw [show a 26 = ((D.2.2.1.length : Nat) : Int) from Rp_f hR]
  refine M.run 2 (pc' := 24) (lv' := [some (vr o)]) (st' := [vr o, vi (((((D.2.1 0).length : Nat) : Int) + (((D.2.1 1).length : Nat) : Int)) + ((D.2.2.1.length : Nat) : Int))]) rfl ?_
  refine M.get fl_X11_7 rfl (isM_o hM) (kf := 0) (v := vr (am 0)) rfl ?_
  refine M.run 1 (pc' := 29) (lv' := [some (vr o)]) (st' := [vi 27, vr (am 0), vi (((((D.2.1 0).length : Nat) : Int) + (((D.2.1 1).length : Nat) : Int)) + ((D.2.2.1.length : Nat) : Int))]) rfl ?_
  refine M.ialdN (27) rfl (isM_a hM) (by decide) (by decide) ?_
  rw [show a 27 = ((D.2.2.2.1.length : Nat) : Int) from Rp_t hR]
  refine M.run 1 (pc' := 31) (lv' := [some (vr o)]) (st' := [vi ((((((D.2.1 0).length : Nat) : Int) + (((D.2.1 1).length : Nat) : Int)) + ((D.2.2.1.length : Nat) : Int)) + ((D.2.2.2.1.length : Nat) : Int))]) rfl ?_
  refine M.if_ne (tgt := 38) rfl (qI (by omega)) (by decide) (fun h31 => ?_) (fun h31 => ?_)
  · skip
    refine M.run 1 (pc' := 39) (lv' := [some (vr o)]) (st' := [vi 0]) rfl ?_
    exact M.zret rfl (Or.inl rfl) (Nat.zero_le _) (Nat.zero_le _) ⟨reI (zbd (fun q => absurd q (by omega)) (fun _ => rfl)), rfl⟩
  · skip
    refine M.run 2 (pc' := 39) (lv' := [some (vr o)]) (st' := [vi 1]) rfl ?_
    exact M.zret rfl (Or.inr rfl) (Nat.zero_le _) (Nat.zero_le _) ⟨reI (zbd (fun _ => rfl) (fun q => absurd (by omega) q)), rfl⟩
set_option maxHeartbeats 4000000 in
set_option maxRecDepth 100000 in
theorem vX11_live (l : Launch) (G : GT) (o : Nat) (am : Nat → Nat) (u tl : Nat → Int) (b0 : Nat → Nat → Int) (D : Dy) (L : List Dy) (n : Int) (hT : Tok tl) (hd : Dok n D) (hi : Inv D) (hc9 : D.1 18 ≤ 9999) (hL : Lok n L) (hn : 0 ≤ n ∧ n ≤ 800000000) (hu : u 23 = 0 ∨ u 23 = 1) (X : Nat → Int → Option Gn) (hX : TxOk (b0 2) X (tl 1) ∧ tl 2 < tl 1)  : Ctr l G yX11_live cX11_live 3 ((Option.some Jvm.ClassFile.FieldType.int)) 2 0 0 [vr o] (fun w => isT o am u tl b0 D L w) (fun w r w' => r = some (vi (((mOrs (fun c => decide (D.1 (28 + c) = 1 ∧ D.1 (31 + c) = 0)) (tl 0).toNat : Nat) : Int))) ∧ w' = w) := by
  refine Ctr.of (t := tX11_live) (lv0 := [some (vr o), none, none]) (by decide +kernel) tX11_live_ok rfl rfl (fun w g hP M => ?_)
  obtain ⟨a0, ⟨a, b, hM, hR, hF, hB⟩, hTE, hRg⟩ := hP
  have ht : Tok a0 := Tok_R hT hTE hRg
  have hk0 : 0 ≤ tl 0 ∧ tl 0 ≤ 3 := hT.1 0 (by decide)
  refine M.run 4 (pc' := 4) (lv' := [some (vr o), some (vi 0), some (vi 0)]) (st' := []) rfl ?_
  have Lp4 : ∀ (N : Nat) (m : Nat) (c : Nat), (m = mOrs (fun c => decide (D.1 (28 + c) = 1 ∧ D.1 (31 + c) = 0)) c) → (((c : Nat) : Int) ≤ tl 0) → (tl 0).toNat - c < N → g 0 0 w 4 [some (vr o), some (vi ((m : Nat) : Int)), some (vi ((c : Nat) : Int))] [] := by
    intro N
    induction N with
    | zero => intro m c _ _ hN; exact absurd hN (Nat.not_lt_zero _)
    | succ N ih4 =>
      intro m c hm hk hN
      refine M.run 2 (pc' := 6) (lv' := [some (vr o), some (vi ((m : Nat) : Int)), some (vi ((c : Nat) : Int))]) (st' := [vr o, vi ((c : Nat) : Int)]) rfl ?_
      refine M.get fl_X11_7 rfl (isM_o hM) (kf := 0) (v := vr (am 0)) rfl ?_
      refine M.run 1 (pc' := 10) (lv' := [some (vr o), some (vi ((m : Nat) : Int)), some (vi ((c : Nat) : Int))]) (st' := [vi 0, vr (am 0), vi ((c : Nat) : Int)]) rfl ?_
      refine M.ialdN (0) rfl (isM_a hM) (by decide) (by decide) ?_
      rw [show a 0 = tl 0 from (hF 0 (Or.inl (by decide))).trans (hTE.1 0 (by decide) (by decide) (by decide))]
      refine M.icmp_ge (tgt := 49) rfl (qI (by omega)) (qI (by omega)) (by decide) (fun h11 => ?_) (fun h11 => ?_)
      · skip
        refine M.run 1 (pc' := 50) (lv' := [some (vr o), some (vi ((m : Nat) : Int)), some (vi ((c : Nat) : Int))]) (st' := [vi ((m : Nat) : Int)]) rfl ?_
        exact M.iret rfl (Nat.zero_le _) (Nat.zero_le _) ⟨reI (by rw [hm, show (tl 0).toNat = c by omega]), rfl⟩
      · skip
        have hwb := Dok_how hd (x := c) (by omega)
        have hwb2 := Dok_how hd (x := 3 + c) (by omega)
        rw [show 28 + (3 + c) = 31 + c by omega] at hwb2
        have hml := mOrs_lt (fun c => decide (D.1 (28 + c) = 1 ∧ D.1 (31 + c) = 0)) c (by omega)
        refine M.run 4 (pc' := 18) (lv' := [some (vr o), some (vi ((m : Nat) : Int)), some (vi ((c : Nat) : Int))]) (st' := [vi 0, vi ((c : Nat) : Int), vr o, vi ((m : Nat) : Int)]) rfl ?_
        refine M.callV (eX11_howAt l G o am u a0 b0 D _ ht hd (by omega) c (by omega) 0 (by omega)) cv_X11_334 cd_X11_howAt rfl (st := [vi ((m : Nat) : Int)]) rfl (isM_o hM) (by decide) (by decide) rfl (Nat.zero_le _) (Nat.zero_le _) ⟨_, _, hM, hR, hF, hB⟩ (fun r1 w2 q3 => ?_)
        rw [q3.1, q3.2]
        rw [show D.1 (28 + 3 * 0 + c) = D.1 (28 + c) from rfl]
        refine M.run 1 (pc' := 22) (lv' := [some (vr o), some (vi ((m : Nat) : Int)), some (vi ((c : Nat) : Int))]) (st' := [vi 1, vi (D.1 (28 + c)), vi ((m : Nat) : Int)]) rfl ?_
        refine M.icmp_ne (tgt := 40) rfl (qI (by omega)) (qI (by decide)) (by decide) (fun h22 => ?_) (fun h22 => ?_)
        · skip
          have hlv : ¬ (fun c => decide (D.1 (28 + c) = 1 ∧ D.1 (31 + c) = 0)) c = true := fun q => h22 (of_decide_eq_true q).1
          refine M.run 1 (pc' := 41) (lv' := [some (vr o), some (vi ((m : Nat) : Int)), some (vi ((c : Nat) : Int))]) (st' := [vi 0, vi ((m : Nat) : Int)]) rfl ?_
          refine M.ior (b1 := m) (b2 := 0) rfl (by omega) (by omega) ?_
          refine M.run 3 (pc' := 4) (lv' := [some (vr o), some (vi ((m ||| 0 : Nat) : Int)), some (vi (((c : Nat) : Int) + 1))]) (st' := []) rfl ?_
          exact ih4 (m ||| 0) (c + 1) (by rw [hm]; exact (mOrs_n hlv).symm) (by omega) (by omega)
        · skip
          refine M.run 3 (pc' := 28) (lv' := [some (vr o), some (vi ((m : Nat) : Int)), some (vi ((c : Nat) : Int))]) (st' := [vi 1, vi ((c : Nat) : Int), vr o, vi ((m : Nat) : Int)]) rfl ?_
          refine M.callV (eX11_howAt l G o am u a0 b0 D _ ht hd (by omega) c (by omega) 1 (by omega)) cv_X11_334 cd_X11_howAt rfl (st := [vi ((m : Nat) : Int)]) rfl (isM_o hM) (by decide) (by decide) rfl (Nat.zero_le _) (Nat.zero_le _) ⟨_, _, hM, hR, hF, hB⟩ (fun r5 w6 q7 => ?_)
          rw [q7.1, q7.2]
          rw [show D.1 (28 + 3 * 1 + c) = D.1 (31 + c) from rfl]
          refine M.if_ne (tgt := 40) rfl (qI (by omega)) (by decide) (fun h31 => ?_) (fun h31 => ?_)
          · skip
            have hlv : ¬ (fun c => decide (D.1 (28 + c) = 1 ∧ D.1 (31 + c) = 0)) c = true := fun q => h31 (of_decide_eq_true q).2
            refine M.run 1 (pc' := 41) (lv' := [some (vr o), some (vi ((m : Nat) : Int)), some (vi ((c : Nat) : Int))]) (st' := [vi 0, vi ((m : Nat) : Int)]) rfl ?_
            refine M.ior (b1 := m) (b2 := 0) rfl (by omega) (by omega) ?_
            refine M.run 3 (pc' := 4) (lv' := [some (vr o), some (vi ((m ||| 0 : Nat) : Int)), some (vi (((c : Nat) : Int) + 1))]) (st' := []) rfl ?_
            exact ih4 (m ||| 0) (c + 1) (by rw [hm]; exact (mOrs_n hlv).symm) (by omega) (by omega)
          · skip
            have hlv : (fun c => decide (D.1 (28 + c) = 1 ∧ D.1 (31 + c) = 0)) c = true := decide_eq_true (And.intro h22 h31)
            have hsl : 1 <<< c < 256 := by rw [Nat.one_shiftLeft]; exact Nat.pow_lt_pow_right (m := c) (n := 8) (by decide) (by omega)
            refine M.run 2 (pc' := 36) (lv' := [some (vr o), some (vi ((m : Nat) : Int)), some (vi ((c : Nat) : Int))]) (st' := [vi ((c : Nat) : Int), vi 1, vi ((m : Nat) : Int)]) rfl ?_
            refine M.ishl (b1 := 1) (b2 := c) rfl (by omega) ?_
            refine M.run 1 (pc' := 41) (lv' := [some (vr o), some (vi ((m : Nat) : Int)), some (vi ((c : Nat) : Int))]) (st' := [vi ((1 <<< c : Nat) : Int), vi ((m : Nat) : Int)]) rfl ?_
            refine M.ior (b1 := m) (b2 := 1 <<< c) rfl (by omega) (by omega) ?_
            refine M.run 3 (pc' := 4) (lv' := [some (vr o), some (vi ((m ||| (1 <<< c) : Nat) : Int)), some (vi (((c : Nat) : Int) + 1))]) (st' := []) rfl ?_
            exact ih4 (m ||| (1 <<< c)) (c + 1) (by rw [hm]; exact (mOrs_y hlv).symm) (by omega) (by omega)
  exact Lp4 _ 0 0 rfl (by omega) (Nat.lt_succ_self _)
set_option maxHeartbeats 4000000 in
set_option maxRecDepth 100000 in
theorem vX11_honest (l : Launch) (G : GT) (o : Nat) (am : Nat → Nat) (u tl : Nat → Int) (b0 : Nat → Nat → Int) (D : Dy) (L : List Dy) (n : Int) (hT : Tok tl) (hd : Dok n D) (hi : Inv D) (hc9 : D.1 18 ≤ 9999) (hL : Lok n L) (hn : 0 ≤ n ∧ n ≤ 800000000) (hu : u 23 = 0 ∨ u 23 = 1) (X : Nat → Int → Option Gn) (hX : TxOk (b0 2) X (tl 1) ∧ tl 2 < tl 1)  : Ctr l G yX11_honest cX11_honest 2 ((Option.some Jvm.ClassFile.FieldType.boolean)) 1 0 0 [vr o] (fun w => isT o am u tl b0 D L w) (fun w r w' => r = some (vi (zb (mAll (fun c => decide (bDf (D.1 (34 + c)).toNat (D.1 (37 + c)).toNat = 0)) (tl 0).toNat))) ∧ w' = w) := by
  refine Ctr.of (t := tX11_honest) (lv0 := [some (vr o), none]) (by decide +kernel) tX11_honest_ok rfl rfl (fun w g hP M => ?_)
  obtain ⟨a0, ⟨a, b, hM, hR, hF, hB⟩, hTE, hRg⟩ := hP
  have ht : Tok a0 := Tok_R hT hTE hRg
  have hk0 : 0 ≤ tl 0 ∧ tl 0 ≤ 3 := hT.1 0 (by decide)
  refine M.run 2 (pc' := 2) (lv' := [some (vr o), some (vi 0)]) (st' := []) rfl ?_
  have Lp2 : ∀ (N : Nat) (c : Nat), (mAll (fun c => decide (bDf (D.1 (34 + c)).toNat (D.1 (37 + c)).toNat = 0)) c = true) → (((c : Nat) : Int) ≤ tl 0) → (tl 0).toNat - c < N → g 0 0 w 2 [some (vr o), some (vi ((c : Nat) : Int))] [] := by
    intro N
    induction N with
    | zero => intro c _ _ hN; exact absurd hN (Nat.not_lt_zero _)
    | succ N ih2 =>
      intro c hm hk hN
      refine M.run 2 (pc' := 4) (lv' := [some (vr o), some (vi ((c : Nat) : Int))]) (st' := [vr o, vi ((c : Nat) : Int)]) rfl ?_
      refine M.get fl_X11_7 rfl (isM_o hM) (kf := 0) (v := vr (am 0)) rfl ?_
      refine M.run 1 (pc' := 8) (lv' := [some (vr o), some (vi ((c : Nat) : Int))]) (st' := [vi 0, vr (am 0), vi ((c : Nat) : Int)]) rfl ?_
      refine M.ialdN (0) rfl (isM_a hM) (by decide) (by decide) ?_
      rw [show a 0 = tl 0 from (hF 0 (Or.inl (by decide))).trans (hTE.1 0 (by decide) (by decide) (by decide))]
      refine M.icmp_ge (tgt := 44) rfl (qI (by omega)) (qI (by omega)) (by decide) (fun h9 => ?_) (fun h9 => ?_)
      · skip
        refine M.run 1 (pc' := 45) (lv' := [some (vr o), some (vi ((c : Nat) : Int))]) (st' := [vi 1]) rfl ?_
        exact M.zret rfl (Or.inr rfl) (Nat.zero_le _) (Nat.zero_le _) ⟨reI (by rw [show (tl 0).toNat = c by omega, hm]; rfl), rfl⟩
      · skip
        have hq34 := Dok_clm hd (x := c) (by omega)
        have hq37 := Dok_com hd (x := c) (by omega)
        refine M.run 1 (pc' := 13) (lv' := [some (vr o), some (vi ((c : Nat) : Int))]) (st' := [vr o]) rfl ?_
        refine M.get fl_X11_7 rfl (isM_o hM) (kf := 0) (v := vr (am 0)) rfl ?_
        refine M.run 3 (pc' := 20) (lv' := [some (vr o), some (vi ((c : Nat) : Int))]) (st' := [vi (34 + ((c : Nat) : Int)), vr (am 0)]) rfl ?_
        refine M.ialdN (34 + c) rfl (isM_a hM) (by omega) (by decide) ?_
        rw [show a (34 + c) = D.1 (34 + c) from Rp_s hR (k := 34 + c) (by omega) (by omega) (by omega)]
        rw [show D.1 (34 + c) = (((D.1 (34 + c)).toNat : Nat) : Int) from (Int.toNat_of_nonneg (by omega)).symm]
        refine M.run 1 (pc' := 22) (lv' := [some (vr o), some (vi ((c : Nat) : Int))]) (st' := [vr o, vi (((D.1 (34 + c)).toNat : Nat) : Int)]) rfl ?_
        refine M.get fl_X11_7 rfl (isM_o hM) (kf := 0) (v := vr (am 0)) rfl ?_
        refine M.run 3 (pc' := 29) (lv' := [some (vr o), some (vi ((c : Nat) : Int))]) (st' := [vi (37 + ((c : Nat) : Int)), vr (am 0), vi (((D.1 (34 + c)).toNat : Nat) : Int)]) rfl ?_
        refine M.ialdN (37 + c) rfl (isM_a hM) (by omega) (by decide) ?_
        rw [show a (37 + c) = D.1 (37 + c) from Rp_s hR (k := 37 + c) (by omega) (by omega) (by omega)]
        rw [show D.1 (37 + c) = (((D.1 (37 + c)).toNat : Nat) : Int) from (Int.toNat_of_nonneg (by omega)).symm]
        refine M.run 1 (pc' := 31) (lv' := [some (vr o), some (vi ((c : Nat) : Int))]) (st' := [vi (-1), vi (((D.1 (37 + c)).toNat : Nat) : Int), vi (((D.1 (34 + c)).toNat : Nat) : Int)]) rfl ?_
        refine M.ixm1 (b1 := (D.1 (37 + c)).toNat) rfl ?_
        refine M.iandn (b1 := (D.1 (34 + c)).toNat) (b2 := (D.1 (37 + c)).toNat) rfl (by omega) (by omega) ?_
        have hbd : bDf (D.1 (34 + c)).toNat (D.1 (37 + c)).toNat < 1073741824 := bDf_lt30 (by omega)
        refine M.if_eq (tgt := 38) rfl (qI (by omega)) (by decide) (fun h33 => ?_) (fun h33 => ?_)
        · skip
          refine M.run 2 (pc' := 2) (lv' := [some (vr o), some (vi (((c : Nat) : Int) + 1))]) (st' := []) rfl ?_
          exact ih2 (c + 1) (mAll_s hm (decide_eq_true (Int.ofNat_eq_zero.mp h33))) (by omega) (by omega)
        · skip
          refine M.run 1 (pc' := 37) (lv' := [some (vr o), some (vi ((c : Nat) : Int))]) (st' := [vi 0]) rfl ?_
          exact M.zret rfl (Or.inl rfl) (Nat.zero_le _) (Nat.zero_le _) ⟨reI (by rw [mAll_f (k := c) (decide_eq_false (fun q => h33 (congrArg (fun z : Nat => ((z : Nat) : Int)) q))) _ (by omega)]; rfl), rfl⟩
  exact Lp2 _ 0 rfl (by omega) (Nat.lt_succ_self _)
set_option maxHeartbeats 4000000 in
set_option maxRecDepth 100000 in
theorem vX11_soonest (l : Launch) (G : GT) (o : Nat) (am : Nat → Nat) (u tl : Nat → Int) (b0 : Nat → Nat → Int) (D : Dy) (L : List Dy) (n : Int) (hT : Tok tl) (hd : Dok n D) (hi : Inv D) (hc9 : D.1 18 ≤ 9999) (hL : Lok n L) (hn : 0 ≤ n ∧ n ≤ 800000000) (hu : u 23 = 0 ∨ u 23 = 1) (X : Nat → Int → Option Gn) (hX : TxOk (b0 2) X (tl 1) ∧ tl 2 < tl 1)  : Ctr l G yX11_soonest cX11_soonest 3 ((Option.some Jvm.ClassFile.FieldType.int)) 2 0 0 [vr o] (fun w => isT o am u tl b0 D L w) (fun w r w' => r = some (vi (mSoon D.2.2.1 D.2.2.1.length)) ∧ w' = w) := by
  refine Ctr.of (t := tX11_soonest) (lv0 := [some (vr o), none, none]) (by decide +kernel) tX11_soonest_ok rfl rfl (fun w g hP M => ?_)
  obtain ⟨a0, ⟨a, b, hM, hR, hF, hB⟩, hTE, hRg⟩ := hP
  have ht : Tok a0 := Tok_R hT hTE hRg
  have hk_f := Dok_f hd
  have hsb := mSoon_b hd.2.2.1.2
  refine M.run 4 (pc' := 4) (lv' := [some (vr o), some (vi (-1)), some (vi 0)]) (st' := []) rfl ?_
  have Lp4 : ∀ (N : Nat) (z : Int) (i : Nat), (z = mSoon D.2.2.1 i) → (i ≤ D.2.2.1.length) → D.2.2.1.length - i < N → g 0 0 w 4 [some (vr o), some (vi z), some (vi ((i : Nat) : Int))] [] := by
    intro N
    induction N with
    | zero => intro z i _ _ hN; exact absurd hN (Nat.not_lt_zero _)
    | succ N ih4 =>
      intro z i hz hil hN
      refine M.run 2 (pc' := 6) (lv' := [some (vr o), some (vi z), some (vi ((i : Nat) : Int))]) (st' := [vr o, vi ((i : Nat) : Int)]) rfl ?_
      refine M.get fl_X11_7 rfl (isM_o hM) (kf := 0) (v := vr (am 0)) rfl ?_
      refine M.run 1 (pc' := 11) (lv' := [some (vr o), some (vi z), some (vi ((i : Nat) : Int))]) (st' := [vi 26, vr (am 0), vi ((i : Nat) : Int)]) rfl ?_
      refine M.ialdN (26) rfl (isM_a hM) (by decide) (by decide) ?_
      rw [show a 26 = ((D.2.2.1.length : Nat) : Int) from Rp_f hR]
      refine M.icmp_ge (tgt := 55) rfl (qI (by omega)) (qI (by omega)) (by decide) (fun h12 => ?_) (fun h12 => ?_)
      · skip
        refine M.run 1 (pc' := 56) (lv' := [some (vr o), some (vi z), some (vi ((i : Nat) : Int))]) (st' := [vi z]) rfl ?_
        exact M.iret rfl (Nat.zero_le _) (Nat.zero_le _) ⟨reI (by rw [hz, show i = D.2.2.1.length by omega]), rfl⟩
      · skip
        have hzb := hsb i hil
        rw [← hz] at hzb
        obtain ⟨q0, q1, q2, q3, q4, q5, q6, q7, q8, q9⟩ := Dok_fr hd (i := i) (by omega)
        have hss : mSoon D.2.2.1 (i + 1) = if z = -1 ∨ gR D.2.2.1 i 7 < z then gR D.2.2.1 i 7 else z := by rw [hz]; rfl
        refine M.run 2 (pc' := 17) (lv' := [some (vr o), some (vi z), some (vi ((i : Nat) : Int))]) (st' := [vi (-1), vi z]) rfl ?_
        refine M.icmp_eq (tgt := 36) rfl (qI (by omega)) (qI (by decide)) (by decide) (fun h17 => ?_) (fun h17 => ?_)
        · skip
          refine M.run 1 (pc' := 37) (lv' := [some (vr o), some (vi z), some (vi ((i : Nat) : Int))]) (st' := [vr o]) rfl ?_
          refine M.get fl_X11_7 rfl (isM_o hM) (kf := 0) (v := vr (am 0)) rfl ?_
          refine M.run 1 (pc' := 41) (lv' := [some (vr o), some (vi z), some (vi ((i : Nat) : Int))]) (st' := [vi ((i : Nat) : Int), vr (am 0)]) rfl ?_
          refine M.callS (kX11_flightAt l G i (by omega)) cs_X11_298 cd_X11_flightAt rfl (st := [vr (am 0)]) rfl (by decide) (by decide) rfl (Nat.zero_le _) (Nat.zero_le _) trivial (fun r1 w2 q3 => ?_)
          rw [q3.1, q3.2]
          refine M.run 2 (pc' := 47) (lv' := [some (vr o), some (vi z), some (vi ((i : Nat) : Int))]) (st' := [vi (((385 + 9 * i : Nat) : Int) + 7), vr (am 0)]) rfl ?_
          refine M.ialdN (385 + 9 * i + 7) rfl (isM_a hM) (by omega) (by decide) ?_
          rw [show a (385 + 9 * i + 7) = gR D.2.2.1 i 7 from Rp_fr hR (i := i) (k := 7) (by omega) (by decide)]
          refine M.run 1 (pc' := 49) (lv' := [some (vr o), some (vi (gR D.2.2.1 i 7)), some (vi ((i : Nat) : Int))]) (st' := []) rfl ?_
          have hz2 : gR D.2.2.1 i 7 = mSoon D.2.2.1 (i + 1) := by rw [hss, if_pos (by omega)]
          refine M.run 2 (pc' := 4) (lv' := [some (vr o), some (vi (gR D.2.2.1 i 7)), some (vi (((i : Nat) : Int) + 1))]) (st' := []) rfl ?_
          exact ih4 (gR D.2.2.1 i 7) (i + 1) hz2 (by omega) (by omega)
        · skip
          refine M.run 1 (pc' := 21) (lv' := [some (vr o), some (vi z), some (vi ((i : Nat) : Int))]) (st' := [vr o]) rfl ?_
          refine M.get fl_X11_7 rfl (isM_o hM) (kf := 0) (v := vr (am 0)) rfl ?_
          refine M.run 1 (pc' := 25) (lv' := [some (vr o), some (vi z), some (vi ((i : Nat) : Int))]) (st' := [vi ((i : Nat) : Int), vr (am 0)]) rfl ?_
          refine M.callS (kX11_flightAt l G i (by omega)) cs_X11_298 cd_X11_flightAt rfl (st := [vr (am 0)]) rfl (by decide) (by decide) rfl (Nat.zero_le _) (Nat.zero_le _) trivial (fun r5 w6 q7 => ?_)
          rw [q7.1, q7.2]
          refine M.run 2 (pc' := 31) (lv' := [some (vr o), some (vi z), some (vi ((i : Nat) : Int))]) (st' := [vi (((385 + 9 * i : Nat) : Int) + 7), vr (am 0)]) rfl ?_
          refine M.ialdN (385 + 9 * i + 7) rfl (isM_a hM) (by omega) (by decide) ?_
          rw [show a (385 + 9 * i + 7) = gR D.2.2.1 i 7 from Rp_fr hR (i := i) (k := 7) (by omega) (by decide)]
          refine M.run 1 (pc' := 33) (lv' := [some (vr o), some (vi z), some (vi ((i : Nat) : Int))]) (st' := [vi z, vi (gR D.2.2.1 i 7)]) rfl ?_
          refine M.icmp_ge (tgt := 49) rfl (qI (by omega)) (qI (by omega)) (by decide) (fun h33 => ?_) (fun h33 => ?_)
          · skip
            have hz2 : z = mSoon D.2.2.1 (i + 1) := by rw [hss, if_neg (by omega)]
            refine M.run 2 (pc' := 4) (lv' := [some (vr o), some (vi z), some (vi (((i : Nat) : Int) + 1))]) (st' := []) rfl ?_
            exact ih4 z (i + 1) hz2 (by omega) (by omega)
          · skip
            refine M.run 1 (pc' := 37) (lv' := [some (vr o), some (vi z), some (vi ((i : Nat) : Int))]) (st' := [vr o]) rfl ?_
            refine M.get fl_X11_7 rfl (isM_o hM) (kf := 0) (v := vr (am 0)) rfl ?_
            refine M.run 1 (pc' := 41) (lv' := [some (vr o), some (vi z), some (vi ((i : Nat) : Int))]) (st' := [vi ((i : Nat) : Int), vr (am 0)]) rfl ?_
            refine M.callS (kX11_flightAt l G i (by omega)) cs_X11_298 cd_X11_flightAt rfl (st := [vr (am 0)]) rfl (by decide) (by decide) rfl (Nat.zero_le _) (Nat.zero_le _) trivial (fun r9 w10 q11 => ?_)
            rw [q11.1, q11.2]
            refine M.run 2 (pc' := 47) (lv' := [some (vr o), some (vi z), some (vi ((i : Nat) : Int))]) (st' := [vi (((385 + 9 * i : Nat) : Int) + 7), vr (am 0)]) rfl ?_
            refine M.ialdN (385 + 9 * i + 7) rfl (isM_a hM) (by omega) (by decide) ?_
            rw [show a (385 + 9 * i + 7) = gR D.2.2.1 i 7 from Rp_fr hR (i := i) (k := 7) (by omega) (by decide)]
            refine M.run 1 (pc' := 49) (lv' := [some (vr o), some (vi (gR D.2.2.1 i 7)), some (vi ((i : Nat) : Int))]) (st' := []) rfl ?_
            have hz2 : gR D.2.2.1 i 7 = mSoon D.2.2.1 (i + 1) := by rw [hss, if_pos (by omega)]
            refine M.run 2 (pc' := 4) (lv' := [some (vr o), some (vi (gR D.2.2.1 i 7)), some (vi (((i : Nat) : Int) + 1))]) (st' := []) rfl ?_
            exact ih4 (gR D.2.2.1 i 7) (i + 1) hz2 (by omega) (by omega)
  exact Lp4 _ (-1) 0 rfl (Nat.zero_le _) (Nat.lt_succ_self _)
