/-! blocks that are not told stay new -/
section QZZ
variable {D : Dy} {a0 : Nat → Int} {n sure : Int} {X : Nat → Int → Option Gn} {b c s : Nat}
theorem z_pieces {ck : Int} : ∀ (L : List (Nat × Nat)) (D : Dy), (mPieces b ck L D).1 = D.1
  | [], D => rfl
  | q :: [], D => mPut_1 _ _ _
  | q :: q2 :: t, D => (z_pieces (q2 :: t) _).trans (mPut_1 _ _ _)
theorem z_red {bits j : Nat} (hj : j < 40) : (mRed a0 b bits D).1 j = D.1 j := by
  unfold mRed
  split
  · rfl
  · rw [z_pieces, mS_o (by omega)]
theorem z_gotData {f t j : Nat} {serial : Int} (hj : j < 34) : (mGotData a0 b serial f t D).1 j = D.1 j := by
  by_cases h : D.1 (31 + b) = 3
  · rw [mGotData_a h]
  · by_cases h2 : serial = 0
    · rw [mGotData_b h h2, mS_o (by omega)]
    · rw [mGotData_c h h2, mPut_1, mS_o (by omega), mS_o (by omega)]
theorem z_gotReport {claims : Nat} {serial check : Int} (hc : c < 3) (h : D.1 (28 + c) = 0) : (mGotReport a0 b serial check claims D).1 (28 + c) = 0 := by
  have h1 : (gr1 b serial check D).1 = D.1 := gr1_1
  by_cases e : D.1 (28 + b) = 1
  · have hbc : c ≠ b := fun z => by rw [z, e] at h; exact absurd h (by decide)
    by_cases h2 : mMiss a0 b ((D.1 (34 + b)).toNat ||| claims) = 0
    · rw [mGotReport_b e h2, mChecks_1]
      show uN (mS (34 + b) _ (gr1 b serial check D)).1 (28 + b) 2 (28 + c) = 0
      rw [uN_o (by omega), mS_o (by omega), h1]
      exact h
    · by_cases h3 : check = D.1 (40 + b)
      · rw [mGotReport_c e h2 h3, z_red (by omega), mS_o (by omega), h1]; exact h
      · rw [mGotReport_d e h2 h3, mS_o (by omega), h1]; exact h
  · rw [mGotReport_a e, h1]; exact h
theorem z_gotCancel (hs : s < 2) (hb : b < 3) (hc : c < 3) (h : D.1 (28 + c) = 0) : (mGotCancel s b D).1 (28 + c) = 0 := by
  unfold mGotCancel
  rw [mPut_1]
  split
  · next q =>
    show uN D.1 (28 + 3 * s + b) 3 (28 + c) = 0
    rw [uN_o (fun z => by
      have e : b = c ∧ s = 0 := by omega
      rw [e.1] at q
      rcases q with q | q
      · omega
      · omega)]
    exact h
  · exact h
theorem z_got {i : Nat} (hd : Dok n D) (hi : i < D.2.2.1.length) (hc : c < 3) (h : D.1 (28 + c) = 0) : (mGot a0 i D).1 (28 + c) = 0 := by
  obtain ⟨h0, h1, h2, h3, h4, h5, h6, h7, h8, h9⟩ := Dok_fr hd hi
  have hF : (mF1 i D).1 (28 + c) = 0 := h
  by_cases e0 : gR D.2.2.1 i 0 = 0
  · rw [mGot_0 e0, z_gotData (by omega)]; exact h
  by_cases e1 : gR D.2.2.1 i 0 = 1
  · rw [mGot_1 e0 e1]; exact z_gotReport hc hF
  by_cases e2 : gR D.2.2.1 i 0 = 2
  · rw [mGot_2 e0 e1 e2]; exact h
  by_cases e3 : gR D.2.2.1 i 0 = 3
  · rw [mGot_3 e0 e1 e2 e3]; exact z_gotCancel (by omega) (by omega) hc hF
  rw [mGot_4 e0 e1 e2 e3]; exact h
theorem z_gots (ht : Tok a0) (hc : c < 3) : ∀ (k i : Nat) {n : Int} {D : Dy}, Dok n D → D.1 (28 + c) = 0 → (mGots a0 k i D).1 (28 + c) = 0
  | 0, _, n, D, hd, h => h
  | k + 1, i, n, D, hd, h => by
    unfold mGots
    split
    · rename_i hi
      split
      · exact z_gots ht hc k i (Dok_got ht hd hi) (z_got hd hi hc h)
      · exact z_gots ht hc k (i + 1) hd h
    · exact h
theorem z_s2 {r : Rw} {j : Nat} (hj : 22 < j) : (mS2 X a0 sure s r D).1 j = D.1 j := by
  have ha : (mAnew D).1 j = D.1 j := mS_o (by omega)
  unfold mS2
  split
  · split
    · show (mS 22 _ (mAnew D)).1 j = _
      rw [mS_o (by omega), ha]
    · exact ha
  · rfl
theorem z_timer {j : Nat} : (mTimer X a0 s D).1 j = D.1 j := by unfold mTimer; split <;> rfl
theorem z_snd {j : Nat} (hj : 22 < j) (hj2 : j < 46) : (mSnd X a0 sure s D).1 j = D.1 j := by
  unfold mSnd
  split
  · show (mS3 X a0 s (gR (D.2.1 s) 0) (mS2 X a0 sure s (gR (D.2.1 s) 0) (mS1 s D))).1 j = _
    have e : (mS2 X a0 sure s (gR (D.2.1 s) 0) (mS1 s D)).1 j = D.1 j := by rw [z_s2 hj, mS1_k hj2 (by omega)]
    unfold mS3
    split
    · rw [z_timer, e]
    · exact e
  · rfl
theorem z_cancel (hs : s < 2) (hb : b < 3) (hc : c < 3) (hm : D.1 (28 + b) = 1) (h : D.1 (28 + c) = 0) : (mCancel b s D).1 (28 + c) = 0 := by
  unfold mCancel
  rw [mPut_1]
  show uN D.1 (28 + 3 * s + b) 3 (28 + c) = 0
  rw [uN_o (fun z => by
    have e : b = c := by omega
    rw [e, h] at hm
    exact absurd hm (by decide))]
  exact h
theorem z_ringOne {i : Nat} (hd : Dok n D) (hi : i < D.2.2.2.1.length) (hc : c < 3) (h : D.1 (28 + c) = 0) : (mRingOne a0 i D).1 (28 + c) = 0 := by
  obtain ⟨h0, h1, h2, h3, h4, h5, h6, h7, h8, h9⟩ := Dok_tr hd hi
  unfold mRingOne
  simp only []
  split
  · rw [mPut_1]; exact h
  · split
    · next q => exact z_cancel (D := mNote (rwB (D.1 18) 5 (gR D.2.2.2.1 i 1) (gR D.2.2.2.1 i 0)) (D.1, D.2.1, D.2.2.1, D.2.2.2.1.eraseIdx i, D.2.2.2.2)) (by omega) (by omega) hc q.2.1 h
    · exact h
theorem z_rings (ht : Tok a0) (hc : c < 3) : ∀ (k : Nat) {D : Dy}, Dok n D → D.1 (28 + c) = 0 → (mRings a0 k D).1 (28 + c) = 0
  | 0, D, _, h => h
  | k + 1, D, hd, h => by
    unfold mRings
    split
    · rename_i hi
      exact z_rings ht hc k (Dok_ringOne ht hd hi) (z_ringOne hd hi hc h)
    · exact h
theorem z_tick (ht : Tok a0) (hd : Dok n D) (hf : (mGet a0 D).2.2.1.length ≤ 38) (h20 : D.1 20 < 10400) (hc : c < 3) (h : D.1 (28 + c) = 0) : (mTick X a0 sure D).1 (28 + c) = 0 := by
  have h1 : (mGet a0 D).1 (28 + c) = 0 := z_gots ht hc _ _ hd h
  have hd1 : Dok (n + 40) (mGet a0 D) := Dok_mono (by have := Dok_f hd; omega) (Dok_gots ht D.2.2.1.length 0 hd)
  have e20 : (mGet a0 D).1 20 = D.1 20 := mGots_k (by decide) _ _
  have hd2 := Dok_see (X := X) (sure := sure) ht hd1 hf (by omega)
  have h2 : (mSee X a0 sure (mGet a0 D)).1 (28 + c) = 0 := by
    unfold mSee
    rw [mS_o (by omega), z_snd (by omega) (by omega), z_snd (by omega) (by omega)]
    exact h1
  unfold mTick
  split
  · rw [mS_o (by omega)]; exact z_rings ht hc 16 hd2 h2
  · rw [mS_o (by omega)]; exact h1
theorem z_open (hbc : c ≠ b) (hc : c < 3) (h : D.1 (28 + c) = 0) : (mOpen a0 b D).1 (28 + c) = 0 := by
  have e : (mPieces b 0 (bPs (bIn (a0 (15 + b)).toNat (a0 (12 + b)).toNat) (a0 7).toNat) (mRed a0 b (mRedOf a0 b) (mNote (rwB (D.1 18) 0 b 0) (mS (28 + b) 1 D)))).1 (28 + c) = 0 := by
    rw [z_pieces, z_red (by omega)]
    show uN D.1 (28 + b) 1 (28 + c) = 0
    rw [uN_o (by omega)]
    exact h
  unfold mOpen
  simp only []
  split
  · show uN _ (28 + b) 2 (28 + c) = 0
    rw [uN_o (by omega)]
    exact e
  · exact e
end QZZ
/-- what the class keeps besides, of a state -/
def Kok (tl : Nat → Int) (D : Dy) : Prop := Jok D ∧ ∀ b : Nat, b < 3 → tl 0 ≤ ((b : Nat) : Int) → D.1 (28 + b) = 0
section QKO
variable {D : Dy} {tl : Nat → Int} {n sure : Int} {X : Nat → Int → Option Gn} {b s : Nat}
theorem Kok_tick (ht : Tok tl) (hd : Dok n D) (hi : Inv D) (h9 : D.1 18 < 10400) (h : Kok tl D) : Kok tl (mTick X tl sure D) := ⟨Jok_tick ht hd h.1 (Inv_38 hi) (by have := hi.1; omega), fun c hc hc2 => z_tick ht hd (Inv_38 hi) (by have := hi.1; omega) hc (h.2 c hc hc2)⟩
theorem Kok_open (hd : Dok n D) (hb : ((b : Nat) : Int) < tl 0) (hb3 : b < 3) (h : Kok tl D) : Kok tl (mOpen tl b D) := ⟨Jok_open h.1 hb3 (Dok_cnt hd (x := b) (by omega)).1, fun c hc hc2 => z_open (by omega) hc (h.2 c hc hc2)⟩
theorem Kok_cancel (hb3 : b < 3) (hs : s < 2) (hm : mCan b s D) (h : Kok tl D) : Kok tl (mCancel b s D) := ⟨Jok_cancel h.1 hb3 hs, fun c hc hc2 => z_cancel hs hb3 hc hm.1 (h.2 c hc hc2)⟩
theorem Kok_S {k : Nat} {v : Int} (hk : k < 28) (h : Kok tl D) : Kok tl (mS k v D) := ⟨Jok_o h.1 (Or.inl hk), fun c hc hc2 => (mS_o (by omega)).trans (h.2 c hc hc2)⟩
end QKO
/-- a state's bounds, all that the calls keep -/
def Sok (n : Int) (tl : Nat → Int) (D : Dy) : Prop := Dok n D ∧ Inv D ∧ D.1 18 ≤ 9999 ∧ Kok tl D
theorem Sok_tick {D : Dy} {tl : Nat → Int} {n sure : Int} {X : Nat → Int → Option Gn} (ht : Tok tl) (h : Sok n tl D) (h9 : D.1 18 < 9999) : Sok (n + 110) tl (mTick X tl sure D) := ⟨Dok_tick ht h.1 (Inv_38 h.2.1) (by omega) (by have := h.2.1.1; omega), Inv_tick ht h.2.1, by rw [mTick_18]; omega, Kok_tick ht h.1 h.2.1 (by omega) h.2.2.2⟩
theorem Sok_open {D : Dy} {tl : Nat → Int} {n : Int} {b : Nat} (ht : Tok tl) (hb3 : b < 3) (hb : ((b : Nat) : Int) < tl 0) (h : Sok n tl D) : Sok (n + 1) tl (mOpen tl b D) := ⟨Dok_open ht h.1 hb3, Inv_open h.2.1, by rw [mOpen_k (by decide)]; exact h.2.2.1, Kok_open h.1 hb hb3 h.2.2.2⟩
theorem Sok_cancel {D : Dy} {tl : Nat → Int} {n : Int} {b s : Nat} (hb3 : b < 3) (hs : s < 2) (hm : mCan b s D) (h : Sok n tl D) : Sok n tl (mCancel b s D) := ⟨Dok_cancel h.1 hb3 hs, Inv_cancel h.2.1, by rw [Kp_cancel.2 18 (by decide)]; exact h.2.2.1, Kok_cancel hb3 hs hm h.2.2.2⟩
theorem Sok_mono {D : Dy} {tl : Nat → Int} {n m : Int} (hm : n ≤ m) (h : Sok n tl D) : Sok m tl D := ⟨Dok_mono hm h.1, h.2⟩
theorem Sok_anew {D : Dy} {tl : Nat → Int} {n : Int} (h : Sok n tl D) : Sok n tl (mAnew D) := ⟨Dok_anew h.1, Inv_S (by decide) h.2.1, by rw [mAn_18]; exact h.2.2.1, Kok_S (by decide) h.2.2.2⟩
