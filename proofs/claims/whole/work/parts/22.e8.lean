/-- what is in flight, the clock, the draws, the sun and the counts stay -/
def Kp (D E : Dy) : Prop := E.2.2.1 = D.2.2.1 ∧ ∀ k : Nat, k < 28 → E.1 k = D.1 k
theorem Kp.rf {D : Dy} : Kp D D := ⟨rfl, fun _ _ => rfl⟩
theorem Kp.tr {D E F : Dy} (h : Kp D E) (h2 : Kp E F) : Kp D F := ⟨h2.1.trans h.1, fun k q => (h2.2 k q).trans (h.2 k q)⟩
theorem mS_s {k : Nat} {v : Int} {D : Dy} : (mS k v D).1 k = v := if_pos rfl
theorem mS_o {k j : Nat} {v : Int} {D : Dy} (h : j ≠ k) : (mS k v D).1 j = D.1 j := if_neg h
section QKP
variable {a0 : Nat → Int} {D : Dy}
theorem Kp_put {s : Nat} {r : Rw} : Kp D (mPut s r D) := by
  unfold mPut
  split
  · exact Kp.rf
  · exact ⟨rfl, fun _ _ => rfl⟩
theorem Kp_drop {s : Nat} {p : Rw → Bool} : Kp D (mDrop s p D) := ⟨rfl, fun _ _ => rfl⟩
theorem Kp_note {r : Rw} : Kp D (mNote r D) := ⟨rfl, fun _ _ => rfl⟩
theorem Kp_S {k : Nat} {v : Int} (h : 28 ≤ k) : Kp D (mS k v D) := ⟨rfl, fun j hj => uN_o (by omega)⟩
theorem Kp_pieces {b ck : Int} : ∀ (L : List (Nat × Nat)) {D : Dy}, Kp D (mPieces b ck L D)
  | [], D => Kp.rf
  | q :: [], D => Kp_put
  | q :: q2 :: t, D => Kp.tr Kp_put (Kp_pieces (q2 :: t))
theorem Kp_red {b bits : Nat} : Kp D (mRed a0 b bits D) := by
  unfold mRed
  split
  · exact Kp.rf
  · exact Kp.tr (Kp_S (by omega)) (Kp_pieces _)
theorem Kp_end {b : Nat} : Kp D (mEnd b D) := Kp.tr (Kp_S (k := 28 + b) (v := 2) (by omega)) Kp_note
theorem Kp_checks {b : Nat} : ∀ (n : Nat), Kp D (mChecks b n D)
  | 0 => Kp.rf
  | n + 1 => Kp.tr (Kp_checks n) Kp_drop
theorem Kp_cancel {b s : Nat} : Kp D (mCancel b s D) := Kp.tr (Kp.tr (Kp.tr (Kp_S (k := 28 + 3 * s + b) (v := 3) (by omega)) Kp_drop) Kp_note) Kp_put
theorem Kp_gotData {b : Nat} {serial : Int} {f t : Nat} : Kp D (mGotData a0 b serial f t D) := by
  by_cases h : D.1 (31 + b) = 3
  · rw [mGotData_a h]; exact Kp.rf
  · by_cases h2 : serial = 0
    · rw [mGotData_b h h2]; exact Kp_S (by omega)
    · rw [mGotData_c h h2]; exact Kp.tr (Kp.tr (Kp_S (by omega)) (Kp_S (by omega))) Kp_put
theorem Kp_gr1 {b : Nat} {serial check : Int} : Kp D (gr1 b serial check D) := Kp.tr Kp_put Kp_drop
theorem Kp_gotReport {b : Nat} {serial check : Int} {claims : Nat} : Kp D (mGotReport a0 b serial check claims D) := by
  have h0 : Kp D (mS (34 + b) (((D.1 (34 + b)).toNat ||| claims : Nat) : Int) (gr1 b serial check D)) := Kp.tr Kp_gr1 (Kp_S (by omega))
  by_cases h : D.1 (28 + b) = 1
  · by_cases h2 : mMiss a0 b ((D.1 (34 + b)).toNat ||| claims) = 0
    · rw [mGotReport_b h h2]; exact Kp.tr (Kp.tr h0 Kp_end) (Kp_checks _)
    · by_cases h3 : check = D.1 (40 + b)
      · rw [mGotReport_c h h2 h3]; exact Kp.tr h0 Kp_red
      · rw [mGotReport_d h h2 h3]; exact h0
  · rw [mGotReport_a h]; exact Kp_gr1
theorem Kp_gotCancel {s b : Nat} : Kp D (mGotCancel s b D) := by
  unfold mGotCancel
  split
  · exact Kp.tr (Kp.tr (Kp_S (by omega)) Kp_drop) Kp_put
  · exact Kp_put
theorem Kp_got {i : Nat} : Kp (mF1 i D) (mGot a0 i D) := by
  unfold mGot
  simp only []
  split
  · exact Kp_gotData
  · split
    · exact Kp_gotReport
    · split
      · exact Kp_drop
      · split
        · exact Kp_gotCancel
        · exact Kp_drop
theorem mGot_f {i : Nat} : (mGot a0 i D).2.2.1 = D.2.2.1.eraseIdx i := (Kp_got (a0 := a0) (D := D) (i := i)).1
theorem mGot_k {i k : Nat} (h : k < 28) : (mGot a0 i D).1 k = D.1 k := (Kp_got (a0 := a0) (D := D) (i := i)).2 k h
/-- timers, how many -/
theorem mPut_t {s : Nat} {r : Rw} : (mPut s r D).2.2.2.1 = D.2.2.2.1 := by
  unfold mPut
  split <;> rfl
theorem mCancel_t {b s : Nat} : (mCancel b s D).2.2.2.1.length ≤ D.2.2.2.1.length := by
  unfold mCancel
  rw [mPut_t]
  exact List.length_filter_le _ _
theorem mRingOne_t {i : Nat} (h : i < D.2.2.2.1.length) : (mRingOne a0 i D).2.2.2.1.length + 1 ≤ D.2.2.2.1.length := by
  have e : (D.2.2.2.1.eraseIdx i).length = D.2.2.2.1.length - 1 := by rw [List.length_eraseIdx, if_pos h]
  unfold mRingOne
  simp only []
  split
  · rw [mPut_t]
    show (D.2.2.2.1.eraseIdx i).length + 1 ≤ _
    omega
  · split
    · have q := mCancel_t (b := (gR D.2.2.2.1 i 1).toNat) (s := (gR D.2.2.2.1 i 8).toNat) (D := mNote (rwB (D.1 18) 5 (gR D.2.2.2.1 i 1) (gR D.2.2.2.1 i 0)) (D.1, D.2.1, D.2.2.1, D.2.2.2.1.eraseIdx i, D.2.2.2.2))
      have q2 : (mNote (rwB (D.1 18) 5 (gR D.2.2.2.1 i 1) (gR D.2.2.2.1 i 0)) (D.1, D.2.1, D.2.2.1, D.2.2.2.1.eraseIdx i, D.2.2.2.2)).2.2.2.1.length = (D.2.2.2.1.eraseIdx i).length := rfl
      omega
    · show (D.2.2.2.1.eraseIdx i).length + 1 ≤ _
      omega
theorem Kp_ringOne {i : Nat} : Kp D (mRingOne a0 i D) := by
  have h0 : Kp D (mNote (rwB (D.1 18) 5 (gR D.2.2.2.1 i 1) (gR D.2.2.2.1 i 0)) (D.1, D.2.1, D.2.2.1, D.2.2.2.1.eraseIdx i, D.2.2.2.2)) := ⟨rfl, fun _ _ => rfl⟩
  unfold mRingOne
  simp only []
  split
  · exact Kp.tr h0 Kp_put
  · split
    · exact Kp.tr h0 Kp_cancel
    · exact h0
end QKP
/-- what comes at this clock is got, from the i-th on -/
def mGots (a0 : Nat → Int) : Nat → Nat → Dy → Dy
  | 0, _, D => D
  | k + 1, i, D => if i < D.2.2.1.length then if gR D.2.2.1 i 7 = D.1 18 then mGots a0 k i (mGot a0 i D) else mGots a0 k (i + 1) D else D
def mSnd (X : Nat → Int → Option Gn) (a0 : Nat → Int) (sure : Int) (s : Nat) (D : Dy) : Dy := if 0 < (D.2.1 s).length then mSend X a0 sure s D else D
def mRings (a0 : Nat → Int) : Nat → Dy → Dy
  | 0, D => D
  | k + 1, D => if mDue (D.1 20) D.2.2.2.1 < D.2.2.2.1.length then mRings a0 k (mRingOne a0 (mDue (D.1 20) D.2.2.2.1) D) else D
def mGet (a0 : Nat → Int) (D : Dy) : Dy := mGots a0 D.2.2.1.length 0 D
def mSee (X : Nat → Int → Option Gn) (a0 : Nat → Int) (sure : Int) (D : Dy) : Dy := mS 20 ((mSnd X a0 sure 1 (mSnd X a0 sure 0 D)).1 20 + 1) (mSnd X a0 sure 1 (mSnd X a0 sure 0 D))
/-- a tick -/
def mTick (X : Nat → Int → Option Gn) (a0 : Nat → Int) (sure : Int) (D : Dy) : Dy :=
  if mSn a0 ((mGet a0 D).1 18) = true then mS 18 ((mRings a0 16 (mSee X a0 sure (mGet a0 D))).1 18 + 1) (mRings a0 16 (mSee X a0 sure (mGet a0 D))) else mS 18 ((mGet a0 D).1 18 + 1) (mGet a0 D)
section QTK
variable {X : Nat → Int → Option Gn} {a0 : Nat → Int} {n sure : Int} {D : Dy} {k i : Nat}
theorem mGots_g (hi : i < D.2.2.1.length) (hk : 0 < k) (h : gR D.2.2.1 i 7 = D.1 18) : mGots a0 k i D = mGots a0 (k - 1) i (mGot a0 i D) := by
  cases k with
  | zero => omega
  | succ k => exact (if_pos hi).trans (if_pos h)
theorem mGots_n (hi : i < D.2.2.1.length) (hk : 0 < k) (h : ¬ gR D.2.2.1 i 7 = D.1 18) : mGots a0 k i D = mGots a0 (k - 1) (i + 1) D := by
  cases k with
  | zero => omega
  | succ k => exact (if_pos hi).trans (if_neg h)
theorem mGots_e (hi : D.2.2.1.length ≤ i) : mGots a0 k i D = D := by
  cases k with
  | zero => rfl
  | succ k => exact if_neg (by omega)
theorem mRings_s (hk : 0 < k) (h : mDue (D.1 20) D.2.2.2.1 < D.2.2.2.1.length) : mRings a0 k D = mRings a0 (k - 1) (mRingOne a0 (mDue (D.1 20) D.2.2.2.1) D) := by
  cases k with
  | zero => omega
  | succ k => exact if_pos h
theorem mRings_e (h : ¬ mDue (D.1 20) D.2.2.2.1 < D.2.2.2.1.length) : mRings a0 k D = D := by
  cases k with
  | zero => rfl
  | succ k => exact if_neg h
theorem Dok_gots (ht : Tok a0) : ∀ (k i : Nat) {n : Int} {D : Dy}, Dok n D → Dok (n + k) (mGots a0 k i D)
  | 0, _, n, D, hd => Dok_mono (by omega) hd
  | k + 1, i, n, D, hd => by
    unfold mGots
    split
    · rename_i h
      split
      · exact Dok_mono (by omega) (Dok_gots ht k i (Dok_got ht hd h))
      · exact Dok_mono (by omega) (Dok_gots ht k (i + 1) hd)
    · exact Dok_mono (by omega) hd
theorem Kp_rings : ∀ (k : Nat) {D : Dy}, Kp D (mRings a0 k D)
  | 0, D => Kp.rf
  | k + 1, D => by
    unfold mRings
    split
    · exact Kp.tr Kp_ringOne (Kp_rings k)
    · exact Kp.rf
theorem Dok_rings (ht : Tok a0) : ∀ (k : Nat) {n : Int} {D : Dy}, Dok n D → Dok n (mRings a0 k D)
  | 0, n, D, hd => hd
  | k + 1, n, D, hd => by
    unfold mRings
    split
    · rename_i h
      exact Dok_rings ht k (Dok_ringOne ht hd h)
    · exact hd
theorem mGots_k {j : Nat} (hj : j < 28) : ∀ (k i : Nat) {D : Dy}, (mGots a0 k i D).1 j = D.1 j
  | 0, _, D => rfl
  | k + 1, i, D => by
    unfold mGots
    split
    · split
      · exact (mGots_k hj k i).trans (mGot_k hj)
      · exact mGots_k hj k (i + 1)
    · rfl
/-- a sending leaves the clock and the sun -/
theorem mSnd_k {s j : Nat} (hj : j = 18 ∨ j = 20) : (mSnd X a0 sure s D).1 j = D.1 j := by
  unfold mSnd
  split
  · have e1 : (mS1 s D).1 j = D.1 j := (uN_o (f := uN D.1 21 (D.1 21 + 1)) (by omega)).trans (uN_o (by omega))
    have e2 : (mS2 X a0 sure s (gR (D.2.1 s) 0) (mS1 s D)).1 j = (mS1 s D).1 j := by
      unfold mS2
      repeat' split
      · exact (uN_o (f := uN (mS1 s D).1 19 (((mS1 s D).1 19 * 757 + 617).tmod 31091)) (by omega)).trans (uN_o (by omega))
      · exact uN_o (f := (mS1 s D).1) (by omega)
      · rfl
    have e3 : (mS3 X a0 s (gR (D.2.1 s) 0) (mS2 X a0 sure s (gR (D.2.1 s) 0) (mS1 s D))).1 j = (mS2 X a0 sure s (gR (D.2.1 s) 0) (mS1 s D)).1 j := by
      unfold mS3 mTimer
      repeat' split
      all_goals rfl
    exact e3.trans (e2.trans e1)
  · rfl
theorem mSnd_f {s : Nat} : (mSnd X a0 sure s D).2.2.1.length ≤ D.2.2.1.length + 1 := by
  unfold mSnd
  split
  · exact mSend_f
  · exact Nat.le_succ _
theorem Dok_snd {s : Nat} (ht : Tok a0) (hd : Dok n D) (hs : s < 2) (hf : D.2.2.1.length < 40) : Dok (n + 31) (mSnd X a0 sure s D) := by
  unfold mSnd
  split
  · rename_i h
    exact Dok_send ht hd ⟨hs, h⟩ hf
  · exact Dok_mono (by omega) hd
theorem mSee_k : (mSee X a0 sure D).1 18 = D.1 18 ∧ (mSee X a0 sure D).1 20 = D.1 20 + 1 := by
  unfold mSee
  constructor
  · rw [mS_o (by decide), mSnd_k (Or.inl rfl), mSnd_k (Or.inl rfl)]
  · rw [mS_s, mSnd_k (Or.inr rfl), mSnd_k (Or.inr rfl)]
theorem Dok_see (ht : Tok a0) (hd : Dok n D) (hf : D.2.2.1.length ≤ 38) (h20 : D.1 20 < 10400) : Dok (n + 62) (mSee X a0 sure D) := by
  have h1 := Dok_snd (X := X) (sure := sure) (s := 0) ht hd (by decide) (by omega)
  have hf1 := mSnd_f (X := X) (a0 := a0) (sure := sure) (s := 0) (D := D)
  have h2 := Dok_snd (X := X) (sure := sure) (s := 1) ht h1 (by decide) (by omega)
  have hc := Dok_sun hd
  have e : (mSnd X a0 sure 1 (mSnd X a0 sure 0 D)).1 20 = D.1 20 := (mSnd_k (Or.inr rfl)).trans (mSnd_k (Or.inr rfl))
  unfold mSee
  rw [e]
  exact Dok_S (Dok_mono (by omega) h2) (fun _ _ _ => by unfold Shi; (repeat' split) <;> omega)
theorem mTick_18 : (mTick X a0 sure D).1 18 = D.1 18 + 1 := by
  have h0 : (mGet a0 D).1 18 = D.1 18 := mGots_k (by decide) _ _
  unfold mTick
  split
  · rw [mS_s, (Kp_rings 16).2 18 (by decide), mSee_k.1, h0]
  · rw [mS_s, h0]
theorem Dok_tick (ht : Tok a0) (hd : Dok n D) (hf : (mGet a0 D).2.2.1.length ≤ 38) (h18 : D.1 18 < 10400) (h20 : D.1 20 < 10400) : Dok (n + 110) (mTick X a0 sure D) := by
  have hl := Dok_f hd
  have h1 : Dok (n + 40) (mGet a0 D) := Dok_mono (by omega) (Dok_gots ht D.2.2.1.length 0 hd)
  have e18 : (mGet a0 D).1 18 = D.1 18 := mGots_k (by decide) _ _
  have e20 : (mGet a0 D).1 20 = D.1 20 := mGots_k (by decide) _ _
  have h2 : Dok (n + 110) (mRings a0 16 (mSee X a0 sure (mGet a0 D))) := Dok_rings ht 16 (Dok_mono (by omega) (Dok_see ht h1 hf (by omega)))
  have e2 : (mRings a0 16 (mSee X a0 sure (mGet a0 D))).1 18 = D.1 18 := by rw [(Kp_rings 16).2 18 (by decide), mSee_k.1, e18]
  have hc := Dok_clk hd
  unfold mTick
  split
  · rw [e2]
    exact Dok_S h2 (fun _ _ _ => by unfold Shi; (repeat' split) <;> omega)
  · rw [e18]
    exact Dok_S (Dok_mono (by omega) h1) (fun _ _ _ => by unfold Shi; (repeat' split) <;> omega)
end QTK

set_option maxHeartbeats 4000000 in
set_option maxRecDepth 100000 in
theorem eX11_tick (l : Launch) (G : GT) (o : Nat) (am : Nat → Nat) (u a0 : Nat → Int) (b0 : Nat → Nat → Int) (D : Dy) (n : Int) (ht : Tok a0) (hd : Dok n D) (hn : 0 ≤ n ∧ n ≤ 899000000) (hu : u 23 = 0 ∨ u 23 = 1) (X : Nat → Int → Option Gn) (hX : TxOk (b0 2) X (a0 1) ∧ a0 2 < a0 1) (hfl : (mGet a0 D).2.2.1.length ≤ 38) (hck : D.1 18 < 10400 ∧ D.1 20 < 10400) : Ctr l G yX11_tick cX11_tick 3 ((Option.none : Option Jvm.ClassFile.FieldType)) 8 0 0 [vr o] (fun w => isE o am u a0 b0 D w) (fun w r w' => r = none ∧ isE o am u a0 b0 (mTick X a0 (u 23) D) w') := by
  refine Ctr.of (t := tX11_tick) (lv0 := [some (vr o), none, none]) (by decide +kernel) tX11_tick_ok rfl rfl (fun w g hP M => ?_)
  obtain ⟨a, b, hM, hR, hF, hB⟩ := hP
  have hk18 := Dok_clk hd
  have hk20 := Dok_sun hd
  have hk_f := Dok_f hd
  have hk_t := Dok_t hd
  refine M.run 2 (pc' := 2) (lv' := [some (vr o), some (vi 0), none]) (st' := []) rfl ?_
  have Lp2 : ∀ (N : Nat) (Dx : Dy) (i : Nat) (k : Nat) (ax : Nat → Int) (bx : Nat → Nat → Int) (wx : Wo), (isM o am u ax bx wx) → (Rp ax Dx) → (Fr a0 ax) → (Fb b0 bx) → (Dok (n + (40 - ((k : Nat) : Int))) Dx) → (mGet a0 D = mGots a0 k i Dx) → (Dx.2.2.1.length ≤ i + k) → (k ≤ 40) → (i ≤ Dx.2.2.1.length) → k < N → g 0 0 wx 2 [some (vr o), some (vi ((i : Nat) : Int)), none] [] := by
    intro N
    induction N with
    | zero => intro Dx i k ax bx wx _ _ _ _ _ _ _ _ _ hN; exact absurd hN (Nat.not_lt_zero _)
    | succ N ih2 =>
      intro Dx i k ax bx wx hMx hRx hFx hBx hdx hI hkl hk40 hil hN
      refine M.run 1 (pc' := 3) (lv' := [some (vr o), some (vi ((i : Nat) : Int)), none]) (st' := [vi ((i : Nat) : Int)]) rfl ?_
      have hfx40 := Dok_f hdx
      refine M.run 1 (pc' := 4) (lv' := [some (vr o), some (vi ((i : Nat) : Int)), none]) (st' := [vr o, vi ((i : Nat) : Int)]) rfl ?_
      refine M.get fl_X11_7 rfl (isM_o hMx) (kf := 0) (v := vr (am 0)) rfl ?_
      refine M.run 1 (pc' := 9) (lv' := [some (vr o), some (vi ((i : Nat) : Int)), none]) (st' := [vi 26, vr (am 0), vi ((i : Nat) : Int)]) rfl ?_
      refine M.ialdN (26) rfl (isM_a hMx) (by decide) (by decide) ?_
      rw [show ax 26 = ((Dx.2.2.1.length : Nat) : Int) from Rp_f hRx]
      refine M.icmp_ge (tgt := 49) rfl (qI (by omega)) (qI (by omega)) (by decide) (fun h10 => ?_) (fun h10 => ?_)
      · skip
        have heq : mGet a0 D = Dx := by rw [hI]; exact mGots_e (by omega)
        have hfl0 : Dx.2.2.1.length ≤ 38 := by rw [← heq]; exact hfl
        have e18 : Dx.1 18 = D.1 18 := by rw [← heq]; exact mGots_k (by decide) _ _
        have e20 : Dx.1 20 = D.1 20 := by rw [← heq]; exact mGots_k (by decide) _ _
        have hlk := Dok_clk hdx
        refine M.run 2 (pc' := 51) (lv' := [some (vr o), some (vi ((i : Nat) : Int)), none]) (st' := [vr o, vr o]) rfl ?_
        refine M.get fl_X11_7 rfl (isM_o hMx) (kf := 0) (v := vr (am 0)) rfl ?_
        refine M.run 1 (pc' := 56) (lv' := [some (vr o), some (vi ((i : Nat) : Int)), none]) (st' := [vi 18, vr (am 0), vr o]) rfl ?_
        refine M.ialdN (18) rfl (isM_a hMx) (by decide) (by decide) ?_
        rw [show ax 18 = Dx.1 18 from Rp_s hRx (k := 18) (by decide) (by decide) (by decide)]
        refine M.callV (kX11_isSeenAt l G o am u ax bx (Dx.1 18) (by omega) (Mok_of ht hdx (by omega) hRx hFx)) cv_X11_387 cd_X11_isSeenAt rfl (st := []) rfl (isM_o hMx) (by decide) (by decide) rfl (Nat.zero_le _) (Nat.zero_le _) hMx (fun r1 w2 q3 => ?_)
        rw [q3.1, q3.2]
        rw [show mSn ax (Dx.1 18) = mSn a0 (Dx.1 18) from by unfold mSn; rw [hFx 9 (Or.inl (by decide)), hFx 10 (Or.inl (by decide)), hFx 11 (Or.inl (by decide))]]
        refine M.if_eq (tgt := 127) rfl (inI_zb _) (by decide) (fun h60 => ?_) (fun h60 => ?_)
        · skip
          replace h60 := zb_f0 h60
          refine M.run 1 (pc' := 128) (lv' := [some (vr o), some (vi ((i : Nat) : Int)), none]) (st' := [vr o]) rfl ?_
          refine M.get fl_X11_7 rfl (isM_o hMx) (kf := 0) (v := vr (am 0)) rfl ?_
          refine M.run 2 (pc' := 134) (lv' := [some (vr o), some (vi ((i : Nat) : Int)), none]) (st' := [vi 18, vr (am 0), vi 18, vr (am 0)]) rfl ?_
          refine M.ialdN (18) rfl (isM_a hMx) (by decide) (by decide) ?_
          rw [show ax 18 = Dx.1 18 from Rp_s hRx (k := 18) (by decide) (by decide) (by decide)]
          refine M.run 2 (pc' := 137) (lv' := [some (vr o), some (vi ((i : Nat) : Int)), none]) (st' := [vi ((Dx.1 18) + 1), vi 18, vr (am 0)]) rfl ?_
          refine M.iastN (18) rfl (isM_a hMx) (by decide) (by decide) ?_
          have hM6 := isM_setA hMx (uN ax 18 ((Dx.1 18) + 1))
          generalize up wx (am 0) (Ar 0 30042 (uN ax 18 ((Dx.1 18) + 1))) = w5 at hM6 ⊢
          have hR7 : Rp _ (mS 18 ((Dx.1 18) + 1) Dx) := Rp_us hRx ((Dx.1 18) + 1) (k := 18) (by omega) (by omega) (by omega)
          have hF7 := Fr_u (k := 18) (v := (Dx.1 18) + 1) hFx (by omega) (by omega)
          have hd7 := Dok_S (k := 18) (v := (Dx.1 18) + 1) hdx (fun _ _ _ => by unfold Shi; (repeat' split) <;> omega)
          have es7 : (mS 18 ((Dx.1 18) + 1) Dx).1 = uN Dx.1 18 ((Dx.1 18) + 1) := rfl
          exact M.vret rfl (Nat.zero_le _) (Nat.zero_le _) (by
              refine ⟨rfl, ?_⟩
              unfold mTick
              rw [heq]
              rw [if_neg (by rw [h60]; decide)]
              exact ⟨_, _, hM6, hR7, hF7, hBx⟩)
        · skip
          replace h60 := zb_t h60
          refine M.run 4 (pc' := 67) (lv' := [some (vr o), some (vi ((i : Nat) : Int)), some (vi 0)]) (st' := [vi 2, vi 0]) rfl ?_
          refine M.icmp_ge (tgt := 93) rfl (qI (by decide)) (qI (by decide)) (by decide) (fun q => absurd q (by decide)) (fun _ => ?_)
          have hll0 := Dok_l hdx (s := 0) (by decide)
          have hll1 := Dok_l hdx (s := 1) (by decide)
          refine M.run 1 (pc' := 71) (lv' := [some (vr o), some (vi ((i : Nat) : Int)), some (vi 0)]) (st' := [vr o]) rfl ?_
          refine M.get fl_X11_7 rfl (isM_o hMx) (kf := 0) (v := vr (am 0)) rfl ?_
          refine M.run 3 (pc' := 78) (lv' := [some (vr o), some (vi ((i : Nat) : Int)), some (vi 0)]) (st' := [vi (24 + 0), vr (am 0)]) rfl ?_
          refine M.ialdN (24 + 0) rfl (isM_a hMx) (by omega) (by decide) ?_
          rw [show ax (24 + 0) = (((Dx.2.1 0).length : Nat) : Int) from Rp_l hRx (s := 0) (by omega)]
          refine M.if_le (tgt := 87) rfl (qI (by omega)) (by decide) (fun h79 => ?_) (fun h79 => ?_)
          · skip
            have hdm := Dok_mono (m := (n + (40 - ((k : Nat) : Int))) + 31) (by omega) hdx
            have eD8 : mSnd X a0 (u 23) 0 Dx = Dx := if_neg (by omega)
            have hR8 : Rp ax (mSnd X a0 (u 23) 0 Dx) := by rw [eD8]; exact hRx
            have hd8 : Dok ((n + (40 - ((k : Nat) : Int))) + 31) (mSnd X a0 (u 23) 0 Dx) := by rw [eD8]; exact hdm
            have hfl0 : ((mSnd X a0 (u 23) 0 Dx)).2.2.1.length ≤ 39 := by have q := mSnd_f (X := X) (a0 := a0) (sure := u 23) (s := 0) (D := Dx); omega
            refine M.run 4 (pc' := 67) (lv' := [some (vr o), some (vi ((i : Nat) : Int)), some (vi 1)]) (st' := [vi 2, vi 1]) rfl ?_
            refine M.icmp_ge (tgt := 93) rfl (qI (by decide)) (qI (by decide)) (by decide) (fun q => absurd q (by decide)) (fun _ => ?_)
            have hll0 := Dok_l hd8 (s := 0) (by decide)
            have hll1 := Dok_l hd8 (s := 1) (by decide)
            refine M.run 1 (pc' := 71) (lv' := [some (vr o), some (vi ((i : Nat) : Int)), some (vi 1)]) (st' := [vr o]) rfl ?_
            refine M.get fl_X11_7 rfl (isM_o hMx) (kf := 0) (v := vr (am 0)) rfl ?_
            refine M.run 3 (pc' := 78) (lv' := [some (vr o), some (vi ((i : Nat) : Int)), some (vi 1)]) (st' := [vi (24 + 1), vr (am 0)]) rfl ?_
            refine M.ialdN (24 + 1) rfl (isM_a hMx) (by omega) (by decide) ?_
            rw [show ax (24 + 1) = ((((mSnd X a0 (u 23) 0 Dx).2.1 1).length : Nat) : Int) from Rp_l hR8 (s := 1) (by omega)]
            refine M.if_le (tgt := 87) rfl (qI (by omega)) (by decide) (fun h79 => ?_) (fun h79 => ?_)
            · skip
              have hdm := Dok_mono (m := ((n + (40 - ((k : Nat) : Int))) + 31) + 31) (by omega) hd8
              have eD9 : mSnd X a0 (u 23) 1 (mSnd X a0 (u 23) 0 Dx) = (mSnd X a0 (u 23) 0 Dx) := if_neg (by omega)
              have hR9 : Rp ax (mSnd X a0 (u 23) 1 (mSnd X a0 (u 23) 0 Dx)) := by rw [eD9]; exact hR8
              have hd9 : Dok (((n + (40 - ((k : Nat) : Int))) + 31) + 31) (mSnd X a0 (u 23) 1 (mSnd X a0 (u 23) 0 Dx)) := by rw [eD9]; exact hdm
              have hfl1 : ((mSnd X a0 (u 23) 1 (mSnd X a0 (u 23) 0 Dx))).2.2.1.length ≤ 40 := by have q := mSnd_f (X := X) (a0 := a0) (sure := u 23) (s := 1) (D := (mSnd X a0 (u 23) 0 Dx)); omega
              refine M.run 4 (pc' := 67) (lv' := [some (vr o), some (vi ((i : Nat) : Int)), some (vi 2)]) (st' := [vi 2, vi 2]) rfl ?_
              refine M.icmp_ge (tgt := 93) rfl (qI (by decide)) (qI (by decide)) (by decide) (fun _ => ?_) (fun q => absurd q (by decide))
              have e20b : ((mSnd X a0 (u 23) 1 (mSnd X a0 (u 23) 0 Dx))).1 20 = D.1 20 := (mSnd_k (Or.inr rfl)).trans ((mSnd_k (Or.inr rfl)).trans e20)
              refine M.run 1 (pc' := 94) (lv' := [some (vr o), some (vi ((i : Nat) : Int)), some (vi 2)]) (st' := [vr o]) rfl ?_
              refine M.get fl_X11_7 rfl (isM_o hMx) (kf := 0) (v := vr (am 0)) rfl ?_
              refine M.run 2 (pc' := 100) (lv' := [some (vr o), some (vi ((i : Nat) : Int)), some (vi 2)]) (st' := [vi 20, vr (am 0), vi 20, vr (am 0)]) rfl ?_
              refine M.ialdN (20) rfl (isM_a hMx) (by decide) (by decide) ?_
              rw [show ax 20 = (mSnd X a0 (u 23) 1 (mSnd X a0 (u 23) 0 Dx)).1 20 from Rp_s hR9 (k := 20) (by decide) (by decide) (by decide)]
              refine M.run 2 (pc' := 103) (lv' := [some (vr o), some (vi ((i : Nat) : Int)), some (vi 2)]) (st' := [vi (((mSnd X a0 (u 23) 1 (mSnd X a0 (u 23) 0 Dx)).1 20) + 1), vi 20, vr (am 0)]) rfl ?_
              refine M.iastN (20) rfl (isM_a hMx) (by decide) (by decide) ?_
              have hM11 := isM_setA hMx (uN ax 20 (((mSnd X a0 (u 23) 1 (mSnd X a0 (u 23) 0 Dx)).1 20) + 1))
              generalize up wx (am 0) (Ar 0 30042 (uN ax 20 (((mSnd X a0 (u 23) 1 (mSnd X a0 (u 23) 0 Dx)).1 20) + 1))) = w10 at hM11 ⊢
              have hR12 : Rp _ (mS 20 (((mSnd X a0 (u 23) 1 (mSnd X a0 (u 23) 0 Dx)).1 20) + 1) (mSnd X a0 (u 23) 1 (mSnd X a0 (u 23) 0 Dx))) := Rp_us hR9 (((mSnd X a0 (u 23) 1 (mSnd X a0 (u 23) 0 Dx)).1 20) + 1) (k := 20) (by omega) (by omega) (by omega)
              have hF12 := Fr_u (k := 20) (v := ((mSnd X a0 (u 23) 1 (mSnd X a0 (u 23) 0 Dx)).1 20) + 1) hFx (by omega) (by omega)
              have hd12 := Dok_S (k := 20) (v := ((mSnd X a0 (u 23) 1 (mSnd X a0 (u 23) 0 Dx)).1 20) + 1) hd9 (fun _ _ _ => by unfold Shi; (repeat' split) <;> omega)
              have es12 : (mS 20 (((mSnd X a0 (u 23) 1 (mSnd X a0 (u 23) 0 Dx)).1 20) + 1) (mSnd X a0 (u 23) 1 (mSnd X a0 (u 23) 0 Dx))).1 = uN ((mSnd X a0 (u 23) 1 (mSnd X a0 (u 23) 0 Dx)).1) 20 (((mSnd X a0 (u 23) 1 (mSnd X a0 (u 23) 0 Dx)).1 20) + 1) := rfl
              have eD13 : mSee X a0 (u 23) Dx = (mS 20 (((mSnd X a0 (u 23) 1 (mSnd X a0 (u 23) 0 Dx)).1 20) + 1) (mSnd X a0 (u 23) 1 (mSnd X a0 (u 23) 0 Dx))) := rfl
              have hR13 : Rp (uN ax 20 (((mSnd X a0 (u 23) 1 (mSnd X a0 (u 23) 0 Dx)).1 20) + 1)) (mSee X a0 (u 23) Dx) := by rw [eD13]; exact hR12
              have hd13 : Dok (((n + (40 - ((k : Nat) : Int))) + 31) + 31) (mSee X a0 (u 23) Dx) := by rw [eD13]; exact hd12
              have ekx : ((mSee X a0 (u 23) Dx)).1 18 = Dx.1 18 := mSee_k.1
              refine M.run 1 (pc' := 105) (lv' := [some (vr o), some (vi ((i : Nat) : Int)), some (vi 2)]) (st' := [vr o]) rfl ?_
              refine M.callV (eX11_ringing l G o am u a0 b0 (mSee X a0 (u 23) Dx) _ ht hd13 (by omega) ((mSee X a0 (u 23) Dx).1 20) rfl) cv_X11_393 cd_X11_ringing rfl (st := []) rfl (isM_o hM11) (by decide) (by decide) rfl (Nat.zero_le _) (Nat.zero_le _) ⟨_, _, hM11, hR13, hF12, hBx⟩ (fun r14 w15 q16 => ?_)
              rw [q16.1, q16.2]
              refine M.run 1 (pc' := 109) (lv' := [some (vr o), some (vi ((i : Nat) : Int)), some (vi (if mDue ((mSee X a0 (u 23) Dx).1 20) (mSee X a0 (u 23) Dx).2.2.2.1 < (mSee X a0 (u 23) Dx).2.2.2.1.length then ((mDue ((mSee X a0 (u 23) Dx).1 20) (mSee X a0 (u 23) Dx).2.2.2.1 : Nat) : Int) else -1))]) (st' := []) rfl ?_
              refine M.fgt [false, true, false] ?_
              have Lp109 : ∀ (N : Nat) (Dr : Dy) (k : Nat) (z : Int) (ar : Nat → Int) (br : Nat → Nat → Int) (wr : Wo), (isM o am u ar br wr) → (Rp ar Dr) → (Fr a0 ar) → (Fb b0 br) → (Dok (n + 110) Dr) → (mRings a0 k Dr = mRings a0 16 (mSee X a0 (u 23) Dx)) → (z = (if mDue (Dr.1 20) Dr.2.2.2.1 < Dr.2.2.2.1.length then ((mDue (Dr.1 20) Dr.2.2.2.1 : Nat) : Int) else -1)) → (Dr.2.2.2.1.length ≤ k) → (Dr.1 18 = D.1 18) → k < N → g 0 0 wr 109 [some (vr o), none, some (vi z)] [] := by
                intro N
                induction N with
                | zero => intro Dr k z ar br wr _ _ _ _ _ _ _ _ _ hN; exact absurd hN (Nat.not_lt_zero _)
                | succ N ih109 =>
                  intro Dr k z ar br wr hMr hRr hFr hBr hdr hI2 hz hkt e18r hN
                  refine M.run 1 (pc' := 110) (lv' := [some (vr o), none, some (vi z)]) (st' := [vi z]) rfl ?_
                  have hzt := Dok_t hdr
                  refine M.run 1 (pc' := 111) (lv' := [some (vr o), none, some (vi z)]) (st' := [vi (-1), vi z]) rfl ?_
                  refine M.icmp_eq (tgt := 127) rfl (qI (by omega)) (qI (by decide)) (by decide) (fun h111 => ?_) (fun h111 => ?_)
                  · skip
                    have hnd : ¬ mDue (Dr.1 20) Dr.2.2.2.1 < Dr.2.2.2.1.length := fun hh => by rw [if_pos hh] at hz; omega
                    refine M.run 1 (pc' := 128) (lv' := [some (vr o), none, some (vi z)]) (st' := [vr o]) rfl ?_
                    refine M.get fl_X11_7 rfl (isM_o hMr) (kf := 0) (v := vr (am 0)) rfl ?_
                    refine M.run 2 (pc' := 134) (lv' := [some (vr o), none, some (vi z)]) (st' := [vi 18, vr (am 0), vi 18, vr (am 0)]) rfl ?_
                    refine M.ialdN (18) rfl (isM_a hMr) (by decide) (by decide) ?_
                    rw [show ar 18 = Dr.1 18 from Rp_s hRr (k := 18) (by decide) (by decide) (by decide)]
                    refine M.run 2 (pc' := 137) (lv' := [some (vr o), none, some (vi z)]) (st' := [vi ((Dr.1 18) + 1), vi 18, vr (am 0)]) rfl ?_
                    refine M.iastN (18) rfl (isM_a hMr) (by decide) (by decide) ?_
                    have hM19 := isM_setA hMr (uN ar 18 ((Dr.1 18) + 1))
                    generalize up wr (am 0) (Ar 0 30042 (uN ar 18 ((Dr.1 18) + 1))) = w18 at hM19 ⊢
                    have hR20 : Rp _ (mS 18 ((Dr.1 18) + 1) Dr) := Rp_us hRr ((Dr.1 18) + 1) (k := 18) (by omega) (by omega) (by omega)
                    have hF20 := Fr_u (k := 18) (v := (Dr.1 18) + 1) hFr (by omega) (by omega)
                    have hd20 := Dok_S (k := 18) (v := (Dr.1 18) + 1) hdr (fun _ _ _ => by unfold Shi; (repeat' split) <;> omega)
                    have es20 : (mS 18 ((Dr.1 18) + 1) Dr).1 = uN Dr.1 18 ((Dr.1 18) + 1) := rfl
                    exact M.vret rfl (Nat.zero_le _) (Nat.zero_le _) (by
                        refine ⟨rfl, ?_⟩
                        unfold mTick
                        rw [heq]
                        rw [if_pos h60, show mRings a0 16 (mSee X a0 (u 23) Dx) = Dr from by rw [← hI2]; exact mRings_e hnd]
                        exact ⟨_, _, hM19, hR20, hF20, hBr⟩)
                  · skip
                    have hdu : mDue (Dr.1 20) Dr.2.2.2.1 < Dr.2.2.2.1.length := by by_cases hh : mDue (Dr.1 20) Dr.2.2.2.1 < Dr.2.2.2.1.length; exact hh; rw [if_neg hh] at hz; omega
                    have hz2 : z = ((mDue (Dr.1 20) Dr.2.2.2.1 : Nat) : Int) := by rw [if_pos hdu] at hz; exact hz
                    rw [show z = ((mDue (Dr.1 20) Dr.2.2.2.1 : Nat) : Int) from hz2]
                    refine M.run 2 (pc' := 116) (lv' := [some (vr o), none, some (vi ((mDue (Dr.1 20) Dr.2.2.2.1 : Nat) : Int))]) (st' := [vi ((mDue (Dr.1 20) Dr.2.2.2.1 : Nat) : Int), vr o]) rfl ?_
                    refine M.callV (eX11_ring l G o am u a0 b0 Dr _ ht hdr (by omega)  (mDue (Dr.1 20) Dr.2.2.2.1) (by omega)) cv_X11_396 cd_X11_ring rfl (st := []) rfl (isM_o hMr) (by decide) (by decide) rfl (Nat.zero_le _) (Nat.zero_le _) ⟨_, _, hMr, hRr, hFr, hBr⟩ (fun r22 w23 q24 => ?_)
                    obtain ⟨q24r, a21, b21, hM21, hR21, hF21, hB21⟩ := q24
                    rw [q24r]
                    have hd21 : Dok (n + 110) (mRingOne a0 (mDue (Dr.1 20) Dr.2.2.2.1) Dr) := Dok_ringOne ht hdr (by omega)
                    have es21 : (mRingOne a0 (mDue (Dr.1 20) Dr.2.2.2.1) Dr).1 = (mRingOne a0 (mDue (Dr.1 20) Dr.2.2.2.1) Dr).1 := rfl
                    refine M.run 1 (pc' := 120) (lv' := [some (vr o), none, some (vi ((mDue (Dr.1 20) Dr.2.2.2.1 : Nat) : Int))]) (st' := [vr o]) rfl ?_
                    refine M.callV (eX11_ringing l G o am u a0 b0 (mRingOne a0 (mDue (Dr.1 20) Dr.2.2.2.1) Dr) _ ht hd21 (by omega) ((mRingOne a0 (mDue (Dr.1 20) Dr.2.2.2.1) Dr).1 20) rfl) cv_X11_393 cd_X11_ringing rfl (st := []) rfl (isM_o hM21) (by decide) (by decide) rfl (Nat.zero_le _) (Nat.zero_le _) ⟨_, _, hM21, hR21, hF21, hB21⟩ (fun r26 w27 q28 => ?_)
                    rw [q28.1, q28.2]
                    refine M.run 2 (pc' := 109) (lv' := [some (vr o), none, some (vi (if mDue ((mRingOne a0 (mDue (Dr.1 20) Dr.2.2.2.1) Dr).1 20) (mRingOne a0 (mDue (Dr.1 20) Dr.2.2.2.1) Dr).2.2.2.1 < (mRingOne a0 (mDue (Dr.1 20) Dr.2.2.2.1) Dr).2.2.2.1.length then ((mDue ((mRingOne a0 (mDue (Dr.1 20) Dr.2.2.2.1) Dr).1 20) (mRingOne a0 (mDue (Dr.1 20) Dr.2.2.2.1) Dr).2.2.2.1 : Nat) : Int) else -1))]) (st' := []) rfl ?_
                    exact ih109 ((mRingOne a0 (mDue (Dr.1 20) Dr.2.2.2.1) Dr)) (k - 1) (if mDue ((mRingOne a0 (mDue (Dr.1 20) Dr.2.2.2.1) Dr).1 20) (mRingOne a0 (mDue (Dr.1 20) Dr.2.2.2.1) Dr).2.2.2.1 < (mRingOne a0 (mDue (Dr.1 20) Dr.2.2.2.1) Dr).2.2.2.1.length then ((mDue ((mRingOne a0 (mDue (Dr.1 20) Dr.2.2.2.1) Dr).1 20) (mRingOne a0 (mDue (Dr.1 20) Dr.2.2.2.1) Dr).2.2.2.1 : Nat) : Int) else -1) a21 b21 w23 hM21 hR21 hF21 hB21 (by omega) (by rw [← hI2]; exact (mRings_s (by omega) hdu).symm) rfl (by have q := mRingOne_t (a0 := a0) hdu; omega) ((Kp_ringOne.2 18 (by decide)).trans e18r) (by omega)
              exact Lp109 _ ((mSee X a0 (u 23) Dx)) 16 (if mDue ((mSee X a0 (u 23) Dx).1 20) (mSee X a0 (u 23) Dx).2.2.2.1 < (mSee X a0 (u 23) Dx).2.2.2.1.length then ((mDue ((mSee X a0 (u 23) Dx).1 20) (mSee X a0 (u 23) Dx).2.2.2.1 : Nat) : Int) else -1) ((uN ax 20 (((mSnd X a0 (u 23) 1 (mSnd X a0 (u 23) 0 Dx)).1 20) + 1))) bx w10 hM11 hR13 hF12 hBx (Dok_mono (by omega) hd13) rfl rfl (Dok_t hd13) (ekx.trans e18) (Nat.lt_succ_self _)
            · skip
              have hsx : 1 < 2 ∧ 0 < ((mSnd X a0 (u 23) 0 Dx).2.1 1).length := ⟨by decide, by omega⟩
              have hfx : (mSnd X a0 (u 23) 0 Dx).2.2.1.length < 40 := by omega
              refine M.run 2 (pc' := 84) (lv' := [some (vr o), some (vi ((i : Nat) : Int)), some (vi 1)]) (st' := [vi 1, vr o]) rfl ?_
              refine M.callV (eX11_sendFirst l G o am u a0 b0 (mSnd X a0 (u 23) 0 Dx) _ ht hd8 (by omega)  1 hsx hfx hu X hX) cv_X11_390 cd_X11_sendFirst rfl (st := []) rfl (isM_o hMx) (by decide) (by decide) rfl (Nat.zero_le _) (Nat.zero_le _) ⟨_, _, hMx, hR8, hFx, hBx⟩ (fun r31 w32 q33 => ?_)
              obtain ⟨q33r, a30, b30, hM30, hR30, hF30, hB30⟩ := q33
              rw [q33r]
              have hd30 : Dok (((n + (40 - ((k : Nat) : Int))) + 31) + 31) (mSend X a0 (u 23) 1 (mSnd X a0 (u 23) 0 Dx)) := Dok_send ht hd8 hsx hfx
              have es30 : (mSend X a0 (u 23) 1 (mSnd X a0 (u 23) 0 Dx)).1 = (mSend X a0 (u 23) 1 (mSnd X a0 (u 23) 0 Dx)).1 := rfl
              have eD35 : mSnd X a0 (u 23) 1 (mSnd X a0 (u 23) 0 Dx) = (mSend X a0 (u 23) 1 (mSnd X a0 (u 23) 0 Dx)) := if_pos (by omega)
              have hR35 : Rp a30 (mSnd X a0 (u 23) 1 (mSnd X a0 (u 23) 0 Dx)) := by rw [eD35]; exact hR30
              have hd35 : Dok (((n + (40 - ((k : Nat) : Int))) + 31) + 31) (mSnd X a0 (u 23) 1 (mSnd X a0 (u 23) 0 Dx)) := by rw [eD35]; exact hd30
              have hfl1 : ((mSnd X a0 (u 23) 1 (mSnd X a0 (u 23) 0 Dx))).2.2.1.length ≤ 40 := by have q := mSnd_f (X := X) (a0 := a0) (sure := u 23) (s := 1) (D := (mSnd X a0 (u 23) 0 Dx)); omega
              refine M.run 4 (pc' := 67) (lv' := [some (vr o), some (vi ((i : Nat) : Int)), some (vi 2)]) (st' := [vi 2, vi 2]) rfl ?_
              refine M.icmp_ge (tgt := 93) rfl (qI (by decide)) (qI (by decide)) (by decide) (fun _ => ?_) (fun q => absurd q (by decide))
              have e20b : ((mSnd X a0 (u 23) 1 (mSnd X a0 (u 23) 0 Dx))).1 20 = D.1 20 := (mSnd_k (Or.inr rfl)).trans ((mSnd_k (Or.inr rfl)).trans e20)
              refine M.run 1 (pc' := 94) (lv' := [some (vr o), some (vi ((i : Nat) : Int)), some (vi 2)]) (st' := [vr o]) rfl ?_
              refine M.get fl_X11_7 rfl (isM_o hM30) (kf := 0) (v := vr (am 0)) rfl ?_
              refine M.run 2 (pc' := 100) (lv' := [some (vr o), some (vi ((i : Nat) : Int)), some (vi 2)]) (st' := [vi 20, vr (am 0), vi 20, vr (am 0)]) rfl ?_
              refine M.ialdN (20) rfl (isM_a hM30) (by decide) (by decide) ?_
              rw [show a30 20 = (mSnd X a0 (u 23) 1 (mSnd X a0 (u 23) 0 Dx)).1 20 from Rp_s hR35 (k := 20) (by decide) (by decide) (by decide)]
              refine M.run 2 (pc' := 103) (lv' := [some (vr o), some (vi ((i : Nat) : Int)), some (vi 2)]) (st' := [vi (((mSnd X a0 (u 23) 1 (mSnd X a0 (u 23) 0 Dx)).1 20) + 1), vi 20, vr (am 0)]) rfl ?_
              refine M.iastN (20) rfl (isM_a hM30) (by decide) (by decide) ?_
              have hM37 := isM_setA hM30 (uN a30 20 (((mSnd X a0 (u 23) 1 (mSnd X a0 (u 23) 0 Dx)).1 20) + 1))
              generalize up w32 (am 0) (Ar 0 30042 (uN a30 20 (((mSnd X a0 (u 23) 1 (mSnd X a0 (u 23) 0 Dx)).1 20) + 1))) = w36 at hM37 ⊢
              have hR38 : Rp _ (mS 20 (((mSnd X a0 (u 23) 1 (mSnd X a0 (u 23) 0 Dx)).1 20) + 1) (mSnd X a0 (u 23) 1 (mSnd X a0 (u 23) 0 Dx))) := Rp_us hR35 (((mSnd X a0 (u 23) 1 (mSnd X a0 (u 23) 0 Dx)).1 20) + 1) (k := 20) (by omega) (by omega) (by omega)
              have hF38 := Fr_u (k := 20) (v := ((mSnd X a0 (u 23) 1 (mSnd X a0 (u 23) 0 Dx)).1 20) + 1) hF30 (by omega) (by omega)
              have hd38 := Dok_S (k := 20) (v := ((mSnd X a0 (u 23) 1 (mSnd X a0 (u 23) 0 Dx)).1 20) + 1) hd35 (fun _ _ _ => by unfold Shi; (repeat' split) <;> omega)
              have es38 : (mS 20 (((mSnd X a0 (u 23) 1 (mSnd X a0 (u 23) 0 Dx)).1 20) + 1) (mSnd X a0 (u 23) 1 (mSnd X a0 (u 23) 0 Dx))).1 = uN ((mSnd X a0 (u 23) 1 (mSnd X a0 (u 23) 0 Dx)).1) 20 (((mSnd X a0 (u 23) 1 (mSnd X a0 (u 23) 0 Dx)).1 20) + 1) := rfl
              have eD39 : mSee X a0 (u 23) Dx = (mS 20 (((mSnd X a0 (u 23) 1 (mSnd X a0 (u 23) 0 Dx)).1 20) + 1) (mSnd X a0 (u 23) 1 (mSnd X a0 (u 23) 0 Dx))) := rfl
              have hR39 : Rp (uN a30 20 (((mSnd X a0 (u 23) 1 (mSnd X a0 (u 23) 0 Dx)).1 20) + 1)) (mSee X a0 (u 23) Dx) := by rw [eD39]; exact hR38
              have hd39 : Dok (((n + (40 - ((k : Nat) : Int))) + 31) + 31) (mSee X a0 (u 23) Dx) := by rw [eD39]; exact hd38
              have ekx : ((mSee X a0 (u 23) Dx)).1 18 = Dx.1 18 := mSee_k.1
              refine M.run 1 (pc' := 105) (lv' := [some (vr o), some (vi ((i : Nat) : Int)), some (vi 2)]) (st' := [vr o]) rfl ?_
              refine M.callV (eX11_ringing l G o am u a0 b0 (mSee X a0 (u 23) Dx) _ ht hd39 (by omega) ((mSee X a0 (u 23) Dx).1 20) rfl) cv_X11_393 cd_X11_ringing rfl (st := []) rfl (isM_o hM37) (by decide) (by decide) rfl (Nat.zero_le _) (Nat.zero_le _) ⟨_, _, hM37, hR39, hF38, hB30⟩ (fun r40 w41 q42 => ?_)
              rw [q42.1, q42.2]
              refine M.run 1 (pc' := 109) (lv' := [some (vr o), some (vi ((i : Nat) : Int)), some (vi (if mDue ((mSee X a0 (u 23) Dx).1 20) (mSee X a0 (u 23) Dx).2.2.2.1 < (mSee X a0 (u 23) Dx).2.2.2.1.length then ((mDue ((mSee X a0 (u 23) Dx).1 20) (mSee X a0 (u 23) Dx).2.2.2.1 : Nat) : Int) else -1))]) (st' := []) rfl ?_
              refine M.fgt [false, true, false] ?_
              have Lp109 : ∀ (N : Nat) (Dr : Dy) (k : Nat) (z : Int) (ar : Nat → Int) (br : Nat → Nat → Int) (wr : Wo), (isM o am u ar br wr) → (Rp ar Dr) → (Fr a0 ar) → (Fb b0 br) → (Dok (n + 110) Dr) → (mRings a0 k Dr = mRings a0 16 (mSee X a0 (u 23) Dx)) → (z = (if mDue (Dr.1 20) Dr.2.2.2.1 < Dr.2.2.2.1.length then ((mDue (Dr.1 20) Dr.2.2.2.1 : Nat) : Int) else -1)) → (Dr.2.2.2.1.length ≤ k) → (Dr.1 18 = D.1 18) → k < N → g 0 0 wr 109 [some (vr o), none, some (vi z)] [] := by
                intro N
                induction N with
                | zero => intro Dr k z ar br wr _ _ _ _ _ _ _ _ _ hN; exact absurd hN (Nat.not_lt_zero _)
                | succ N ih109 =>
                  intro Dr k z ar br wr hMr hRr hFr hBr hdr hI2 hz hkt e18r hN
                  refine M.run 1 (pc' := 110) (lv' := [some (vr o), none, some (vi z)]) (st' := [vi z]) rfl ?_
                  have hzt := Dok_t hdr
                  refine M.run 1 (pc' := 111) (lv' := [some (vr o), none, some (vi z)]) (st' := [vi (-1), vi z]) rfl ?_
                  refine M.icmp_eq (tgt := 127) rfl (qI (by omega)) (qI (by decide)) (by decide) (fun h111 => ?_) (fun h111 => ?_)
                  · skip
                    have hnd : ¬ mDue (Dr.1 20) Dr.2.2.2.1 < Dr.2.2.2.1.length := fun hh => by rw [if_pos hh] at hz; omega
                    refine M.run 1 (pc' := 128) (lv' := [some (vr o), none, some (vi z)]) (st' := [vr o]) rfl ?_
                    refine M.get fl_X11_7 rfl (isM_o hMr) (kf := 0) (v := vr (am 0)) rfl ?_
                    refine M.run 2 (pc' := 134) (lv' := [some (vr o), none, some (vi z)]) (st' := [vi 18, vr (am 0), vi 18, vr (am 0)]) rfl ?_
                    refine M.ialdN (18) rfl (isM_a hMr) (by decide) (by decide) ?_
                    rw [show ar 18 = Dr.1 18 from Rp_s hRr (k := 18) (by decide) (by decide) (by decide)]
                    refine M.run 2 (pc' := 137) (lv' := [some (vr o), none, some (vi z)]) (st' := [vi ((Dr.1 18) + 1), vi 18, vr (am 0)]) rfl ?_
                    refine M.iastN (18) rfl (isM_a hMr) (by decide) (by decide) ?_
                    have hM45 := isM_setA hMr (uN ar 18 ((Dr.1 18) + 1))
                    generalize up wr (am 0) (Ar 0 30042 (uN ar 18 ((Dr.1 18) + 1))) = w44 at hM45 ⊢
                    have hR46 : Rp _ (mS 18 ((Dr.1 18) + 1) Dr) := Rp_us hRr ((Dr.1 18) + 1) (k := 18) (by omega) (by omega) (by omega)
                    have hF46 := Fr_u (k := 18) (v := (Dr.1 18) + 1) hFr (by omega) (by omega)
                    have hd46 := Dok_S (k := 18) (v := (Dr.1 18) + 1) hdr (fun _ _ _ => by unfold Shi; (repeat' split) <;> omega)
                    have es46 : (mS 18 ((Dr.1 18) + 1) Dr).1 = uN Dr.1 18 ((Dr.1 18) + 1) := rfl
                    exact M.vret rfl (Nat.zero_le _) (Nat.zero_le _) (by
                        refine ⟨rfl, ?_⟩
                        unfold mTick
                        rw [heq]
                        rw [if_pos h60, show mRings a0 16 (mSee X a0 (u 23) Dx) = Dr from by rw [← hI2]; exact mRings_e hnd]
                        exact ⟨_, _, hM45, hR46, hF46, hBr⟩)
                  · skip
                    have hdu : mDue (Dr.1 20) Dr.2.2.2.1 < Dr.2.2.2.1.length := by by_cases hh : mDue (Dr.1 20) Dr.2.2.2.1 < Dr.2.2.2.1.length; exact hh; rw [if_neg hh] at hz; omega
                    have hz2 : z = ((mDue (Dr.1 20) Dr.2.2.2.1 : Nat) : Int) := by rw [if_pos hdu] at hz; exact hz
                    rw [show z = ((mDue (Dr.1 20) Dr.2.2.2.1 : Nat) : Int) from hz2]
                    refine M.run 2 (pc' := 116) (lv' := [some (vr o), none, some (vi ((mDue (Dr.1 20) Dr.2.2.2.1 : Nat) : Int))]) (st' := [vi ((mDue (Dr.1 20) Dr.2.2.2.1 : Nat) : Int), vr o]) rfl ?_
                    refine M.callV (eX11_ring l G o am u a0 b0 Dr _ ht hdr (by omega)  (mDue (Dr.1 20) Dr.2.2.2.1) (by omega)) cv_X11_396 cd_X11_ring rfl (st := []) rfl (isM_o hMr) (by decide) (by decide) rfl (Nat.zero_le _) (Nat.zero_le _) ⟨_, _, hMr, hRr, hFr, hBr⟩ (fun r48 w49 q50 => ?_)
                    obtain ⟨q50r, a47, b47, hM47, hR47, hF47, hB47⟩ := q50
                    rw [q50r]
                    have hd47 : Dok (n + 110) (mRingOne a0 (mDue (Dr.1 20) Dr.2.2.2.1) Dr) := Dok_ringOne ht hdr (by omega)
                    have es47 : (mRingOne a0 (mDue (Dr.1 20) Dr.2.2.2.1) Dr).1 = (mRingOne a0 (mDue (Dr.1 20) Dr.2.2.2.1) Dr).1 := rfl
                    refine M.run 1 (pc' := 120) (lv' := [some (vr o), none, some (vi ((mDue (Dr.1 20) Dr.2.2.2.1 : Nat) : Int))]) (st' := [vr o]) rfl ?_
                    refine M.callV (eX11_ringing l G o am u a0 b0 (mRingOne a0 (mDue (Dr.1 20) Dr.2.2.2.1) Dr) _ ht hd47 (by omega) ((mRingOne a0 (mDue (Dr.1 20) Dr.2.2.2.1) Dr).1 20) rfl) cv_X11_393 cd_X11_ringing rfl (st := []) rfl (isM_o hM47) (by decide) (by decide) rfl (Nat.zero_le _) (Nat.zero_le _) ⟨_, _, hM47, hR47, hF47, hB47⟩ (fun r52 w53 q54 => ?_)
                    rw [q54.1, q54.2]
                    refine M.run 2 (pc' := 109) (lv' := [some (vr o), none, some (vi (if mDue ((mRingOne a0 (mDue (Dr.1 20) Dr.2.2.2.1) Dr).1 20) (mRingOne a0 (mDue (Dr.1 20) Dr.2.2.2.1) Dr).2.2.2.1 < (mRingOne a0 (mDue (Dr.1 20) Dr.2.2.2.1) Dr).2.2.2.1.length then ((mDue ((mRingOne a0 (mDue (Dr.1 20) Dr.2.2.2.1) Dr).1 20) (mRingOne a0 (mDue (Dr.1 20) Dr.2.2.2.1) Dr).2.2.2.1 : Nat) : Int) else -1))]) (st' := []) rfl ?_
                    exact ih109 ((mRingOne a0 (mDue (Dr.1 20) Dr.2.2.2.1) Dr)) (k - 1) (if mDue ((mRingOne a0 (mDue (Dr.1 20) Dr.2.2.2.1) Dr).1 20) (mRingOne a0 (mDue (Dr.1 20) Dr.2.2.2.1) Dr).2.2.2.1 < (mRingOne a0 (mDue (Dr.1 20) Dr.2.2.2.1) Dr).2.2.2.1.length then ((mDue ((mRingOne a0 (mDue (Dr.1 20) Dr.2.2.2.1) Dr).1 20) (mRingOne a0 (mDue (Dr.1 20) Dr.2.2.2.1) Dr).2.2.2.1 : Nat) : Int) else -1) a47 b47 w49 hM47 hR47 hF47 hB47 (by omega) (by rw [← hI2]; exact (mRings_s (by omega) hdu).symm) rfl (by have q := mRingOne_t (a0 := a0) hdu; omega) ((Kp_ringOne.2 18 (by decide)).trans e18r) (by omega)
              exact Lp109 _ ((mSee X a0 (u 23) Dx)) 16 (if mDue ((mSee X a0 (u 23) Dx).1 20) (mSee X a0 (u 23) Dx).2.2.2.1 < (mSee X a0 (u 23) Dx).2.2.2.1.length then ((mDue ((mSee X a0 (u 23) Dx).1 20) (mSee X a0 (u 23) Dx).2.2.2.1 : Nat) : Int) else -1) ((uN a30 20 (((mSnd X a0 (u 23) 1 (mSnd X a0 (u 23) 0 Dx)).1 20) + 1))) b30 w36 hM37 hR39 hF38 hB30 (Dok_mono (by omega) hd39) rfl rfl (Dok_t hd39) (ekx.trans e18) (Nat.lt_succ_self _)
          · skip
            have hsx : 0 < 2 ∧ 0 < (Dx.2.1 0).length := ⟨by decide, by omega⟩
            have hfx : Dx.2.2.1.length < 40 := by omega
            refine M.run 2 (pc' := 84) (lv' := [some (vr o), some (vi ((i : Nat) : Int)), some (vi 0)]) (st' := [vi 0, vr o]) rfl ?_
            refine M.callV (eX11_sendFirst l G o am u a0 b0 Dx _ ht hdx (by omega)  0 hsx hfx hu X hX) cv_X11_390 cd_X11_sendFirst rfl (st := []) rfl (isM_o hMx) (by decide) (by decide) rfl (Nat.zero_le _) (Nat.zero_le _) ⟨_, _, hMx, hRx, hFx, hBx⟩ (fun r57 w58 q59 => ?_)
            obtain ⟨q59r, a56, b56, hM56, hR56, hF56, hB56⟩ := q59
            rw [q59r]
            have hd56 : Dok ((n + (40 - ((k : Nat) : Int))) + 31) (mSend X a0 (u 23) 0 Dx) := Dok_send ht hdx hsx hfx
            have es56 : (mSend X a0 (u 23) 0 Dx).1 = (mSend X a0 (u 23) 0 Dx).1 := rfl
            have eD61 : mSnd X a0 (u 23) 0 Dx = (mSend X a0 (u 23) 0 Dx) := if_pos (by omega)
            have hR61 : Rp a56 (mSnd X a0 (u 23) 0 Dx) := by rw [eD61]; exact hR56
            have hd61 : Dok ((n + (40 - ((k : Nat) : Int))) + 31) (mSnd X a0 (u 23) 0 Dx) := by rw [eD61]; exact hd56
            have hfl0 : ((mSnd X a0 (u 23) 0 Dx)).2.2.1.length ≤ 39 := by have q := mSnd_f (X := X) (a0 := a0) (sure := u 23) (s := 0) (D := Dx); omega
            refine M.run 4 (pc' := 67) (lv' := [some (vr o), some (vi ((i : Nat) : Int)), some (vi 1)]) (st' := [vi 2, vi 1]) rfl ?_
            refine M.icmp_ge (tgt := 93) rfl (qI (by decide)) (qI (by decide)) (by decide) (fun q => absurd q (by decide)) (fun _ => ?_)
            have hll0 := Dok_l hd61 (s := 0) (by decide)
            have hll1 := Dok_l hd61 (s := 1) (by decide)
            refine M.run 1 (pc' := 71) (lv' := [some (vr o), some (vi ((i : Nat) : Int)), some (vi 1)]) (st' := [vr o]) rfl ?_
            refine M.get fl_X11_7 rfl (isM_o hM56) (kf := 0) (v := vr (am 0)) rfl ?_
            refine M.run 3 (pc' := 78) (lv' := [some (vr o), some (vi ((i : Nat) : Int)), some (vi 1)]) (st' := [vi (24 + 1), vr (am 0)]) rfl ?_
            refine M.ialdN (24 + 1) rfl (isM_a hM56) (by omega) (by decide) ?_
            rw [show a56 (24 + 1) = ((((mSnd X a0 (u 23) 0 Dx).2.1 1).length : Nat) : Int) from Rp_l hR61 (s := 1) (by omega)]
            refine M.if_le (tgt := 87) rfl (qI (by omega)) (by decide) (fun h79 => ?_) (fun h79 => ?_)
            · skip
              have hdm := Dok_mono (m := ((n + (40 - ((k : Nat) : Int))) + 31) + 31) (by omega) hd61
              have eD62 : mSnd X a0 (u 23) 1 (mSnd X a0 (u 23) 0 Dx) = (mSnd X a0 (u 23) 0 Dx) := if_neg (by omega)
              have hR62 : Rp a56 (mSnd X a0 (u 23) 1 (mSnd X a0 (u 23) 0 Dx)) := by rw [eD62]; exact hR61
              have hd62 : Dok (((n + (40 - ((k : Nat) : Int))) + 31) + 31) (mSnd X a0 (u 23) 1 (mSnd X a0 (u 23) 0 Dx)) := by rw [eD62]; exact hdm
              have hfl1 : ((mSnd X a0 (u 23) 1 (mSnd X a0 (u 23) 0 Dx))).2.2.1.length ≤ 40 := by have q := mSnd_f (X := X) (a0 := a0) (sure := u 23) (s := 1) (D := (mSnd X a0 (u 23) 0 Dx)); omega
              refine M.run 4 (pc' := 67) (lv' := [some (vr o), some (vi ((i : Nat) : Int)), some (vi 2)]) (st' := [vi 2, vi 2]) rfl ?_
              refine M.icmp_ge (tgt := 93) rfl (qI (by decide)) (qI (by decide)) (by decide) (fun _ => ?_) (fun q => absurd q (by decide))
              have e20b : ((mSnd X a0 (u 23) 1 (mSnd X a0 (u 23) 0 Dx))).1 20 = D.1 20 := (mSnd_k (Or.inr rfl)).trans ((mSnd_k (Or.inr rfl)).trans e20)
              refine M.run 1 (pc' := 94) (lv' := [some (vr o), some (vi ((i : Nat) : Int)), some (vi 2)]) (st' := [vr o]) rfl ?_
              refine M.get fl_X11_7 rfl (isM_o hM56) (kf := 0) (v := vr (am 0)) rfl ?_
              refine M.run 2 (pc' := 100) (lv' := [some (vr o), some (vi ((i : Nat) : Int)), some (vi 2)]) (st' := [vi 20, vr (am 0), vi 20, vr (am 0)]) rfl ?_
              refine M.ialdN (20) rfl (isM_a hM56) (by decide) (by decide) ?_
              rw [show a56 20 = (mSnd X a0 (u 23) 1 (mSnd X a0 (u 23) 0 Dx)).1 20 from Rp_s hR62 (k := 20) (by decide) (by decide) (by decide)]
              refine M.run 2 (pc' := 103) (lv' := [some (vr o), some (vi ((i : Nat) : Int)), some (vi 2)]) (st' := [vi (((mSnd X a0 (u 23) 1 (mSnd X a0 (u 23) 0 Dx)).1 20) + 1), vi 20, vr (am 0)]) rfl ?_
              refine M.iastN (20) rfl (isM_a hM56) (by decide) (by decide) ?_
              have hM64 := isM_setA hM56 (uN a56 20 (((mSnd X a0 (u 23) 1 (mSnd X a0 (u 23) 0 Dx)).1 20) + 1))
              generalize up w58 (am 0) (Ar 0 30042 (uN a56 20 (((mSnd X a0 (u 23) 1 (mSnd X a0 (u 23) 0 Dx)).1 20) + 1))) = w63 at hM64 ⊢
              have hR65 : Rp _ (mS 20 (((mSnd X a0 (u 23) 1 (mSnd X a0 (u 23) 0 Dx)).1 20) + 1) (mSnd X a0 (u 23) 1 (mSnd X a0 (u 23) 0 Dx))) := Rp_us hR62 (((mSnd X a0 (u 23) 1 (mSnd X a0 (u 23) 0 Dx)).1 20) + 1) (k := 20) (by omega) (by omega) (by omega)
              have hF65 := Fr_u (k := 20) (v := ((mSnd X a0 (u 23) 1 (mSnd X a0 (u 23) 0 Dx)).1 20) + 1) hF56 (by omega) (by omega)
              have hd65 := Dok_S (k := 20) (v := ((mSnd X a0 (u 23) 1 (mSnd X a0 (u 23) 0 Dx)).1 20) + 1) hd62 (fun _ _ _ => by unfold Shi; (repeat' split) <;> omega)
              have es65 : (mS 20 (((mSnd X a0 (u 23) 1 (mSnd X a0 (u 23) 0 Dx)).1 20) + 1) (mSnd X a0 (u 23) 1 (mSnd X a0 (u 23) 0 Dx))).1 = uN ((mSnd X a0 (u 23) 1 (mSnd X a0 (u 23) 0 Dx)).1) 20 (((mSnd X a0 (u 23) 1 (mSnd X a0 (u 23) 0 Dx)).1 20) + 1) := rfl
              have eD66 : mSee X a0 (u 23) Dx = (mS 20 (((mSnd X a0 (u 23) 1 (mSnd X a0 (u 23) 0 Dx)).1 20) + 1) (mSnd X a0 (u 23) 1 (mSnd X a0 (u 23) 0 Dx))) := rfl
              have hR66 : Rp (uN a56 20 (((mSnd X a0 (u 23) 1 (mSnd X a0 (u 23) 0 Dx)).1 20) + 1)) (mSee X a0 (u 23) Dx) := by rw [eD66]; exact hR65
              have hd66 : Dok (((n + (40 - ((k : Nat) : Int))) + 31) + 31) (mSee X a0 (u 23) Dx) := by rw [eD66]; exact hd65
              have ekx : ((mSee X a0 (u 23) Dx)).1 18 = Dx.1 18 := mSee_k.1
              refine M.run 1 (pc' := 105) (lv' := [some (vr o), some (vi ((i : Nat) : Int)), some (vi 2)]) (st' := [vr o]) rfl ?_
              refine M.callV (eX11_ringing l G o am u a0 b0 (mSee X a0 (u 23) Dx) _ ht hd66 (by omega) ((mSee X a0 (u 23) Dx).1 20) rfl) cv_X11_393 cd_X11_ringing rfl (st := []) rfl (isM_o hM64) (by decide) (by decide) rfl (Nat.zero_le _) (Nat.zero_le _) ⟨_, _, hM64, hR66, hF65, hB56⟩ (fun r67 w68 q69 => ?_)
              rw [q69.1, q69.2]
              refine M.run 1 (pc' := 109) (lv' := [some (vr o), some (vi ((i : Nat) : Int)), some (vi (if mDue ((mSee X a0 (u 23) Dx).1 20) (mSee X a0 (u 23) Dx).2.2.2.1 < (mSee X a0 (u 23) Dx).2.2.2.1.length then ((mDue ((mSee X a0 (u 23) Dx).1 20) (mSee X a0 (u 23) Dx).2.2.2.1 : Nat) : Int) else -1))]) (st' := []) rfl ?_
              refine M.fgt [false, true, false] ?_
              have Lp109 : ∀ (N : Nat) (Dr : Dy) (k : Nat) (z : Int) (ar : Nat → Int) (br : Nat → Nat → Int) (wr : Wo), (isM o am u ar br wr) → (Rp ar Dr) → (Fr a0 ar) → (Fb b0 br) → (Dok (n + 110) Dr) → (mRings a0 k Dr = mRings a0 16 (mSee X a0 (u 23) Dx)) → (z = (if mDue (Dr.1 20) Dr.2.2.2.1 < Dr.2.2.2.1.length then ((mDue (Dr.1 20) Dr.2.2.2.1 : Nat) : Int) else -1)) → (Dr.2.2.2.1.length ≤ k) → (Dr.1 18 = D.1 18) → k < N → g 0 0 wr 109 [some (vr o), none, some (vi z)] [] := by
                intro N
                induction N with
                | zero => intro Dr k z ar br wr _ _ _ _ _ _ _ _ _ hN; exact absurd hN (Nat.not_lt_zero _)
                | succ N ih109 =>
                  intro Dr k z ar br wr hMr hRr hFr hBr hdr hI2 hz hkt e18r hN
                  refine M.run 1 (pc' := 110) (lv' := [some (vr o), none, some (vi z)]) (st' := [vi z]) rfl ?_
                  have hzt := Dok_t hdr
                  refine M.run 1 (pc' := 111) (lv' := [some (vr o), none, some (vi z)]) (st' := [vi (-1), vi z]) rfl ?_
                  refine M.icmp_eq (tgt := 127) rfl (qI (by omega)) (qI (by decide)) (by decide) (fun h111 => ?_) (fun h111 => ?_)
                  · skip
                    have hnd : ¬ mDue (Dr.1 20) Dr.2.2.2.1 < Dr.2.2.2.1.length := fun hh => by rw [if_pos hh] at hz; omega
                    refine M.run 1 (pc' := 128) (lv' := [some (vr o), none, some (vi z)]) (st' := [vr o]) rfl ?_
                    refine M.get fl_X11_7 rfl (isM_o hMr) (kf := 0) (v := vr (am 0)) rfl ?_
                    refine M.run 2 (pc' := 134) (lv' := [some (vr o), none, some (vi z)]) (st' := [vi 18, vr (am 0), vi 18, vr (am 0)]) rfl ?_
                    refine M.ialdN (18) rfl (isM_a hMr) (by decide) (by decide) ?_
                    rw [show ar 18 = Dr.1 18 from Rp_s hRr (k := 18) (by decide) (by decide) (by decide)]
                    refine M.run 2 (pc' := 137) (lv' := [some (vr o), none, some (vi z)]) (st' := [vi ((Dr.1 18) + 1), vi 18, vr (am 0)]) rfl ?_
                    refine M.iastN (18) rfl (isM_a hMr) (by decide) (by decide) ?_
                    have hM72 := isM_setA hMr (uN ar 18 ((Dr.1 18) + 1))
                    generalize up wr (am 0) (Ar 0 30042 (uN ar 18 ((Dr.1 18) + 1))) = w71 at hM72 ⊢
                    have hR73 : Rp _ (mS 18 ((Dr.1 18) + 1) Dr) := Rp_us hRr ((Dr.1 18) + 1) (k := 18) (by omega) (by omega) (by omega)
                    have hF73 := Fr_u (k := 18) (v := (Dr.1 18) + 1) hFr (by omega) (by omega)
                    have hd73 := Dok_S (k := 18) (v := (Dr.1 18) + 1) hdr (fun _ _ _ => by unfold Shi; (repeat' split) <;> omega)
                    have es73 : (mS 18 ((Dr.1 18) + 1) Dr).1 = uN Dr.1 18 ((Dr.1 18) + 1) := rfl
                    exact M.vret rfl (Nat.zero_le _) (Nat.zero_le _) (by
                        refine ⟨rfl, ?_⟩
                        unfold mTick
                        rw [heq]
                        rw [if_pos h60, show mRings a0 16 (mSee X a0 (u 23) Dx) = Dr from by rw [← hI2]; exact mRings_e hnd]
                        exact ⟨_, _, hM72, hR73, hF73, hBr⟩)
                  · skip
                    have hdu : mDue (Dr.1 20) Dr.2.2.2.1 < Dr.2.2.2.1.length := by by_cases hh : mDue (Dr.1 20) Dr.2.2.2.1 < Dr.2.2.2.1.length; exact hh; rw [if_neg hh] at hz; omega
                    have hz2 : z = ((mDue (Dr.1 20) Dr.2.2.2.1 : Nat) : Int) := by rw [if_pos hdu] at hz; exact hz
                    rw [show z = ((mDue (Dr.1 20) Dr.2.2.2.1 : Nat) : Int) from hz2]
                    refine M.run 2 (pc' := 116) (lv' := [some (vr o), none, some (vi ((mDue (Dr.1 20) Dr.2.2.2.1 : Nat) : Int))]) (st' := [vi ((mDue (Dr.1 20) Dr.2.2.2.1 : Nat) : Int), vr o]) rfl ?_
                    refine M.callV (eX11_ring l G o am u a0 b0 Dr _ ht hdr (by omega)  (mDue (Dr.1 20) Dr.2.2.2.1) (by omega)) cv_X11_396 cd_X11_ring rfl (st := []) rfl (isM_o hMr) (by decide) (by decide) rfl (Nat.zero_le _) (Nat.zero_le _) ⟨_, _, hMr, hRr, hFr, hBr⟩ (fun r75 w76 q77 => ?_)
                    obtain ⟨q77r, a74, b74, hM74, hR74, hF74, hB74⟩ := q77
                    rw [q77r]
                    have hd74 : Dok (n + 110) (mRingOne a0 (mDue (Dr.1 20) Dr.2.2.2.1) Dr) := Dok_ringOne ht hdr (by omega)
                    have es74 : (mRingOne a0 (mDue (Dr.1 20) Dr.2.2.2.1) Dr).1 = (mRingOne a0 (mDue (Dr.1 20) Dr.2.2.2.1) Dr).1 := rfl
                    refine M.run 1 (pc' := 120) (lv' := [some (vr o), none, some (vi ((mDue (Dr.1 20) Dr.2.2.2.1 : Nat) : Int))]) (st' := [vr o]) rfl ?_
                    refine M.callV (eX11_ringing l G o am u a0 b0 (mRingOne a0 (mDue (Dr.1 20) Dr.2.2.2.1) Dr) _ ht hd74 (by omega) ((mRingOne a0 (mDue (Dr.1 20) Dr.2.2.2.1) Dr).1 20) rfl) cv_X11_393 cd_X11_ringing rfl (st := []) rfl (isM_o hM74) (by decide) (by decide) rfl (Nat.zero_le _) (Nat.zero_le _) ⟨_, _, hM74, hR74, hF74, hB74⟩ (fun r79 w80 q81 => ?_)
                    rw [q81.1, q81.2]
                    refine M.run 2 (pc' := 109) (lv' := [some (vr o), none, some (vi (if mDue ((mRingOne a0 (mDue (Dr.1 20) Dr.2.2.2.1) Dr).1 20) (mRingOne a0 (mDue (Dr.1 20) Dr.2.2.2.1) Dr).2.2.2.1 < (mRingOne a0 (mDue (Dr.1 20) Dr.2.2.2.1) Dr).2.2.2.1.length then ((mDue ((mRingOne a0 (mDue (Dr.1 20) Dr.2.2.2.1) Dr).1 20) (mRingOne a0 (mDue (Dr.1 20) Dr.2.2.2.1) Dr).2.2.2.1 : Nat) : Int) else -1))]) (st' := []) rfl ?_
                    exact ih109 ((mRingOne a0 (mDue (Dr.1 20) Dr.2.2.2.1) Dr)) (k - 1) (if mDue ((mRingOne a0 (mDue (Dr.1 20) Dr.2.2.2.1) Dr).1 20) (mRingOne a0 (mDue (Dr.1 20) Dr.2.2.2.1) Dr).2.2.2.1 < (mRingOne a0 (mDue (Dr.1 20) Dr.2.2.2.1) Dr).2.2.2.1.length then ((mDue ((mRingOne a0 (mDue (Dr.1 20) Dr.2.2.2.1) Dr).1 20) (mRingOne a0 (mDue (Dr.1 20) Dr.2.2.2.1) Dr).2.2.2.1 : Nat) : Int) else -1) a74 b74 w76 hM74 hR74 hF74 hB74 (by omega) (by rw [← hI2]; exact (mRings_s (by omega) hdu).symm) rfl (by have q := mRingOne_t (a0 := a0) hdu; omega) ((Kp_ringOne.2 18 (by decide)).trans e18r) (by omega)
              exact Lp109 _ ((mSee X a0 (u 23) Dx)) 16 (if mDue ((mSee X a0 (u 23) Dx).1 20) (mSee X a0 (u 23) Dx).2.2.2.1 < (mSee X a0 (u 23) Dx).2.2.2.1.length then ((mDue ((mSee X a0 (u 23) Dx).1 20) (mSee X a0 (u 23) Dx).2.2.2.1 : Nat) : Int) else -1) ((uN a56 20 (((mSnd X a0 (u 23) 1 (mSnd X a0 (u 23) 0 Dx)).1 20) + 1))) b56 w63 hM64 hR66 hF65 hB56 (Dok_mono (by omega) hd66) rfl rfl (Dok_t hd66) (ekx.trans e18) (Nat.lt_succ_self _)
            · skip
              have hsx : 1 < 2 ∧ 0 < ((mSnd X a0 (u 23) 0 Dx).2.1 1).length := ⟨by decide, by omega⟩
              have hfx : (mSnd X a0 (u 23) 0 Dx).2.2.1.length < 40 := by omega
              refine M.run 2 (pc' := 84) (lv' := [some (vr o), some (vi ((i : Nat) : Int)), some (vi 1)]) (st' := [vi 1, vr o]) rfl ?_
              refine M.callV (eX11_sendFirst l G o am u a0 b0 (mSnd X a0 (u 23) 0 Dx) _ ht hd61 (by omega)  1 hsx hfx hu X hX) cv_X11_390 cd_X11_sendFirst rfl (st := []) rfl (isM_o hM56) (by decide) (by decide) rfl (Nat.zero_le _) (Nat.zero_le _) ⟨_, _, hM56, hR61, hF56, hB56⟩ (fun r84 w85 q86 => ?_)
              obtain ⟨q86r, a83, b83, hM83, hR83, hF83, hB83⟩ := q86
              rw [q86r]
              have hd83 : Dok (((n + (40 - ((k : Nat) : Int))) + 31) + 31) (mSend X a0 (u 23) 1 (mSnd X a0 (u 23) 0 Dx)) := Dok_send ht hd61 hsx hfx
              have es83 : (mSend X a0 (u 23) 1 (mSnd X a0 (u 23) 0 Dx)).1 = (mSend X a0 (u 23) 1 (mSnd X a0 (u 23) 0 Dx)).1 := rfl
              have eD88 : mSnd X a0 (u 23) 1 (mSnd X a0 (u 23) 0 Dx) = (mSend X a0 (u 23) 1 (mSnd X a0 (u 23) 0 Dx)) := if_pos (by omega)
              have hR88 : Rp a83 (mSnd X a0 (u 23) 1 (mSnd X a0 (u 23) 0 Dx)) := by rw [eD88]; exact hR83
              have hd88 : Dok (((n + (40 - ((k : Nat) : Int))) + 31) + 31) (mSnd X a0 (u 23) 1 (mSnd X a0 (u 23) 0 Dx)) := by rw [eD88]; exact hd83
              have hfl1 : ((mSnd X a0 (u 23) 1 (mSnd X a0 (u 23) 0 Dx))).2.2.1.length ≤ 40 := by have q := mSnd_f (X := X) (a0 := a0) (sure := u 23) (s := 1) (D := (mSnd X a0 (u 23) 0 Dx)); omega
              refine M.run 4 (pc' := 67) (lv' := [some (vr o), some (vi ((i : Nat) : Int)), some (vi 2)]) (st' := [vi 2, vi 2]) rfl ?_
              refine M.icmp_ge (tgt := 93) rfl (qI (by decide)) (qI (by decide)) (by decide) (fun _ => ?_) (fun q => absurd q (by decide))
              have e20b : ((mSnd X a0 (u 23) 1 (mSnd X a0 (u 23) 0 Dx))).1 20 = D.1 20 := (mSnd_k (Or.inr rfl)).trans ((mSnd_k (Or.inr rfl)).trans e20)
              refine M.run 1 (pc' := 94) (lv' := [some (vr o), some (vi ((i : Nat) : Int)), some (vi 2)]) (st' := [vr o]) rfl ?_
              refine M.get fl_X11_7 rfl (isM_o hM83) (kf := 0) (v := vr (am 0)) rfl ?_
              refine M.run 2 (pc' := 100) (lv' := [some (vr o), some (vi ((i : Nat) : Int)), some (vi 2)]) (st' := [vi 20, vr (am 0), vi 20, vr (am 0)]) rfl ?_
              refine M.ialdN (20) rfl (isM_a hM83) (by decide) (by decide) ?_
              rw [show a83 20 = (mSnd X a0 (u 23) 1 (mSnd X a0 (u 23) 0 Dx)).1 20 from Rp_s hR88 (k := 20) (by decide) (by decide) (by decide)]
              refine M.run 2 (pc' := 103) (lv' := [some (vr o), some (vi ((i : Nat) : Int)), some (vi 2)]) (st' := [vi (((mSnd X a0 (u 23) 1 (mSnd X a0 (u 23) 0 Dx)).1 20) + 1), vi 20, vr (am 0)]) rfl ?_
              refine M.iastN (20) rfl (isM_a hM83) (by decide) (by decide) ?_
              have hM90 := isM_setA hM83 (uN a83 20 (((mSnd X a0 (u 23) 1 (mSnd X a0 (u 23) 0 Dx)).1 20) + 1))
              generalize up w85 (am 0) (Ar 0 30042 (uN a83 20 (((mSnd X a0 (u 23) 1 (mSnd X a0 (u 23) 0 Dx)).1 20) + 1))) = w89 at hM90 ⊢
              have hR91 : Rp _ (mS 20 (((mSnd X a0 (u 23) 1 (mSnd X a0 (u 23) 0 Dx)).1 20) + 1) (mSnd X a0 (u 23) 1 (mSnd X a0 (u 23) 0 Dx))) := Rp_us hR88 (((mSnd X a0 (u 23) 1 (mSnd X a0 (u 23) 0 Dx)).1 20) + 1) (k := 20) (by omega) (by omega) (by omega)
              have hF91 := Fr_u (k := 20) (v := ((mSnd X a0 (u 23) 1 (mSnd X a0 (u 23) 0 Dx)).1 20) + 1) hF83 (by omega) (by omega)
              have hd91 := Dok_S (k := 20) (v := ((mSnd X a0 (u 23) 1 (mSnd X a0 (u 23) 0 Dx)).1 20) + 1) hd88 (fun _ _ _ => by unfold Shi; (repeat' split) <;> omega)
              have es91 : (mS 20 (((mSnd X a0 (u 23) 1 (mSnd X a0 (u 23) 0 Dx)).1 20) + 1) (mSnd X a0 (u 23) 1 (mSnd X a0 (u 23) 0 Dx))).1 = uN ((mSnd X a0 (u 23) 1 (mSnd X a0 (u 23) 0 Dx)).1) 20 (((mSnd X a0 (u 23) 1 (mSnd X a0 (u 23) 0 Dx)).1 20) + 1) := rfl
              have eD92 : mSee X a0 (u 23) Dx = (mS 20 (((mSnd X a0 (u 23) 1 (mSnd X a0 (u 23) 0 Dx)).1 20) + 1) (mSnd X a0 (u 23) 1 (mSnd X a0 (u 23) 0 Dx))) := rfl
              have hR92 : Rp (uN a83 20 (((mSnd X a0 (u 23) 1 (mSnd X a0 (u 23) 0 Dx)).1 20) + 1)) (mSee X a0 (u 23) Dx) := by rw [eD92]; exact hR91
              have hd92 : Dok (((n + (40 - ((k : Nat) : Int))) + 31) + 31) (mSee X a0 (u 23) Dx) := by rw [eD92]; exact hd91
              have ekx : ((mSee X a0 (u 23) Dx)).1 18 = Dx.1 18 := mSee_k.1
              refine M.run 1 (pc' := 105) (lv' := [some (vr o), some (vi ((i : Nat) : Int)), some (vi 2)]) (st' := [vr o]) rfl ?_
              refine M.callV (eX11_ringing l G o am u a0 b0 (mSee X a0 (u 23) Dx) _ ht hd92 (by omega) ((mSee X a0 (u 23) Dx).1 20) rfl) cv_X11_393 cd_X11_ringing rfl (st := []) rfl (isM_o hM90) (by decide) (by decide) rfl (Nat.zero_le _) (Nat.zero_le _) ⟨_, _, hM90, hR92, hF91, hB83⟩ (fun r93 w94 q95 => ?_)
              rw [q95.1, q95.2]
              refine M.run 1 (pc' := 109) (lv' := [some (vr o), some (vi ((i : Nat) : Int)), some (vi (if mDue ((mSee X a0 (u 23) Dx).1 20) (mSee X a0 (u 23) Dx).2.2.2.1 < (mSee X a0 (u 23) Dx).2.2.2.1.length then ((mDue ((mSee X a0 (u 23) Dx).1 20) (mSee X a0 (u 23) Dx).2.2.2.1 : Nat) : Int) else -1))]) (st' := []) rfl ?_
              refine M.fgt [false, true, false] ?_
              have Lp109 : ∀ (N : Nat) (Dr : Dy) (k : Nat) (z : Int) (ar : Nat → Int) (br : Nat → Nat → Int) (wr : Wo), (isM o am u ar br wr) → (Rp ar Dr) → (Fr a0 ar) → (Fb b0 br) → (Dok (n + 110) Dr) → (mRings a0 k Dr = mRings a0 16 (mSee X a0 (u 23) Dx)) → (z = (if mDue (Dr.1 20) Dr.2.2.2.1 < Dr.2.2.2.1.length then ((mDue (Dr.1 20) Dr.2.2.2.1 : Nat) : Int) else -1)) → (Dr.2.2.2.1.length ≤ k) → (Dr.1 18 = D.1 18) → k < N → g 0 0 wr 109 [some (vr o), none, some (vi z)] [] := by
                intro N
                induction N with
                | zero => intro Dr k z ar br wr _ _ _ _ _ _ _ _ _ hN; exact absurd hN (Nat.not_lt_zero _)
                | succ N ih109 =>
                  intro Dr k z ar br wr hMr hRr hFr hBr hdr hI2 hz hkt e18r hN
                  refine M.run 1 (pc' := 110) (lv' := [some (vr o), none, some (vi z)]) (st' := [vi z]) rfl ?_
                  have hzt := Dok_t hdr
                  refine M.run 1 (pc' := 111) (lv' := [some (vr o), none, some (vi z)]) (st' := [vi (-1), vi z]) rfl ?_
                  refine M.icmp_eq (tgt := 127) rfl (qI (by omega)) (qI (by decide)) (by decide) (fun h111 => ?_) (fun h111 => ?_)
                  · skip
                    have hnd : ¬ mDue (Dr.1 20) Dr.2.2.2.1 < Dr.2.2.2.1.length := fun hh => by rw [if_pos hh] at hz; omega
                    refine M.run 1 (pc' := 128) (lv' := [some (vr o), none, some (vi z)]) (st' := [vr o]) rfl ?_
                    refine M.get fl_X11_7 rfl (isM_o hMr) (kf := 0) (v := vr (am 0)) rfl ?_
                    refine M.run 2 (pc' := 134) (lv' := [some (vr o), none, some (vi z)]) (st' := [vi 18, vr (am 0), vi 18, vr (am 0)]) rfl ?_
                    refine M.ialdN (18) rfl (isM_a hMr) (by decide) (by decide) ?_
                    rw [show ar 18 = Dr.1 18 from Rp_s hRr (k := 18) (by decide) (by decide) (by decide)]
                    refine M.run 2 (pc' := 137) (lv' := [some (vr o), none, some (vi z)]) (st' := [vi ((Dr.1 18) + 1), vi 18, vr (am 0)]) rfl ?_
                    refine M.iastN (18) rfl (isM_a hMr) (by decide) (by decide) ?_
                    have hM98 := isM_setA hMr (uN ar 18 ((Dr.1 18) + 1))
                    generalize up wr (am 0) (Ar 0 30042 (uN ar 18 ((Dr.1 18) + 1))) = w97 at hM98 ⊢
                    have hR99 : Rp _ (mS 18 ((Dr.1 18) + 1) Dr) := Rp_us hRr ((Dr.1 18) + 1) (k := 18) (by omega) (by omega) (by omega)
                    have hF99 := Fr_u (k := 18) (v := (Dr.1 18) + 1) hFr (by omega) (by omega)
                    have hd99 := Dok_S (k := 18) (v := (Dr.1 18) + 1) hdr (fun _ _ _ => by unfold Shi; (repeat' split) <;> omega)
                    have es99 : (mS 18 ((Dr.1 18) + 1) Dr).1 = uN Dr.1 18 ((Dr.1 18) + 1) := rfl
                    exact M.vret rfl (Nat.zero_le _) (Nat.zero_le _) (by
                        refine ⟨rfl, ?_⟩
                        unfold mTick
                        rw [heq]
                        rw [if_pos h60, show mRings a0 16 (mSee X a0 (u 23) Dx) = Dr from by rw [← hI2]; exact mRings_e hnd]
                        exact ⟨_, _, hM98, hR99, hF99, hBr⟩)
                  · skip
                    have hdu : mDue (Dr.1 20) Dr.2.2.2.1 < Dr.2.2.2.1.length := by by_cases hh : mDue (Dr.1 20) Dr.2.2.2.1 < Dr.2.2.2.1.length; exact hh; rw [if_neg hh] at hz; omega
                    have hz2 : z = ((mDue (Dr.1 20) Dr.2.2.2.1 : Nat) : Int) := by rw [if_pos hdu] at hz; exact hz
                    rw [show z = ((mDue (Dr.1 20) Dr.2.2.2.1 : Nat) : Int) from hz2]
                    refine M.run 2 (pc' := 116) (lv' := [some (vr o), none, some (vi ((mDue (Dr.1 20) Dr.2.2.2.1 : Nat) : Int))]) (st' := [vi ((mDue (Dr.1 20) Dr.2.2.2.1 : Nat) : Int), vr o]) rfl ?_
                    refine M.callV (eX11_ring l G o am u a0 b0 Dr _ ht hdr (by omega)  (mDue (Dr.1 20) Dr.2.2.2.1) (by omega)) cv_X11_396 cd_X11_ring rfl (st := []) rfl (isM_o hMr) (by decide) (by decide) rfl (Nat.zero_le _) (Nat.zero_le _) ⟨_, _, hMr, hRr, hFr, hBr⟩ (fun r101 w102 q103 => ?_)
                    obtain ⟨q103r, a100, b100, hM100, hR100, hF100, hB100⟩ := q103
                    rw [q103r]
                    have hd100 : Dok (n + 110) (mRingOne a0 (mDue (Dr.1 20) Dr.2.2.2.1) Dr) := Dok_ringOne ht hdr (by omega)
                    have es100 : (mRingOne a0 (mDue (Dr.1 20) Dr.2.2.2.1) Dr).1 = (mRingOne a0 (mDue (Dr.1 20) Dr.2.2.2.1) Dr).1 := rfl
                    refine M.run 1 (pc' := 120) (lv' := [some (vr o), none, some (vi ((mDue (Dr.1 20) Dr.2.2.2.1 : Nat) : Int))]) (st' := [vr o]) rfl ?_
                    refine M.callV (eX11_ringing l G o am u a0 b0 (mRingOne a0 (mDue (Dr.1 20) Dr.2.2.2.1) Dr) _ ht hd100 (by omega) ((mRingOne a0 (mDue (Dr.1 20) Dr.2.2.2.1) Dr).1 20) rfl) cv_X11_393 cd_X11_ringing rfl (st := []) rfl (isM_o hM100) (by decide) (by decide) rfl (Nat.zero_le _) (Nat.zero_le _) ⟨_, _, hM100, hR100, hF100, hB100⟩ (fun r105 w106 q107 => ?_)
                    rw [q107.1, q107.2]
                    refine M.run 2 (pc' := 109) (lv' := [some (vr o), none, some (vi (if mDue ((mRingOne a0 (mDue (Dr.1 20) Dr.2.2.2.1) Dr).1 20) (mRingOne a0 (mDue (Dr.1 20) Dr.2.2.2.1) Dr).2.2.2.1 < (mRingOne a0 (mDue (Dr.1 20) Dr.2.2.2.1) Dr).2.2.2.1.length then ((mDue ((mRingOne a0 (mDue (Dr.1 20) Dr.2.2.2.1) Dr).1 20) (mRingOne a0 (mDue (Dr.1 20) Dr.2.2.2.1) Dr).2.2.2.1 : Nat) : Int) else -1))]) (st' := []) rfl ?_
                    exact ih109 ((mRingOne a0 (mDue (Dr.1 20) Dr.2.2.2.1) Dr)) (k - 1) (if mDue ((mRingOne a0 (mDue (Dr.1 20) Dr.2.2.2.1) Dr).1 20) (mRingOne a0 (mDue (Dr.1 20) Dr.2.2.2.1) Dr).2.2.2.1 < (mRingOne a0 (mDue (Dr.1 20) Dr.2.2.2.1) Dr).2.2.2.1.length then ((mDue ((mRingOne a0 (mDue (Dr.1 20) Dr.2.2.2.1) Dr).1 20) (mRingOne a0 (mDue (Dr.1 20) Dr.2.2.2.1) Dr).2.2.2.1 : Nat) : Int) else -1) a100 b100 w102 hM100 hR100 hF100 hB100 (by omega) (by rw [← hI2]; exact (mRings_s (by omega) hdu).symm) rfl (by have q := mRingOne_t (a0 := a0) hdu; omega) ((Kp_ringOne.2 18 (by decide)).trans e18r) (by omega)
              exact Lp109 _ ((mSee X a0 (u 23) Dx)) 16 (if mDue ((mSee X a0 (u 23) Dx).1 20) (mSee X a0 (u 23) Dx).2.2.2.1 < (mSee X a0 (u 23) Dx).2.2.2.1.length then ((mDue ((mSee X a0 (u 23) Dx).1 20) (mSee X a0 (u 23) Dx).2.2.2.1 : Nat) : Int) else -1) ((uN a83 20 (((mSnd X a0 (u 23) 1 (mSnd X a0 (u 23) 0 Dx)).1 20) + 1))) b83 w89 hM90 hR92 hF91 hB83 (Dok_mono (by omega) hd92) rfl rfl (Dok_t hd92) (ekx.trans e18) (Nat.lt_succ_self _)
      · skip
        obtain ⟨q0, q1, q2, q3, q4, q5, q6, q7, q8, q9⟩ := Dok_fr hdx (i := i) (by omega)
        have hcx := Dok_clk hdx
        refine M.run 1 (pc' := 14) (lv' := [some (vr o), some (vi ((i : Nat) : Int)), none]) (st' := [vr o]) rfl ?_
        refine M.get fl_X11_7 rfl (isM_o hMx) (kf := 0) (v := vr (am 0)) rfl ?_
        refine M.run 1 (pc' := 18) (lv' := [some (vr o), some (vi ((i : Nat) : Int)), none]) (st' := [vi ((i : Nat) : Int), vr (am 0)]) rfl ?_
        refine M.callS (kX11_flightAt l G i (by omega)) cs_X11_298 cd_X11_flightAt rfl (st := [vr (am 0)]) rfl (by decide) (by decide) rfl (Nat.zero_le _) (Nat.zero_le _) trivial (fun r109 w110 q111 => ?_)
        rw [q111.1, q111.2]
        refine M.run 2 (pc' := 24) (lv' := [some (vr o), some (vi ((i : Nat) : Int)), none]) (st' := [vi (((385 + 9 * i : Nat) : Int) + 7), vr (am 0)]) rfl ?_
        refine M.ialdN (385 + 9 * i + 7) rfl (isM_a hMx) (by omega) (by decide) ?_
        rw [show ax (385 + 9 * i + 7) = gR Dx.2.2.1 i 7 from Rp_fr hRx (i := i) (k := 7) (by omega) (by decide)]
        refine M.run 1 (pc' := 26) (lv' := [some (vr o), some (vi ((i : Nat) : Int)), none]) (st' := [vr o, vi (gR Dx.2.2.1 i 7)]) rfl ?_
        refine M.get fl_X11_7 rfl (isM_o hMx) (kf := 0) (v := vr (am 0)) rfl ?_
        refine M.run 1 (pc' := 31) (lv' := [some (vr o), some (vi ((i : Nat) : Int)), none]) (st' := [vi 18, vr (am 0), vi (gR Dx.2.2.1 i 7)]) rfl ?_
        refine M.ialdN (18) rfl (isM_a hMx) (by decide) (by decide) ?_
        rw [show ax 18 = Dx.1 18 from Rp_s hRx (k := 18) (by decide) (by decide) (by decide)]
        refine M.icmp_ne (tgt := 43) rfl (qI (by omega)) (qI (by omega)) (by decide) (fun h32 => ?_) (fun h32 => ?_)
        · skip
          refine M.run 2 (pc' := 2) (lv' := [some (vr o), some (vi (((i : Nat) : Int) + 1)), none]) (st' := []) rfl ?_
          exact ih2 Dx (i + 1) (k - 1) ax bx wx hMx hRx hFx hBx (Dok_mono (by omega) hdx) (by rw [hI]; exact mGots_n (by omega) (by omega) h32) (by omega) (by omega) (by omega) (by omega)
        · skip
          refine M.run 2 (pc' := 37) (lv' := [some (vr o), some (vi ((i : Nat) : Int)), none]) (st' := [vi ((i : Nat) : Int), vr o]) rfl ?_
          refine M.callV (eX11_got l G o am u a0 b0 Dx _ ht hdx (by omega)  i (by omega)) cv_X11_384 cd_X11_got rfl (st := []) rfl (isM_o hMx) (by decide) (by decide) rfl (Nat.zero_le _) (Nat.zero_le _) ⟨_, _, hMx, hRx, hFx, hBx⟩ (fun r114 w115 q116 => ?_)
          obtain ⟨q116r, a113, b113, hM113, hR113, hF113, hB113⟩ := q116
          rw [q116r]
          have hd113 : Dok ((n + (40 - ((k : Nat) : Int))) + 1) (mGot a0 i Dx) := Dok_got ht hdx (by omega)
          have es113 : (mGot a0 i Dx).1 = (mGot a0 i Dx).1 := rfl
          have hgl : ((mGot a0 i Dx)).2.2.1.length = Dx.2.2.1.length - 1 := by rw [mGot_f, List.length_eraseIdx, if_pos (by omega)]
          refine M.run 1 (pc' := 2) (lv' := [some (vr o), some (vi ((i : Nat) : Int)), none]) (st' := []) rfl ?_
          exact ih2 ((mGot a0 i Dx)) i (k - 1) a113 b113 w115 hM113 hR113 hF113 hB113 (Dok_mono (by omega) hd113) (by rw [hI]; exact mGots_g (by omega) (by omega) h32) (by omega) (by omega) (by omega) (by omega)
  exact Lp2 _ D 0 D.2.2.1.length a b w hM hR hF hB (Dok_mono (by omega) hd) rfl (by omega) (by omega) (by omega) (Nat.lt_succ_self _)
