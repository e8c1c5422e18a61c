/-! the timers ring later than the sun, and at most 60 later -/
def Tmo (D : Dy) : Prop := ∀ r ∈ D.2.2.2.1, D.1 20 < r 7 ∧ r 7 ≤ D.1 20 + 60
def Sb (D E : Dy) : Prop := E.2.2.2.1.Sublist D.2.2.2.1
theorem Sb.rf {D : Dy} : Sb D D := List.Sublist.refl _
theorem Sb.tr {D E F : Dy} (h : Sb D E) (h2 : Sb E F) : Sb D F := List.Sublist.trans h2 h
theorem Tmo_of {D E : Dy} (h : Tmo D) (s : Sb D E) (e : E.1 20 = D.1 20) : Tmo E := fun r hr => by rw [e]; exact h r (s.mem hr)
section QTM
variable {D : Dy} {a0 : Nat → Int} {n : Int} {X : Nat → Int → Option Gn} {sure : Int}
theorem Sb_put {s : Nat} {r : Rw} : Sb D (mPut s r D) := by unfold mPut; split <;> exact List.Sublist.refl _
theorem Sb_drop {s : Nat} {p : Rw → Bool} : Sb D (mDrop s p D) := List.filter_sublist
theorem Sb_note {r : Rw} : Sb D (mNote r D) := List.Sublist.refl _
theorem Sb_S {k : Nat} {v : Int} : Sb D (mS k v D) := List.Sublist.refl _
theorem Sb_pieces {b ck : Int} : ∀ (L : List (Nat × Nat)) {D : Dy}, Sb D (mPieces b ck L D)
  | [], D => Sb.rf
  | q :: [], D => Sb_put
  | q :: q2 :: t, D => Sb.tr Sb_put (Sb_pieces (q2 :: t))
theorem Sb_red {b bits : Nat} : Sb D (mRed a0 b bits D) := by
  unfold mRed
  split
  · exact Sb.rf
  · exact Sb.tr Sb_S (Sb_pieces _)
theorem Sb_end {b : Nat} : Sb D (mEnd b D) := Sb.tr Sb_S Sb_note
theorem Sb_checks {b : Nat} : ∀ m : Nat, Sb D (mChecks b m D)
  | 0 => Sb.rf
  | m + 1 => Sb.tr (Sb_checks m) Sb_drop
theorem Sb_cancel {b s : Nat} : Sb D (mCancel b s D) := Sb.tr (Sb.tr (Sb.tr Sb_S Sb_drop) Sb_note) Sb_put
theorem Sb_open {b : Nat} : Sb D (mOpen a0 b D) := by
  have h1 : Sb D (mPieces b 0 (bPs (bIn (a0 (15 + b)).toNat (a0 (12 + b)).toNat) (a0 7).toNat) (mRed a0 b (mRedOf a0 b) (mNote (rwB (D.1 18) 0 b 0) (mS (28 + b) 1 D)))) := Sb.tr (Sb.tr (Sb.tr Sb_S Sb_note) Sb_red) (Sb_pieces _)
  unfold mOpen
  simp only []
  split
  · exact Sb.tr h1 Sb_end
  · exact h1
theorem Sb_gotData {b f t : Nat} {serial : Int} : Sb D (mGotData a0 b serial f t D) := by
  unfold mGotData
  split
  · exact Sb.rf
  · simp only []
    split
    · exact Sb_S
    · exact Sb.tr (Sb.tr Sb_S Sb_S) Sb_put
theorem Sb_gr1 {b : Nat} {serial check : Int} : Sb D (gr1 b serial check D) := Sb.tr Sb_put Sb_drop
theorem Sb_gotReport {b claims : Nat} {serial check : Int} : Sb D (mGotReport a0 b serial check claims D) := by
  have h1 : Sb D (mS (34 + b) (((D.1 (34 + b)).toNat ||| claims : Nat) : Int) (gr1 b serial check D)) := Sb.tr Sb_gr1 Sb_S
  by_cases e : D.1 (28 + b) = 1
  · by_cases h2 : mMiss a0 b ((D.1 (34 + b)).toNat ||| claims) = 0
    · rw [mGotReport_b e h2]; exact Sb.tr (Sb.tr h1 Sb_end) (Sb_checks _)
    · by_cases h3 : check = D.1 (40 + b)
      · rw [mGotReport_c e h2 h3]; exact Sb.tr h1 Sb_red
      · rw [mGotReport_d e h2 h3]; exact h1
  · rw [mGotReport_a e]; exact Sb_gr1
theorem Sb_gotCancel {s b : Nat} : Sb D (mGotCancel s b D) := by
  unfold mGotCancel
  split
  · exact Sb.tr (Sb.tr Sb_S Sb_drop) Sb_put
  · exact Sb_put
theorem Sb_F {i : Nat} : Sb D (mF1 i D) := List.Sublist.refl _
theorem Sb_got {i : Nat} : Sb D (mGot a0 i D) := by
  by_cases e0 : gR D.2.2.1 i 0 = 0
  · rw [mGot_0 e0]; exact Sb.tr Sb_F Sb_gotData
  by_cases e1 : gR D.2.2.1 i 0 = 1
  · rw [mGot_1 e0 e1]; exact Sb.tr Sb_F Sb_gotReport
  by_cases e2 : gR D.2.2.1 i 0 = 2
  · rw [mGot_2 e0 e1 e2]; exact Sb.tr Sb_F Sb_drop
  by_cases e3 : gR D.2.2.1 i 0 = 3
  · rw [mGot_3 e0 e1 e2 e3]; exact Sb.tr Sb_F Sb_gotCancel
  rw [mGot_4 e0 e1 e2 e3]; exact Sb.tr Sb_F Sb_drop
theorem Sb_gots : ∀ (k i : Nat) {D : Dy}, Sb D (mGots a0 k i D)
  | 0, _, D => Sb.rf
  | k + 1, i, D => by
    unfold mGots
    split
    · split
      · exact Sb.tr Sb_got (Sb_gots k i)
      · exact Sb_gots k (i + 1)
    · exact Sb.rf
theorem Tmo_timer {s : Nat} (ht : 1 ≤ a0 6 ∧ a0 6 ≤ 20) (h : Tmo D) : Tmo (mTimer X a0 s D) := by
  unfold mTimer
  split
  · exact h
  · intro r hr
    have hw := mWaitA_b (X := X) (a := stA a0 D) (kind := gR (D.2.1 s) 0 0) (c := gR (D.2.1 s) 0 1) (x := gR (D.2.1 s) 0 6) (show 1 ≤ a0 6 ∧ a0 6 ≤ 20 from ht)
    rcases List.mem_append.mp hr with q | q
    · exact h r q
    · rw [List.mem_singleton.mp q]
      show D.1 20 < D.1 20 + _ ∧ D.1 20 + _ ≤ D.1 20 + 60
      omega
theorem Tmo_S {k : Nat} {v : Int} (hk : k ≠ 20) (h : Tmo D) : Tmo (mS k v D) := Tmo_of h Sb_S (uN_o hk.symm)
theorem Tmo_s2 {s : Nat} {r : Rw} (h : Tmo D) : Tmo (mS2 X a0 sure s r D) := by
  have ha : Tmo (mAnew D) := Tmo_S (by decide) h
  unfold mS2
  split
  · split
    · exact Tmo_of (Tmo_S (k := 22) (v := (mAnew D).1 22 + 1) (by decide) ha) Sb_note rfl
    · exact ha
  · exact h
theorem Tmo_snd {s : Nat} (ht : 1 ≤ a0 6 ∧ a0 6 ≤ 20) (h : Tmo D) : Tmo (mSnd X a0 sure s D) := by
  unfold mSnd
  split
  · have h1 : Tmo (mS1 s D) := Tmo_S (by omega) (Tmo_S (by decide) h)
    have h2 : Tmo (mS2 X a0 sure s (gR (D.2.1 s) 0) (mS1 s D)) := Tmo_s2 h1
    have h3 : Tmo (mS3 X a0 s (gR (D.2.1 s) 0) (mS2 X a0 sure s (gR (D.2.1 s) 0) (mS1 s D))) := by
      unfold mS3
      split
      · exact Tmo_timer ht h2
      · exact h2
    exact h3
  · exact h
theorem Sb_ringOne {i : Nat} : (mRingOne a0 i D).2.2.2.1.Sublist (D.2.2.2.1.eraseIdx i) := by
  have h1 : Sb (D.1, D.2.1, D.2.2.1, D.2.2.2.1.eraseIdx i, D.2.2.2.2) (mNote (rwB (D.1 18) 5 (gR D.2.2.2.1 i 1) (gR D.2.2.2.1 i 0)) (D.1, D.2.1, D.2.2.1, D.2.2.2.1.eraseIdx i, D.2.2.2.2)) := Sb_note
  unfold mRingOne
  simp only []
  split
  · exact Sb.tr h1 Sb_put
  · split
    · exact Sb.tr h1 Sb_cancel
    · exact h1
theorem mDue_all {sun : Int} : ∀ (L : List Rw), ¬ mDue sun L < L.length → ∀ r ∈ L, sun < r 7
  | [], _, r, hr => absurd hr List.not_mem_nil
  | q :: t, h, r, hr => by
    unfold mDue at h
    by_cases c : q 7 ≤ sun
    · rw [if_pos c] at h
      exact absurd (Nat.zero_lt_succ _) h
    · rw [if_neg c] at h
      rcases List.mem_cons.mp hr with e | e
      · rw [e]; omega
      · exact mDue_all t (fun z => h (by show mDue sun t + 1 < t.length + 1; omega)) r e
theorem rings_all : ∀ (k : Nat) {D : Dy}, D.2.2.2.1.length ≤ k → (∀ r ∈ (mRings a0 k D).2.2.2.1, D.1 20 < r 7) ∧ Sb D (mRings a0 k D)
  | 0, D, h => ⟨fun r hr => by
      have e : D.2.2.2.1 = [] := List.length_eq_zero_iff.mp (by omega)
      have hr2 : r ∈ D.2.2.2.1 := hr
      rw [e] at hr2
      exact absurd hr2 List.not_mem_nil, Sb.rf⟩
  | k + 1, D, h => by
    unfold mRings
    split
    · rename_i hi
      have hs := Sb_ringOne (a0 := a0) (D := D) (i := mDue (D.1 20) D.2.2.2.1)
      have hl := hs.length_le
      rw [List.length_eraseIdx_of_lt hi] at hl
      have ih := rings_all k (D := mRingOne a0 (mDue (D.1 20) D.2.2.2.1) D) (by omega)
      rw [Kp_ringOne.2 20 (by decide)] at ih
      exact ⟨ih.1, Sb.tr (hs.trans (List.eraseIdx_sublist _ _)) ih.2⟩
    · rename_i hi
      exact ⟨mDue_all _ hi, Sb.rf⟩
theorem Tmo_tick (ht : Tok a0) (hd : Dok n D) (h : Tmo D) (hf : (mGet a0 D).2.2.1.length ≤ 38) (h20 : D.1 20 < 10400) : Tmo (mTick X a0 sure D) := by
  have h6 := Tok_6 ht
  have e20 : (mGet a0 D).1 20 = D.1 20 := mGots_k (by decide) _ _
  have h1 : Tmo (mGet a0 D) := Tmo_of h (Sb_gots _ _) e20
  have hd1 : Dok (n + 40) (mGet a0 D) := Dok_mono (by have := Dok_f hd; omega) (Dok_gots ht D.2.2.1.length 0 hd)
  have hd2 := Dok_see (X := X) (sure := sure) ht hd1 hf (by omega)
  have h2 : Tmo (mSnd X a0 sure 1 (mSnd X a0 sure 0 (mGet a0 D))) := Tmo_snd h6 (Tmo_snd h6 h1)
  unfold mTick
  split
  · have hr := rings_all (a0 := a0) 16 (D := mSee X a0 sure (mGet a0 D)) (by have := Dok_t hd2; omega)
    have e1 : (mRings a0 16 (mSee X a0 sure (mGet a0 D))).1 20 = (mSee X a0 sure (mGet a0 D)).1 20 := (Kp_rings 16).2 20 (by decide)
    refine Tmo_S (by decide) (fun r q => ?_)
    rw [e1]
    refine ⟨hr.1 r q, ?_⟩
    have q2 : r ∈ (mSnd X a0 sure 1 (mSnd X a0 sure 0 (mGet a0 D))).2.2.2.1 := hr.2.mem q
    have q3 := (h2 r q2).2
    show r 7 ≤ uN (mSnd X a0 sure 1 (mSnd X a0 sure 0 (mGet a0 D))).1 20 ((mSnd X a0 sure 1 (mSnd X a0 sure 0 (mGet a0 D))).1 20 + 1) 20 + 60
    rw [uN_s]
    omega
  · exact Tmo_S (by decide) h1
theorem Tmo_open {b : Nat} (h : Tmo D) : Tmo (mOpen a0 b D) := Tmo_of h Sb_open (Kp_open.2 20 (by decide))
theorem Tmo_cancel {b s : Nat} (h : Tmo D) : Tmo (mCancel b s D) := Tmo_of h Sb_cancel (Kp_cancel.2 20 (by decide))
theorem Tmo_anew (h : Tmo D) : Tmo (mAnew D) := Tmo_S (by decide) h
theorem Tmo_0 : Tmo D0 := fun r hr => absurd hr List.not_mem_nil
end QTM
