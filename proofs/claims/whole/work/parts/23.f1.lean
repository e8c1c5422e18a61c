/-! what stays true of a state (besides the bounds), and that only what is told counts -/
def cnt7 (c : Int) (L : List Rw) : Nat := L.countP (fun r => decide (c ≤ r 7))
def Inv (D : Dy) : Prop := D.1 20 ≤ D.1 18 ∧ (∀ r ∈ D.2.2.1, D.1 18 ≤ r 7) ∧ ∀ k : Nat, k ≤ 20 → cnt7 (D.1 18 + k) D.2.2.1 ≤ 2 * (20 - k)
theorem cnt7_app (c : Int) (L M : List Rw) : cnt7 c (L ++ M) = cnt7 c L + cnt7 c M := List.countP_append
theorem cnt7_mono {c d : Int} (h : c ≤ d) (L : List Rw) : cnt7 d L ≤ cnt7 c L := List.countP_mono_left (fun r _ q => by
  have q2 : d ≤ r 7 := of_decide_eq_true q
  exact decide_eq_true (Int.le_trans h q2))
theorem cnt7_sub {c : Int} {L M : List Rw} (h : L.Sublist M) : cnt7 c L ≤ cnt7 c M := h.countP_le
theorem cnt7_all {c : Int} : ∀ {L : List Rw}, (∀ r ∈ L, c ≤ r 7) → cnt7 c L = L.length
  | [], _ => rfl
  | r :: t, h => by
    have ih := cnt7_all (c := c) (L := t) (fun q hq => h q (List.mem_cons_of_mem _ hq))
    have e := h r List.mem_cons_self
    unfold cnt7 at ih ⊢
    rw [List.countP_cons, ih]
    simp only [e, decide_true, if_true, List.length_cons]
theorem Kp_Inv {D E : Dy} (h : Kp D E) (hi : Inv D) : Inv E := by
  obtain ⟨h1, h2, h3⟩ := hi
  have e18 := h.2 18 (by decide)
  have e20 := h.2 20 (by decide)
  refine ⟨by omega, ?_, ?_⟩
  · rw [h.1, e18]; exact h2
  · rw [h.1, e18]; exact h3
/-- behind the first part of a tick: what is still in flight comes later -/
def Inv1 (D : Dy) : Prop := D.1 20 ≤ D.1 18 ∧ (∀ r ∈ D.2.2.1, D.1 18 + 1 ≤ r 7) ∧ ∀ k : Nat, k ≤ 20 → cnt7 (D.1 18 + k) D.2.2.1 ≤ 2 * (20 - k)
section QIN
variable {X : Nat → Int → Option Gn} {a0 : Nat → Int} {n sure : Int} {D : Dy}
theorem mGots_fl (a0 : Nat → Int) : ∀ (k i : Nat) (D : Dy), D.2.2.1.length ≤ i + k → (mGots a0 k i D).2.2.1.Sublist D.2.2.1 ∧ ((∀ j : Nat, j < i → j < D.2.2.1.length → ¬ gR D.2.2.1 j 7 = D.1 18) → ∀ r ∈ (mGots a0 k i D).2.2.1, ¬ r 7 = D.1 18)
  | 0, i, D, hl => ⟨List.Sublist.refl _, fun h r hr => by
    have hr2 : r ∈ D.2.2.1 := hr
    obtain ⟨j, hj, e⟩ := List.getElem_of_mem hr2
    have q := h j (by have : j < D.2.2.1.length := hj; omega) hj
    have e2 : gR D.2.2.1 j = r := by
      unfold gR
      rw [List.getD_eq_getElem?_getD, List.getElem?_eq_getElem hj]
      exact e
    rw [e2] at q
    exact q⟩
  | k + 1, i, D, hl => by
    unfold mGots
    split
    · rename_i hi
      split
      · rename_i h7
        obtain ⟨h1, h2⟩ := mGots_fl a0 k i (mGot a0 i D) (by rw [mGot_f, List.length_eraseIdx, if_pos hi]; omega)
        rw [mGot_f] at h1 h2
        rw [mGot_k (by decide)] at h2
        refine ⟨h1.trans (List.eraseIdx_sublist _ _), fun h r hr => h2 (fun j hj hjl => ?_) r hr⟩
        rw [gR_er_lt hj]
        exact h j hj (by omega)
      · rename_i h7
        obtain ⟨h1, h2⟩ := mGots_fl a0 k (i + 1) D (by omega)
        refine ⟨h1, fun h r hr => h2 (fun j hj hjl => ?_) r hr⟩
        by_cases e : j = i
        · subst e; exact h7
        · exact h j (by omega) hjl
    · rename_i hi
      refine ⟨List.Sublist.refl _, fun h r hr => ?_⟩
      obtain ⟨j, hj, e⟩ := List.getElem_of_mem hr
      have q := h j (by have : j < D.2.2.1.length := hj; omega) hj
      have e2 : gR D.2.2.1 j = r := by
        unfold gR
        rw [List.getD_eq_getElem?_getD, List.getElem?_eq_getElem hj]
        exact e
      rw [e2] at q
      exact q
theorem Inv_get (hi : Inv D) : Inv1 (mGet a0 D) := by
  obtain ⟨h1, h2, h3⟩ := hi
  have e18 : (mGet a0 D).1 18 = D.1 18 := mGots_k (by decide) _ _
  have e20 : (mGet a0 D).1 20 = D.1 20 := mGots_k (by decide) _ _
  obtain ⟨g1, g2⟩ := mGots_fl a0 D.2.2.1.length 0 D (by omega)
  refine ⟨by omega, fun r hr => ?_, fun k hk => ?_⟩
  · have q1 := h2 r (g1.subset hr)
    have q2 := g2 (fun j hj => absurd hj (Nat.not_lt_zero _)) r hr
    omega
  · rw [e18]
    exact Nat.le_trans (cnt7_sub g1) (h3 k hk)
theorem Inv1_38 (hi : Inv1 D) : D.2.2.1.length ≤ 38 := by
  obtain ⟨h1, h2, h3⟩ := hi
  have q := h3 1 (by decide)
  rw [show D.1 18 + ((1 : Nat) : Int) = D.1 18 + 1 from rfl, cnt7_all h2] at q
  omega
theorem Inv_38 (hi : Inv D) : (mGet a0 D).2.2.1.length ≤ 38 := Inv1_38 (Inv_get hi)
/-- one side's turn sends nothing or one -/
theorem mSnd_fl {s : Nat} : (mSnd X a0 sure s D).2.2.1 = D.2.2.1 ∨ ∃ r : Rw, (mSnd X a0 sure s D).2.2.1 = D.2.2.1 ++ [r] ∧ r 7 = D.1 18 + a0 6 := by
  unfold mSnd
  split
  · have e18 : (mS1 s D).1 18 = D.1 18 := by
      show uN (uN D.1 21 (D.1 21 + 1)) (46 + (gR (D.2.1 s) 0 1).toNat) (D.1 (46 + (gR (D.2.1 s) 0 1).toNat) + mBy (gR (D.2.1 s) 0)) 18 = D.1 18
      rw [uN_o (by omega), uN_o (by omega)]
    have e3 : (mSend X a0 sure s D).2.2.1 = (mS2 X a0 sure s (gR (D.2.1 s) 0) (mS1 s D)).2.2.1 := mS3_f
    rw [e3]
    unfold mS2
    split
    · split
      · exact Or.inl rfl
      · refine Or.inr ⟨_, rfl, ?_⟩
        show (mAnew (mS1 s D)).1 18 + a0 6 = _
        have : (mAnew (mS1 s D)).1 18 = (mS1 s D).1 18 := mS_o (k := 19) (v := ((mS1 s D).1 19 * 757 + 617).tmod 31091) (D := mS1 s D) (by decide)
        omega
    · refine Or.inr ⟨_, rfl, ?_⟩
      show (mS1 s D).1 18 + a0 6 = _
      omega
  · exact Or.inl rfl
/-- counts of what comes, so many more for each that was sent -/
def Inv2 (j : Nat) (D : Dy) : Prop := D.1 20 ≤ D.1 18 ∧ (∀ r ∈ D.2.2.1, D.1 18 + 1 ≤ r 7 ∧ r 7 ≤ D.1 18 + 20) ∧ ∀ k : Nat, k ≤ 20 → cnt7 (D.1 18 + k) D.2.2.1 ≤ 2 * (20 - k) + j
theorem cnt7_1 (c : Int) (r : Rw) : cnt7 c [r] ≤ 1 := by
  unfold cnt7
  exact List.countP_le_length
theorem cnt7_0 {c : Int} : ∀ {L : List Rw}, (∀ r ∈ L, ¬ c ≤ r 7) → cnt7 c L = 0
  | [], _ => rfl
  | r :: t, h => by
    have ih := cnt7_0 (c := c) (L := t) (fun q hq => h q (List.mem_cons_of_mem _ hq))
    have e := h r List.mem_cons_self
    unfold cnt7 at ih ⊢
    rw [List.countP_cons, ih]
    simp [e]
theorem cnt7_z {c : Int} {L : List Rw} (h : cnt7 c L = 0) : ∀ r ∈ L, ¬ c ≤ r 7 := fun r hr hc => by
  have h2 : ¬ 0 < L.countP (fun r => decide (c ≤ r 7)) := by unfold cnt7 at h; omega
  exact h2 (List.countP_pos_iff.mpr ⟨r, hr, by simpa using hc⟩)
theorem Inv1_2 (hi : Inv1 D) : Inv2 0 D := by
  obtain ⟨h1, h2, h3⟩ := hi
  have q := h3 20 (by decide)
  have q2 := cnt7_z (L := D.2.2.1) (c := D.1 18 + ((20 : Nat) : Int)) (by omega)
  exact ⟨h1, fun r hr => ⟨h2 r hr, by have := q2 r hr; omega⟩, fun k hk => h3 k hk⟩
theorem Inv2_snd {s j : Nat} (ht : Tok a0) (hi : Inv2 j D) : Inv2 (j + 1) (mSnd X a0 sure s D) := by
  obtain ⟨h1, h2, h3⟩ := hi
  have e18 : (mSnd X a0 sure s D).1 18 = D.1 18 := mSnd_k (Or.inl rfl)
  have e20 : (mSnd X a0 sure s D).1 20 = D.1 20 := mSnd_k (Or.inr rfl)
  have h6 := Tok_6 ht
  rcases mSnd_fl (X := X) (a0 := a0) (sure := sure) (s := s) (D := D) with e | ⟨r, e, er⟩
  · refine ⟨by omega, ?_, fun k hk => ?_⟩
    · rw [e, e18]; exact h2
    · rw [e, e18]; have := h3 k hk; omega
  · refine ⟨by omega, ?_, fun k hk => ?_⟩
    · rw [e, e18]
      intro q hq
      rcases List.mem_append.mp hq with z | z
      · exact h2 q z
      · rw [List.mem_singleton.mp z, er]; omega
    · rw [e, e18, cnt7_app]
      have := h3 k hk
      have := cnt7_1 (D.1 18 + k) r
      omega
theorem Inv_S18 {E : Dy} (hi : Inv2 2 E) (h20 : E.1 20 ≤ E.1 18) : Inv (mS 18 (E.1 18 + 1) E) := by
  obtain ⟨h1, h2, h3⟩ := hi
  have e1 : (mS 18 (E.1 18 + 1) E).1 18 = E.1 18 + 1 := mS_s
  have e2 : (mS 18 (E.1 18 + 1) E).1 20 = E.1 20 := mS_o (by decide)
  have e3 : (mS 18 (E.1 18 + 1) E).2.2.1 = E.2.2.1 := rfl
  refine ⟨by omega, fun r hr => ?_, fun k hk => ?_⟩
  · rw [e1]; exact (h2 r hr).1
  · rw [e1, e3]
    by_cases e : k = 20
    · subst e
      rw [cnt7_0 (fun r hr => by have := (h2 r hr).2; omega)]
      exact Nat.zero_le _
    · have q := h3 (k + 1) (by omega)
      rw [show E.1 18 + 1 + (k : Int) = E.1 18 + ((k + 1 : Nat) : Int) by omega]
      omega
theorem Inv_tick (ht : Tok a0) (hi : Inv D) : Inv (mTick X a0 sure D) := by
  have h1 := Inv_get (a0 := a0) hi
  have h2 := Inv1_2 h1
  unfold mTick
  split
  · have h3 := Inv2_snd (X := X) (sure := sure) (s := 1) ht (Inv2_snd (X := X) (sure := sure) (s := 0) ht h2)
    have k1 := mSee_k (X := X) (a0 := a0) (sure := sure) (D := mGet a0 D)
    have e2 : (mSee X a0 sure (mGet a0 D)).2.2.1 = (mSnd X a0 sure 1 (mSnd X a0 sure 0 (mGet a0 D))).2.2.1 := rfl
    have e18 : (mSnd X a0 sure 1 (mSnd X a0 sure 0 (mGet a0 D))).1 18 = (mGet a0 D).1 18 := by rw [mSnd_k (Or.inl rfl), mSnd_k (Or.inl rfl)]
    have kr := Kp_rings (a0 := a0) 16 (D := mSee X a0 sure (mGet a0 D))
    obtain ⟨g1, g2, g3⟩ := h3
    obtain ⟨z1, z2, z3⟩ := h1
    have q18 := kr.2 18 (by decide)
    have q20 := kr.2 20 (by decide)
    -- the sun is one more, the clock not yet
    have hq : ∀ E : Dy, E.2.2.1 = (mSnd X a0 sure 1 (mSnd X a0 sure 0 (mGet a0 D))).2.2.1 → E.1 18 = (mGet a0 D).1 18 → E.1 20 = (mGet a0 D).1 20 + 1 → Inv (mS 18 (E.1 18 + 1) E) := fun E p1 p2 p3 => by
      have y1 : (mS 18 (E.1 18 + 1) E).1 18 = E.1 18 + 1 := mS_s
      have y2 : (mS 18 (E.1 18 + 1) E).1 20 = E.1 20 := mS_o (by decide)
      have y3 : (mS 18 (E.1 18 + 1) E).2.2.1 = E.2.2.1 := rfl
      rw [e18] at g2 g3
      refine ⟨by omega, fun r hr => ?_, fun k hk => ?_⟩
      · rw [y3, p1] at hr
        have := (g2 r hr).1
        omega
      · rw [y1, y3, p1, p2]
        by_cases e : k = 20
        · subst e
          rw [cnt7_0 (fun r hr => by have := (g2 r hr).2; omega)]
          exact Nat.zero_le _
        · have q := g3 (k + 1) (by omega)
          rw [show (mGet a0 D).1 18 + 1 + (k : Int) = (mGet a0 D).1 18 + ((k + 1 : Nat) : Int) by omega]
          omega
    exact hq _ (kr.1.trans e2) (q18.trans k1.1) (q20.trans k1.2)
  · refine Inv_S18 ?_ h2.1
    obtain ⟨z1, z2, z3⟩ := h2
    exact ⟨z1, z2, fun k hk => by have := z3 k hk; omega⟩
end QIN
theorem Inv_open {a0 : Nat → Int} {b : Nat} {D : Dy} (hi : Inv D) : Inv (mOpen a0 b D) := by
  have h1 : Kp D (mPieces b 0 (bPs (bIn (a0 (15 + b)).toNat (a0 (12 + b)).toNat) (a0 7).toNat) (mRed a0 b (mRedOf a0 b) (mNote (rwB (D.1 18) 0 b 0) (mS (28 + b) 1 D)))) := Kp.tr (Kp.tr (Kp.tr (Kp_S (by omega)) Kp_note) Kp_red) (Kp_pieces _)
  unfold mOpen
  simp only []
  split
  · exact Kp_Inv (Kp.tr h1 Kp_end) hi
  · exact Kp_Inv h1 hi
theorem Inv_cancel {b s : Nat} {D : Dy} (hi : Inv D) : Inv (mCancel b s D) := Kp_Inv Kp_cancel hi
theorem Inv_S {k : Nat} {v : Int} {D : Dy} (h : k ≠ 18 ∧ k ≠ 20) (hi : Inv D) : Inv (mS k v D) := by
  obtain ⟨h1, h2, h3⟩ := hi
  have e1 : (mS k v D).1 18 = D.1 18 := mS_o (by omega)
  have e2 : (mS k v D).1 20 = D.1 20 := mS_o (by omega)
  refine ⟨by omega, ?_, ?_⟩
  · rw [e1]; exact h2
  · rw [e1]; exact h3
/-! only what is told counts -/
def TE (tl a0 : Nat → Int) : Prop := (∀ k : Nat, k < 18 → k ≠ 3 → k ≠ 5 → a0 k = tl k) ∧ ∀ k : Nat, 986 ≤ k → k < 1002 → a0 k = tl k
section QTE
variable {X : Nat → Int → Option Gn} {tl a0 : Nat → Int} {n sure : Int} {D : Dy} {b : Nat}
theorem c_redOf (h : TE tl a0) (hb : b < 3) : mRedOf a0 b = mRedOf tl b := by unfold mRedOf; rw [h.1 (15 + b) (by omega) (by omega) (by omega)]
theorem c_red {bits : Nat} (h : TE tl a0) : mRed a0 b bits D = mRed tl b bits D := by unfold mRed; rw [h.1 7 (by decide) (by decide) (by decide)]
theorem c_open (h : TE tl a0) (hb : b < 3) : mOpen a0 b D = mOpen tl b D := by
  unfold mOpen
  rw [c_redOf h hb, c_red h, h.1 (15 + b) (by omega) (by omega) (by omega), h.1 (12 + b) (by omega) (by omega) (by omega), h.1 7 (by decide) (by decide) (by decide)]
theorem c_miss {c : Nat} (h : TE tl a0) (hb : b < 3) : mMiss a0 b c = mMiss tl b c := by unfold mMiss; rw [c_redOf h hb]
theorem c_gotData {serial : Int} {f t : Nat} (h : TE tl a0) (hb : b < 3) : mGotData a0 b serial f t D = mGotData tl b serial f t D := by unfold mGotData; rw [c_redOf h hb]
theorem c_gotReport {serial check : Int} {claims : Nat} (h : TE tl a0) (hb : b < 3) : mGotReport a0 b serial check claims D = mGotReport tl b serial check claims D := by
  unfold mGotReport
  simp only [c_miss h hb, c_red h]
theorem c_got {i : Nat} (h : TE tl a0) (hd : Dok n D) (hi : i < D.2.2.1.length) : mGot a0 i D = mGot tl i D := by
  obtain ⟨q0, q1, q2, q3, q4, q5, q6, q7, q8, q9⟩ := Dok_fr hd hi
  unfold mGot
  simp only []
  rw [c_gotData h (by omega), c_gotReport h (by omega)]
theorem Tok_c (h : TE tl a0) (ht : Tok tl) (h3 : 0 ≤ a0 3 ∧ a0 3 ≤ 30) (h5 : 0 ≤ a0 5 ∧ a0 5 ≤ 29) : Tok a0 := by
  obtain ⟨t1, t2, t3, t4⟩ := ht
  refine ⟨fun k hk => ?_, fun x hx => ?_, ?_, ?_⟩
  · by_cases e3 : k = 3
    · subst e3; exact h3
    · by_cases e5 : k = 5
      · subst e5; exact h5
      · rw [h.1 k hk e3 e5]; exact t1 k hk
  · rw [h.1 (15 + x) (by omega) (by omega) (by omega), h.1 (12 + x) (by omega) (by omega) (by omega)]; exact t2 x hx
  · rw [h.1 10 (by decide) (by decide) (by decide), h.1 11 (by decide) (by decide) (by decide)]; exact t3
  · rw [h.1 9 (by decide) (by decide) (by decide), h.1 11 (by decide) (by decide) (by decide)]; exact t4
theorem c_gots (h : TE tl a0) (ht : Tok tl) : ∀ (k i : Nat) {n : Int} {D : Dy}, Dok n D → mGots a0 k i D = mGots tl k i D
  | 0, _, n, D, _ => rfl
  | k + 1, i, n, D, hd => by
    unfold mGots
    by_cases hi : i < D.2.2.1.length
    · rw [if_pos hi, if_pos hi, c_got h hd hi, c_gots h ht k i (Dok_got ht hd hi), c_gots h ht k (i + 1) hd]
    · rw [if_neg hi, if_neg hi]
theorem c_st (h : TE tl a0) : ∀ k : Nat, laS k → stA a0 D k = stA tl D k := fun k hk => by
  unfold laS at hk
  unfold stA
  by_cases e : k < 18
  · rw [if_pos e, if_pos e]; exact h.1 k e (by omega) (by omega)
  · rw [if_neg e, if_neg e]
theorem c_loss (h : TE tl a0) (ht : Tok tl) (z kind c x : Int) : mLossA X (stA a0 D) z kind c x = mLossA X (stA tl D) z kind c x := mLossA_ext (by show a0 0 ≤ 3; rw [h.1 0 (by decide) (by decide) (by decide)]; exact (ht.1 0 (by decide)).2) (c_st h) _ _ _ _
theorem c_wait (h : TE tl a0) (ht : Tok tl) (kind c x : Int) : mWaitA X (stA a0 D) kind c x = mWaitA X (stA tl D) kind c x := mWaitA_ext (by show a0 0 ≤ 3; rw [h.1 0 (by decide) (by decide) (by decide)]; exact (ht.1 0 (by decide)).2) (c_st h) _ _ _
theorem c_fly {s : Nat} (h : TE tl a0) : mFly a0 s D = mFly tl s D := by unfold mFly; rw [h.1 6 (by decide) (by decide) (by decide)]
theorem c_timer {s : Nat} (h : TE tl a0) (ht : Tok tl) : mTimer X a0 s D = mTimer X tl s D := by unfold mTimer; rw [c_wait h ht]
theorem c_s2 {s : Nat} {r : Rw} (h : TE tl a0) (ht : Tok tl) : mS2 X a0 sure s r D = mS2 X tl sure s r D := by
  unfold mS2
  rw [c_loss h ht, c_fly h, c_fly h, h.1 2 (by decide) (by decide) (by decide)]
theorem c_s3 {s : Nat} {r : Rw} (h : TE tl a0) (ht : Tok tl) : mS3 X a0 s r D = mS3 X tl s r D := by unfold mS3; rw [c_timer h ht]
theorem c_snd {s : Nat} (h : TE tl a0) (ht : Tok tl) : mSnd X a0 sure s D = mSnd X tl sure s D := by unfold mSnd mSend; rw [c_s2 h ht, c_s3 h ht]
theorem c_see (h : TE tl a0) (ht : Tok tl) : mSee X a0 sure D = mSee X tl sure D := by
  unfold mSee
  rw [c_snd h ht, c_snd h ht]
theorem c_ringOne {i : Nat} (h : TE tl a0) : mRingOne a0 i D = mRingOne tl i D := by unfold mRingOne; rw [h.1 8 (by decide) (by decide) (by decide)]
theorem c_rings (h : TE tl a0) : ∀ (k : Nat) {D : Dy}, mRings a0 k D = mRings tl k D
  | 0, D => rfl
  | k + 1, D => by
    unfold mRings
    rw [c_ringOne h, c_rings h k]
theorem c_sn {z : Int} (h : TE tl a0) : mSn a0 z = mSn tl z := by unfold mSn; rw [h.1 9 (by decide) (by decide) (by decide), h.1 10 (by decide) (by decide) (by decide), h.1 11 (by decide) (by decide) (by decide)]
theorem c_tick (h : TE tl a0) (ht : Tok tl) (hd : Dok n D) : mTick X a0 sure D = mTick X tl sure D := by
  unfold mTick mGet
  rw [c_gots h ht _ _ hd, c_sn h, c_see h ht, c_rings h]
end QTE
/-! the steps that can be taken back -/
def svR (a : Nat → Int) (i : Nat) : Nat → Int := fun k => a (1002 + 968 * (((a 5).toNat + i) % 30) + (k - 18))
def gY (L : List Dy) (i : Nat) : Dy := L.getD i (fun _ => 0, fun _ => [], [], [], [])
def Rg (a : Nat → Int) (L : List Dy) : Prop := a 3 = (L.length : Nat) ∧ L.length ≤ 30 ∧ (0 ≤ a 5 ∧ a 5 ≤ 29) ∧ ∀ i : Nat, i < L.length → Rp (svR a i) (gY L i)
/-- a state is remembered; the eldest makes room -/
def pushL (L : List Dy) (D : Dy) : List Dy := (if L.length = 30 then L.tail else L) ++ [D]
theorem gY_app {L : List Dy} {D : Dy} {i : Nat} (h : i < L.length) : gY (L ++ [D]) i = gY L i := by
  unfold gY
  rw [List.getD_eq_getElem?_getD, List.getD_eq_getElem?_getD, List.getElem?_append_left h]
theorem gY_last {L : List Dy} {D : Dy} : gY (L ++ [D]) L.length = D := by
  unfold gY
  rw [List.getD_eq_getElem?_getD, List.getElem?_append_right (Nat.le_refl _), Nat.sub_self]
  rfl
theorem gY_tail {L : List Dy} {j : Nat} : gY L.tail j = gY L (j + 1) := by
  unfold gY
  rw [List.getD_eq_getElem?_getD, List.getD_eq_getElem?_getD, List.getElem?_tail]
theorem gY_drop {L : List Dy} {j : Nat} (h : j < L.dropLast.length) : gY L.dropLast j = gY L j := by
  unfold gY
  rw [List.getD_eq_getElem?_getD, List.getD_eq_getElem?_getD, List.getElem?_dropLast, if_pos (by rw [List.length_dropLast] at h; exact h)]
theorem gY_mem {L : List Dy} {i : Nat} (h : i < L.length) : gY L i ∈ L := by
  unfold gY
  rw [List.getD_eq_getElem?_getD, List.getElem?_eq_getElem h]
  exact List.getElem_mem h
/-- a row tells a state by its cells from 18 to below 986 alone -/
theorem Rp_ext {n : Int} {a b : Nat → Int} {D : Dy} (hd : Dok n D) (h : ∀ k : Nat, 18 ≤ k → k < 986 → b k = a k) (hR : Rp a D) : Rp b D := by
  have hl0 := Dok_l hd (s := 0) (by decide)
  have hl1 := Dok_l hd (s := 1) (by decide)
  have hf := Dok_f hd
  have htt := Dok_t hd
  have hb := Dok_b hd
  refine ⟨fun j j1 j2 j3 => ?_, fun t ht => ⟨?_, fun i c hi hc => ?_⟩, ⟨?_, fun i c hi hc => ?_⟩, ⟨?_, fun i c hi hc => ?_⟩, ⟨?_, fun i hi => ?_⟩⟩
  · rw [h j j1 (by omega)]; exact Rp_s hR j1 j2 j3
  · rw [h _ (by omega) (by omega)]; exact Rp_l hR ht
  · have := Dok_l hd ht
    have hi2 : i < (D.2.1 t).length := hi
    rw [h _ (by omega) (by omega)]; exact Rp_lr hR ht hi hc
  · rw [h _ (by omega) (by omega)]; exact Rp_f hR
  · have hi2 : i < D.2.2.1.length := hi
    rw [h _ (by omega) (by omega)]; exact Rp_fr hR hi hc
  · rw [h _ (by omega) (by omega)]; exact Rp_t hR
  · have hi2 : i < D.2.2.2.1.length := hi
    have := tpc_lt hc
    rw [h _ (by omega) (by omega)]; exact Rp_tr hR hi hc
  · rw [h _ (by omega) (by omega)]; exact Rp_b hR
  · have hi2 : i < D.2.2.2.2.length := hi
    rw [h _ (by omega) (by omega)]; exact Rp_br hR hi
def Lok (n : Int) (L : List Dy) : Prop := ∀ D ∈ L, Dok n D ∧ Inv D ∧ D.1 18 ≤ 9999
theorem Lok_mono {n m : Int} {L : List Dy} (h : n ≤ m) (hL : Lok n L) : Lok m L := fun D hD => ⟨Dok_mono h (hL D hD).1, (hL D hD).2⟩
theorem Lok_push {n : Int} {L : List Dy} {D : Dy} (hL : Lok n L) (hd : Dok n D) (hi : Inv D) (h9 : D.1 18 ≤ 9999) : Lok n (pushL L D) := fun E hE => by
  unfold pushL at hE
  rcases List.mem_append.mp hE with z | z
  · split at z
    · exact hL E (List.mem_of_mem_tail z)
    · exact hL E z
  · rw [List.mem_singleton.mp z]; exact ⟨hd, hi, h9⟩
theorem pushL_len {L : List Dy} {D : Dy} (h : L.length ≤ 30) : (pushL L D).length = min 30 (L.length + 1) := by
  unfold pushL
  rw [List.length_append]
  split
  · rename_i e
    rw [List.length_tail, e]
    rfl
  · show L.length + 1 = _
    omega
