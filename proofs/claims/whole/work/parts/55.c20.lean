/-! the class's ways and the model's: what is forgotten, pieces, what comes -/
def pF (c kind lo hi : Int) (r : Rw) : Bool := decide (r 1 = c ∧ (kind = -1 ∨ r 0 = kind) ∧ lo ≤ r 2 ∧ r 2 ≤ hi)
theorem mDrop_c {s : Nat} {p q : Rw → Bool} {D : Dy} (h1 : ∀ r ∈ D.2.1 s, p r = q r) (h2 : ∀ r ∈ D.2.2.2.1, p r = q r) : mDrop s p D = mDrop s q D := by
  unfold mDrop
  rw [List.filter_congr (p := fun r => !p r) (q := fun r => !q r) (fun r hr => by rw [h1 r hr]), List.filter_congr (p := fun r => !(decide (r 8 = (s : Int)) && p r)) (q := fun r => !(decide (r 8 = (s : Int)) && q r)) (fun r hr => by rw [h2 r hr])]
theorem mDrop_0 {s : Nat} {p : Rw → Bool} {D : Dy} (h1 : ∀ r ∈ D.2.1 s, p r = false) (h2 : ∀ r ∈ D.2.2.2.1, p r = false) : mDrop s p D = D := by
  have e1 : (D.2.1 s).filter (fun r => !p r) = D.2.1 s := List.filter_eq_self.mpr (fun r hr => by rw [h1 r hr]; rfl)
  have e2 : D.2.2.2.1.filter (fun r => !(decide (r 8 = (s : Int)) && p r)) = D.2.2.2.1 := List.filter_eq_self.mpr (fun r hr => by rw [h2 r hr, Bool.and_false]; rfl)
  unfold mDrop
  rw [e1, e2, lsS_id]
theorem mDrop_2 {s : Nat} {p q : Rw → Bool} {D : Dy} : mDrop s p (mDrop s q D) = mDrop s (fun r => q r || p r) D := by
  have e1 : ((D.2.1 s).filter (fun r => !q r)).filter (fun r => !p r) = (D.2.1 s).filter (fun r => !(q r || p r)) := by
    rw [List.filter_filter]
    apply List.filter_congr
    intro r _
    cases p r <;> cases q r <;> rfl
  have e2 : (D.2.2.2.1.filter (fun r => !(decide (r 8 = (s : Int)) && q r))).filter (fun r => !(decide (r 8 = (s : Int)) && p r)) = D.2.2.2.1.filter (fun r => !(decide (r 8 = (s : Int)) && (q r || p r))) := by
    rw [List.filter_filter]
    apply List.filter_congr
    intro r _
    cases p r <;> cases q r <;> cases decide (r 8 = (s : Int)) <;> rfl
  unfold mDrop
  show (D.1, lsS (lsS D.2.1 s _) s ((lsS D.2.1 s _ s).filter _), D.2.2.1, (D.2.2.2.1.filter _).filter _, D.2.2.2.2) = _
  rw [lsS_s, lsS_2, e1, e2]
theorem pF_all {n : Int} {r : Rw} {c : Int} (h : rowOk n r) (hn : n ≤ 2147483647) : pF c (-1) 0 2147483647 r = pKS c (-1) 0 r := by
  obtain ⟨h0, h1, h2, h3, h4, h5, h6, h7, h8, h9⟩ := h
  unfold pF pKS
  exact decide_eq_decide.mpr ⟨fun q => ⟨q.1, Or.inl rfl⟩, fun q => ⟨q.1, Or.inl rfl, by omega, by omega⟩⟩
theorem pF_one {r : Rw} {c kind v : Int} (h : ¬ kind = -1) : pF c kind v v r = pKS c kind v r := by
  unfold pF pKS
  exact decide_eq_decide.mpr ⟨fun q => ⟨q.1, Or.inr ⟨q.2.1.resolve_left h, by omega⟩⟩, fun q => ⟨q.1, Or.inr (q.2.resolve_left h).1, by have := (q.2.resolve_left h).2; omega, by have := (q.2.resolve_left h).2; omega⟩⟩
theorem pF_three {r : Rw} {c : Int} (h : r 0 = 3 → r 2 = 0) : pF c 3 0 2147483647 r = pKS c 3 0 r := by
  unfold pF pKS
  exact decide_eq_decide.mpr ⟨fun q => ⟨q.1, Or.inr ⟨q.2.1.resolve_left (by decide), h (q.2.1.resolve_left (by decide))⟩⟩, fun q => ⟨q.1, Or.inr (q.2.resolve_left (by decide)).1, by have := (q.2.resolve_left (by decide)).2; omega, by have := (q.2.resolve_left (by decide)).2; omega⟩⟩
/-- what the law's loop keeps besides: serials of data are at most the block's checkpoints, of cancellings 0; the far side is new or cancelled; a new block has no checkpoints -/
def jR (s : Nat → Int) (r : Rw) : Prop := (∀ b : Nat, b < 3 → r 1 = ((b : Nat) : Int) → r 0 = 0 → r 2 ≤ s (40 + b)) ∧ (r 0 = 3 → r 2 = 0)
def Jok (D : Dy) : Prop := (∀ s : Nat, s < 2 → ∀ r ∈ D.2.1 s, jR D.1 r) ∧ (∀ r ∈ D.2.2.2.1, jR D.1 r) ∧ (∀ b : Nat, b < 3 → D.1 (31 + b) = 0 ∨ D.1 (31 + b) = 3) ∧ ∀ b : Nat, b < 3 → D.1 (28 + b) = 0 → D.1 (40 + b) = 0
section QJK
variable {D : Dy} {a0 : Nat → Int} {n : Int} {X : Nat → Int → Option Gn} {sure : Int}
theorem Jok_ln {s : Nat} {L : List Rw} (h : Jok D) (hL : ∀ r ∈ L, jR D.1 r) : Jok (D.1, lsS D.2.1 s L, D.2.2) := by
  refine ⟨fun t ht q hq => ?_, h.2⟩
  have hq2 : q ∈ lsS D.2.1 s L t := hq
  by_cases e : t = s
  · subst e
    rw [lsS_s] at hq2
    exact hL q hq2
  · rw [lsS_n _ _ e] at hq2
    exact h.1 t ht q hq2
theorem Jok_put {s : Nat} {r : Rw} (h : Jok D) (hs : s < 2) (hr : jR D.1 r) : Jok (mPut s r D) := by
  unfold mPut
  split
  · exact h
  · refine Jok_ln h (fun q hq => ?_)
    rcases List.mem_append.mp hq with h5 | h5
    · exact h.1 s hs q h5
    · rw [List.mem_singleton.mp h5]; exact hr
theorem Jok_drop {s : Nat} {p : Rw → Bool} (h : Jok D) (hs : s < 2) : Jok (mDrop s p D) := by
  have h1 : Jok (D.1, lsS D.2.1 s ((D.2.1 s).filter (fun r => !p r)), D.2.2) := Jok_ln h (fun q hq => h.1 s hs q (List.mem_filter.mp hq).1)
  exact ⟨h1.1, fun q hq => h.2.1 q (List.mem_filter.mp hq).1, h.2.2⟩
theorem Jok_note {r : Rw} (h : Jok D) : Jok (mNote r D) := h
theorem Jok_f {L : List Rw} (h : Jok D) : Jok (D.1, D.2.1, L, D.2.2.2) := h
theorem Jok_S {k : Nat} {v : Int} (h : Jok D) (h1 : 40 ≤ k → k < 43 → D.1 k ≤ v ∧ ¬ D.1 (28 + (k - 40)) = 0) (h3 : 28 ≤ k → k < 31 → ¬ v = 0) (h4 : 31 ≤ k → k < 34 → v = 3) : Jok (mS k v D) := by
  have e : ∀ r : Rw, jR D.1 r → jR (uN D.1 k v) r := fun r q => ⟨fun b hb z1 z2 => by
    have q1 := q.1 b hb z1 z2
    by_cases c : 40 + b = k
    · rw [c, uN_s]
      rw [c] at q1
      exact Int.le_trans q1 (h1 (by omega) (by omega)).1
    · rw [uN_o c]; exact q1, q.2⟩
  refine ⟨fun s hs r q => e r (h.1 s hs r q), fun r q => e r (h.2.1 r q), fun b hb => ?_, fun b hb => ?_⟩
  · show uN D.1 k v (31 + b) = 0 ∨ uN D.1 k v (31 + b) = 3
    by_cases c : 31 + b = k
    · rw [c, uN_s]; exact Or.inr (h4 (by omega) (by omega))
    · rw [uN_o c]; exact h.2.2.1 b hb
  · show uN D.1 k v (28 + b) = 0 → uN D.1 k v (40 + b) = 0
    intro q
    by_cases c : 28 + b = k
    · rw [c, uN_s] at q; exact absurd q (h3 (by omega) (by omega))
    · rw [uN_o c] at q
      by_cases c2 : 40 + b = k
      · have := (h1 (by omega) (by omega)).2
        rw [show 28 + (k - 40) = 28 + b by omega] at this
        exact absurd q this
      · rw [uN_o c2]; exact h.2.2.2 b hb q
theorem Jok_o {k : Nat} {v : Int} (h : Jok D) (hk : k < 28 ∨ 43 ≤ k ∨ (34 ≤ k ∧ k < 40)) : Jok (mS k v D) := Jok_S h (fun _ _ => by omega) (fun _ _ => by omega) (fun _ _ => by omega)
theorem jR_M {s : Nat → Int} {kind c sr f t cl tr : Int} (h : (kind = 0 → ∀ b : Nat, b < 3 → c = ((b : Nat) : Int) → sr ≤ s (40 + b)) ∧ (kind = 3 → sr = 0)) : jR s (rwM kind c sr f t cl tr) := ⟨fun b hb h1 h2 => h.1 h2 b hb h1, h.2⟩
theorem Jok_pieces {b : Nat} {ck : Int} : ∀ (L : List (Nat × Nat)) (D : Dy), Jok D → ck ≤ D.1 (40 + b) → 0 ≤ D.1 (40 + b) → Jok (mPieces b ck L D)
  | [], D, h, _, _ => h
  | q :: [], D, h, h1, h2 => Jok_put h (by decide) (jR_M ⟨fun _ c hc e => by rw [show c = b by omega]; exact h1, fun e => absurd e (by decide)⟩)
  | q :: q2 :: t, D, h, h1, h2 => by
    have e : ∀ r : Rw, (mPut 0 r D).1 = D.1 := fun r => by unfold mPut; split <;> rfl
    exact Jok_pieces (q2 :: t) _ (Jok_put h (by decide) (jR_M ⟨fun _ c hc e => by rw [show c = b by omega]; exact h2, fun e => absurd e (by decide)⟩)) (by rw [e]; exact h1) (by rw [e]; exact h2)
theorem Jok_red {b bits : Nat} (h : Jok D) (hb : b < 3) (h0 : 0 ≤ D.1 (40 + b)) (h1 : ¬ D.1 (28 + b) = 0) : Jok (mRed a0 b bits D) := by
  unfold mRed
  split
  · exact h
  · refine Jok_pieces _ _ (Jok_S h (fun _ _ => ⟨by omega, by rw [show 28 + (40 + b - 40) = 28 + b by omega]; exact h1⟩) (fun _ _ => by omega) (fun _ _ => by omega)) ?_ ?_
    · rw [mS_s]; omega
    · rw [mS_s]; omega
theorem Jok_end {b : Nat} (h : Jok D) (hb : b < 3) : Jok (mEnd b D) := Jok_note (Jok_S h (fun _ _ => by omega) (fun _ _ => by decide) (fun _ _ => by omega))
theorem Jok_checks {b : Nat} (h : Jok D) : ∀ m : Nat, Jok (mChecks b m D)
  | 0 => h
  | m + 1 => Jok_drop (Jok_checks h m) (by decide)
theorem Jok_cancel {b s : Nat} (h : Jok D) (hb : b < 3) (hs : s < 2) : Jok (mCancel b s D) := by
  refine Jok_put (Jok_note (Jok_drop (Jok_S h (fun _ _ => by omega) (fun _ _ => by decide) (fun _ _ => rfl)) hs)) hs (jR_M ⟨fun e => absurd e (by decide), fun _ => rfl⟩)
theorem Jok_open {b : Nat} (h : Jok D) (hb : b < 3) (h0 : 0 ≤ D.1 (40 + b)) : Jok (mOpen a0 b D) := by
  have h1 : Jok (mNote (rwB (D.1 18) 0 b 0) (mS (28 + b) 1 D)) := Jok_note (Jok_S h (fun _ _ => by omega) (fun _ _ => by decide) (fun _ _ => by omega))
  have e40 : (mNote (rwB (D.1 18) 0 b 0) (mS (28 + b) 1 D)).1 (40 + b) = D.1 (40 + b) := uN_o (by omega)
  have e28 : (mNote (rwB (D.1 18) 0 b 0) (mS (28 + b) 1 D)).1 (28 + b) = 1 := uN_s _ _ _
  have h2 : Jok (mRed a0 b (mRedOf a0 b) (mNote (rwB (D.1 18) 0 b 0) (mS (28 + b) 1 D))) := Jok_red h1 hb (by rw [e40]; exact h0) (by rw [e28]; decide)
  have e3 : 0 ≤ (mRed a0 b (mRedOf a0 b) (mNote (rwB (D.1 18) 0 b 0) (mS (28 + b) 1 D))).1 (40 + b) := by
    have e : ∀ (ck : Int) (L : List (Nat × Nat)) (D : Dy), (mPieces b ck L D).1 = D.1 := fun ck L => by
      induction L with
      | nil => intro D; rfl
      | cons q t ih =>
        intro D
        have ep : ∀ (r : Rw) (D : Dy), (mPut 0 r D).1 = D.1 := fun r D => by unfold mPut; split <;> rfl
        cases t with
        | nil => exact ep _ _
        | cons q2 t => exact (ih _).trans (ep _ _)
    unfold mRed
    split
    · rw [e40]; exact h0
    · rw [e, mS_s, e40]; omega
  have h3 := Jok_pieces (b := b) (ck := 0) (bPs (bIn (a0 (15 + b)).toNat (a0 (12 + b)).toNat) (a0 7).toNat) _ h2 e3 e3
  unfold mOpen
  by_cases e : a0 (15 + b) = 0
  · simp only [if_pos e]; exact Jok_end h3 hb
  · simp only [if_neg e]; exact h3
theorem Jok_gotData {b f t : Nat} {serial : Int} (h : Jok D) (hb : b < 3) : Jok (mGotData a0 b serial f t D) := by
  unfold mGotData
  split
  · exact h
  · simp only []
    split
    · exact Jok_o h (by omega)
    · exact Jok_put (Jok_o (Jok_o h (by omega)) (by omega)) (by decide) (jR_M ⟨fun e => absurd e (by decide), fun e => absurd e (by decide)⟩)
theorem gr1_1 {b : Nat} {serial check : Int} : (gr1 b serial check D).1 = D.1 := mPut_1 _ _ _
theorem Jok_gr1 {b : Nat} {serial check : Int} (h : Jok D) : Jok (gr1 b serial check D) := Jok_drop (Jok_put h (by decide) (jR_M ⟨fun e => absurd e (by decide), fun e => absurd e (by decide)⟩)) (by decide)
theorem Jok_gotReport {b claims : Nat} {serial check : Int} (h : Jok D) (hb : b < 3) (h0 : 0 ≤ D.1 (40 + b)) : Jok (mGotReport a0 b serial check claims D) := by
  have h1 : Jok (mS (34 + b) (((D.1 (34 + b)).toNat ||| claims : Nat) : Int) (gr1 b serial check D)) := Jok_o (Jok_gr1 h) (by omega)
  by_cases e : D.1 (28 + b) = 1
  · by_cases h2 : mMiss a0 b ((D.1 (34 + b)).toNat ||| claims) = 0
    · rw [mGotReport_b e h2]; exact Jok_checks (Jok_end h1 hb) _
    · by_cases h3 : check = D.1 (40 + b)
      · rw [mGotReport_c e h2 h3]
        refine Jok_red h1 hb ?_ ?_
        · rw [mS_o (by omega), gr1_1]; exact h0
        · rw [mS_o (by omega), gr1_1, e]; decide
      · rw [mGotReport_d e h2 h3]; exact h1
  · rw [mGotReport_a e]; exact Jok_gr1 h
theorem Jok_gotCancel {s b : Nat} (h : Jok D) (hs : s < 2) (hb : b < 3) : Jok (mGotCancel s b D) := by
  have hr : ∀ q : Nat → Int, jR q (rwM 4 b 0 0 0 0 0) := fun q => jR_M ⟨fun e => absurd e (by decide), fun e => absurd e (by decide)⟩
  unfold mGotCancel
  split
  · exact Jok_put (Jok_drop (Jok_S h (fun _ _ => by omega) (fun _ _ => by decide) (fun _ _ => rfl)) hs) hs (hr _)
  · exact Jok_put h hs (hr _)
theorem Jok_got {i : Nat} (hd : Dok n D) (h : Jok D) (hi : i < D.2.2.1.length) : Jok (mGot a0 i D) := by
  obtain ⟨h0, h1, h2, h3, h4, h5, h6, h7, h8, h9⟩ := Dok_fr hd hi
  have hF : Jok (mF1 i D) := h
  have hc := Dok_cnt hd (x := (gR D.2.2.1 i 1).toNat) (by omega)
  by_cases e0 : gR D.2.2.1 i 0 = 0
  · rw [mGot_0 e0]; exact Jok_gotData hF (by omega)
  by_cases e1 : gR D.2.2.1 i 0 = 1
  · rw [mGot_1 e0 e1]; exact Jok_gotReport hF (by omega) hc.1
  by_cases e2 : gR D.2.2.1 i 0 = 2
  · rw [mGot_2 e0 e1 e2]; exact Jok_drop hF (by omega)
  by_cases e3 : gR D.2.2.1 i 0 = 3
  · rw [mGot_3 e0 e1 e2 e3]; exact Jok_gotCancel hF (by omega) (by omega)
  rw [mGot_4 e0 e1 e2 e3]; exact Jok_drop hF (by omega)
theorem Jok_gots (ht : Tok a0) : ∀ (k i : Nat) {n : Int} {D : Dy}, Dok n D → Jok D → Jok (mGots a0 k i D)
  | 0, _, n, D, hd, h => h
  | k + 1, i, n, D, hd, h => by
    unfold mGots
    split
    · rename_i hi
      split
      · exact Jok_gots ht k i (Dok_got ht hd hi) (Jok_got hd h hi)
      · exact Jok_gots ht k (i + 1) hd h
    · exact h
theorem Jok_anew (h : Jok D) : Jok (mAnew D) := Jok_o h (by omega)
theorem jR_F {s : Nat → Int} {r : Rw} {v z : Int} (h : jR s r) : jR s (rwF r v z) := h
theorem Jok_timer {s : Nat} (h : Jok D) (hs : s < 2) (h0 : 0 < (D.2.1 s).length) : Jok (mTimer X a0 s D) := by
  unfold mTimer
  split
  · exact h
  · refine ⟨h.1, fun r hr => ?_, h.2.2⟩
    rcases List.mem_append.mp hr with q | q
    · exact h.2.1 r q
    · rw [List.mem_singleton.mp q]
      exact jR_F (h.1 s hs _ (gR_mem h0))
theorem Jok_s2 {s : Nat} {r : Rw} (h : Jok D) : Jok (mS2 X a0 sure s r D) := by
  have ha := Jok_anew h
  unfold mS2
  split
  · split
    · exact Jok_note (Jok_o ha (by omega))
    · exact Jok_f ha
  · exact Jok_f h
theorem Jok_snd {s : Nat} (h : Jok D) (hs : s < 2) : Jok (mSnd X a0 sure s D) := by
  unfold mSnd
  split
  · rename_i h0
    have h1 : Jok (mS1 s D) := Jok_o (Jok_o h (by omega)) (by omega)
    have h2 : Jok (mS2 X a0 sure s (gR (D.2.1 s) 0) (mS1 s D)) := Jok_s2 h1
    have e2 : (mS2 X a0 sure s (gR (D.2.1 s) 0) (mS1 s D)).2.1 = D.2.1 := mS2_2
    have h3 : Jok (mS3 X a0 s (gR (D.2.1 s) 0) (mS2 X a0 sure s (gR (D.2.1 s) 0) (mS1 s D))) := by
      unfold mS3
      split
      · exact Jok_timer h2 hs (by rw [e2]; exact h0)
      · exact h2
    exact Jok_ln h3 (fun r hr => h3.1 s hs r ((List.eraseIdx_sublist _ _).mem hr))
  · exact h
theorem Jok_ringOne {i : Nat} (hd : Dok n D) (h : Jok D) (hi : i < D.2.2.2.1.length) : Jok (mRingOne a0 i D) := by
  obtain ⟨h0, h1, h2, h3, h4, h5, h6, h7, h8, h9⟩ := Dok_tr hd hi
  have hr := h.2.1 _ (gR_mem hi)
  have hT : Jok (mNote (rwB (D.1 18) 5 (gR D.2.2.2.1 i 1) (gR D.2.2.2.1 i 0)) (D.1, D.2.1, D.2.2.1, D.2.2.2.1.eraseIdx i, D.2.2.2.2)) := ⟨h.1, fun r q => h.2.1 r ((List.eraseIdx_sublist _ _).mem q), h.2.2⟩
  unfold mRingOne
  simp only []
  split
  · exact Jok_put hT (by omega) (jR_M ⟨fun e b hb e2 => hr.1 b hb e2 e, hr.2⟩)
  · split
    · exact Jok_cancel hT (by omega) (by omega)
    · exact hT
theorem Jok_rings (ht : Tok a0) : ∀ (k : Nat) {D : Dy}, Dok n D → Jok D → Jok (mRings a0 k D)
  | 0, D, _, h => h
  | k + 1, D, hd, h => by
    unfold mRings
    split
    · rename_i hi
      exact Jok_rings ht k (Dok_ringOne ht hd hi) (Jok_ringOne hd h hi)
    · exact h
theorem Jok_tick (ht : Tok a0) (hd : Dok n D) (h : Jok D) (hf : (mGet a0 D).2.2.1.length ≤ 38) (h20 : D.1 20 < 10400) : Jok (mTick X a0 sure D) := by
  have h1 : Jok (mGet a0 D) := Jok_gots ht _ _ hd h
  have hd1 : Dok (n + 40) (mGet a0 D) := Dok_mono (by have := Dok_f hd; omega) (Dok_gots ht D.2.2.1.length 0 hd)
  have e20 : (mGet a0 D).1 20 = D.1 20 := mGots_k (by decide) _ _
  have hd2 := Dok_see (X := X) (sure := sure) ht hd1 hf (by omega)
  have h2 : Jok (mSee X a0 sure (mGet a0 D)) := Jok_o (Jok_snd (Jok_snd h1 (by decide)) (by decide)) (by omega)
  unfold mTick
  split
  · exact Jok_o (Jok_rings ht 16 hd2 h2) (by omega)
  · exact Jok_o h1 (by omega)
theorem mCan_J {b s : Nat} (h : Jok D) (hb : b < 3) : mCan b s D ↔ (D.1 (28 + b) = 1 ∧ (s = 0 ∨ ¬ D.1 (31 + b) = 3)) := by
  have := h.2.2.1 b hb
  constructor
  · intro q; exact ⟨q.1, q.2.imp id (fun z => by omega)⟩
  · intro q; exact ⟨q.1, q.2.imp id (fun z => by omega)⟩
end QJK
