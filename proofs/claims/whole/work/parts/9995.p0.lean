/-! what the law's loop keeps of a standing -/
def PT (n : Int) (tl : Nat → Int) (D : Dy) : Prop := Sok n tl D ∧ Tmo D
def PS (n : Int) (S : TS) : Prop := Tok S.1 ∧ PT n S.1 S.2.1 ∧ (∀ E ∈ S.2.2, PT n S.1 E) ∧ Tz S.1 ∧ (-1 ≤ S.1 2 ∧ S.1 2 < S.1 1) ∧ Sdk S.1
section QPS
variable {tl : Nat → Int} {D : Dy} {n m sure : Int} {X : Nat → Int → Option Gn} {S : TS}
theorem PT_mono (h : n ≤ m) (hp : PT n tl D) : PT m tl D := ⟨Sok_mono h hp.1, hp.2⟩
theorem PS_mono (h : n ≤ m) (hp : PS n S) : PS m S := ⟨hp.1, PT_mono h hp.2.1, fun E hE => PT_mono h (hp.2.2.1 E hE), hp.2.2.2⟩
theorem PS_TS (h : PS n S) : TSok n S := ⟨h.1, h.2.1.1.1, h.2.1.1.2.1, h.2.1.1.2.2.1, fun E hE => ⟨(h.2.2.1 E hE).1.1, (h.2.2.1 E hE).1.2.1, (h.2.2.1 E hE).1.2.2.1⟩⟩
theorem PT_tl {t2 : Nat → Int} (h0 : tl 0 ≤ t2 0) (h : PT n tl D) : PT n t2 D := ⟨⟨h.1.1, h.1.2.1, h.1.2.2.1, h.1.2.2.2.1, fun b hb q => h.1.2.2.2.2 b hb (by omega)⟩, h.2⟩
theorem PS_tl {t2 : Nat → Int} (h : PS n S) (hT : Tok t2) (h0 : S.1 0 ≤ t2 0) (hZ : Tz t2) (h2 : -1 ≤ t2 2 ∧ t2 2 < t2 1) (hS : Sdk t2) : PS n (t2, S.2) := ⟨hT, PT_tl h0 h.2.1, fun E hE => PT_tl h0 (h.2.2.1 E hE), hZ, h2, hS⟩
theorem PS_push {E : Dy} (h : PS n S) (hm : n ≤ m) (hE : PT m S.1 E) : PS m (S.1, E, pushL S.2.2 S.2.1) := by
  refine ⟨h.1, hE, fun F hF => ?_, h.2.2.2⟩
  have hF2 : F ∈ (if S.2.2.length = 30 then S.2.2.tail else S.2.2) ++ [S.2.1] := hF
  rcases List.mem_append.mp hF2 with q | q
  · refine PT_mono hm (h.2.2.1 F ?_)
    split at q
    · exact List.mem_of_mem_tail q
    · exact q
  · rw [List.mem_singleton.mp q]
    exact PT_mono hm h.2.1
theorem PS_open {x : Int} (h : PS n S) : PS (n + 1) (sOpen x S) := by
  unfold sOpen
  split
  · rename_i q
    have h0 : 0 ≤ S.1 0 ∧ S.1 0 ≤ 3 := h.1.1 0 (by decide)
    exact PS_push h (by omega) ⟨Sok_open h.1 (by omega) (by omega) h.2.1.1, Tmo_open h.2.1.2⟩
  · exact PS_mono (by omega) h
theorem PS_cancel {x y : Int} (h : PS n S) : PS n (sCancel x y S) := by
  unfold sCancel
  split
  · rename_i q
    have h0 : 0 ≤ S.1 0 ∧ S.1 0 ≤ 3 := h.1.1 0 (by decide)
    exact PS_push h (Int.le_refl _) ⟨Sok_cancel (by omega) (by omega) q.2.2 h.2.1.1, Tmo_cancel h.2.1.2⟩
  · exact h
theorem PT_tick (hT : Tok tl) (h : PT n tl D) (h9 : D.1 18 < 9999) : PT (n + 110) tl (mTick X tl sure D) := ⟨Sok_tick hT h.1 h9, Tmo_tick hT h.1.1 h.2 (Inv_38 h.1.2.1) (by have := h.1.2.1.1; omega)⟩
theorem PS_tick (h : PS n S) (h9 : ¬ S.2.1.1 18 = 9999) : PS (n + 110) (S.1, mTick X S.1 sure S.2.1, pushL S.2.2 S.2.1) := PS_push h (by omega) (PT_tick h.1 h.2.1 (by have := h.2.1.1.2.2.1; omega))
theorem PS_days : ∀ (k : Nat) {n : Int} {S : TS}, PS n S → PS (n + 110 * k) (sDays X sure k S).2
  | 0, n, S, h => PS_mono (by omega) h
  | k + 1, n, S, h => by
    unfold sDays
    split
    · exact PS_mono (by omega) h
    · rename_i q
      exact PS_mono (by omega) (PS_days k (PS_tick h q))
theorem PS_block {x y : Int} (h : PS n S) : PS n (sBlock x y S) := by
  have h1 := (TSok_block (x := x) (y := y) (PS_TS h)).1
  unfold sBlock at h1 ⊢
  split
  · rename_i q
    rw [if_pos q] at h1
    have h0 : 0 ≤ S.1 0 ∧ S.1 0 ≤ 3 := h.1.1 0 (by decide)
    refine PS_tl h h1 ?_ (fun c hc q2 => ?_) ?_ (fun j hj => ?_)
    · show S.1 0 ≤ uN (uN (uN S.1 (12 + (S.1 0).toNat) x) (15 + (S.1 0).toNat) y) 0 (S.1 0 + 1) 0
      rw [uN_s]; omega
    · have q3 : uN (uN (uN S.1 (12 + (S.1 0).toNat) x) (15 + (S.1 0).toNat) y) 0 (S.1 0 + 1) 0 ≤ ((c : Nat) : Int) := q2
      rw [uN_s] at q3
      have z := h.2.2.2.1 c hc (by omega)
      show uN (uN (uN S.1 (12 + (S.1 0).toNat) x) (15 + (S.1 0).toNat) y) 0 (S.1 0 + 1) (12 + c) = 0 ∧ uN (uN (uN S.1 (12 + (S.1 0).toNat) x) (15 + (S.1 0).toNat) y) 0 (S.1 0 + 1) (15 + c) = 0
      rw [uN_o (by omega), uN_o (by omega), uN_o (by omega), uN_o (by omega), uN_o (by omega), uN_o (by omega)]
      exact z
    · show -1 ≤ uN (uN (uN S.1 (12 + (S.1 0).toNat) x) (15 + (S.1 0).toNat) y) 0 (S.1 0 + 1) 2 ∧ uN (uN (uN S.1 (12 + (S.1 0).toNat) x) (15 + (S.1 0).toNat) y) 0 (S.1 0 + 1) 2 < uN (uN (uN S.1 (12 + (S.1 0).toNat) x) (15 + (S.1 0).toNat) y) 0 (S.1 0 + 1) 1
      rw [uN_o (by decide), uN_o (by omega), uN_o (by omega), uN_o (by decide), uN_o (by omega), uN_o (by omega)]
      exact h.2.2.2.2.1
    · have e : ∀ k : Nat, (k = 4 ∨ 986 ≤ k) → uN (uN (uN S.1 (12 + (S.1 0).toNat) x) (15 + (S.1 0).toNat) y) 0 (S.1 0 + 1) k = S.1 k := fun k hk => by rw [uN_o (by omega), uN_o (by omega), uN_o (by omega)]
      have hj2 : (j : Int) < uN (uN (uN S.1 (12 + (S.1 0).toNat) x) (15 + (S.1 0).toNat) y) 0 (S.1 0 + 1) 4 := hj
      rw [e 4 (Or.inl rfl)] at hj2
      have z := h.2.2.2.2.2 j hj2
      show (0 ≤ uN (uN (uN S.1 (12 + (S.1 0).toNat) x) (15 + (S.1 0).toNat) y) 0 (S.1 0 + 1) (986 + 2 * j) ∧ _) ∧ _
      refine ⟨⟨?_, ?_⟩, ?_, ?_⟩
      · rw [e _ (by omega)]; exact z.1.1
      · show uN (uN (uN S.1 (12 + (S.1 0).toNat) x) (15 + (S.1 0).toNat) y) 0 (S.1 0 + 1) (986 + 2 * j) ≤ 4
        rw [e _ (by omega)]; exact z.1.2
      · show 0 ≤ uN (uN (uN S.1 (12 + (S.1 0).toNat) x) (15 + (S.1 0).toNat) y) 0 (S.1 0 + 1) (986 + 2 * j + 1)
        rw [e _ (by omega)]; exact z.2.1
      · show uN (uN (uN S.1 (12 + (S.1 0).toNat) x) (15 + (S.1 0).toNat) y) 0 (S.1 0 + 1) (986 + 2 * j + 1) ≤ 10
        rw [e _ (by omega)]; exact z.2.2
  · exact h
theorem PS_play1 {f : Nat → Int} {q : Nat} (hv : 2 ≤ f q → 0 ≤ f (q + 1) ∧ f (q + 1) ≤ 30) (h : PS n S) : PS (n + 3400) (sPlay1 X sure f q S).2 := by
  unfold sPlay1
  repeat' split
  · exact PS_mono (by omega) (PS_block h)
  · exact PS_mono (by omega) (PS_open h)
  · exact PS_mono (by omega) (PS_cancel h)
  · exact PS_mono (by omega) (PS_days (f (q + 1)).toNat h)
  · exact PS_mono (by omega) h
theorem PS_play {f : Nat → Int} {t : Nat} (hv : ∀ k : Nat, (k : Int) < f (681 * t) → 2 ≤ f (681 * t + 1 + 3 * k) → 0 ≤ f (681 * t + 1 + 3 * k + 1) ∧ f (681 * t + 1 + 3 * k + 1) ≤ 30) : ∀ (m k : Nat) {n : Int} {S : TS}, (m : Int) + k ≤ f (681 * t) → PS n S → PS (n + 3400 * m) (sPlay X sure f t m k S).2
  | 0, k, n, S, _, hs => PS_mono (by omega) hs
  | m + 1, k, n, S, hm, hs => by
    have h1 := PS_play1 (X := X) (sure := sure) (hv k (by omega)) hs
    unfold sPlay
    split
    · exact PS_mono (by omega) (PS_play hv m (k + 1) (by omega) h1)
    · exact PS_mono (by omega) h1
theorem PT_hap {x : Nat} (hT : Tok tl) (h : PT n tl D) : PT (n + 110) tl (mHap X tl sure x D) := by
  refine ⟨Sok_hap hT h.1, ?_⟩
  unfold mHap
  repeat' split
  · exact Tmo_open h.2
  · exact h.2
  · exact Tmo_cancel h.2
  · exact h.2
  · rename_i q
    exact (PT_tick hT h q).2
  · exact h.2
theorem PT_anew (h : PT n tl D) : PT n tl (mAnew D) := ⟨Sok_anew h.1, Tmo_anew h.2⟩
theorem PT_yr (hT : Tok tl) : ∀ (k : Nat) {n : Int} {D : Dy}, PT n tl D → PT (n + 110 * k) tl (mYr X tl sure k D)
  | 0, n, D, h => PT_mono (by omega) h
  | k + 1, n, D, h => PT_mono (by omega) (PT_yr hT k (PT_hap (x := (D.1 19).toNat) hT (PT_anew h)))
theorem PS_years {x y : Int} (h : PS n S) : PS (n + 4400) (sYears X sure x y S) := by
  unfold sYears
  split
  · rename_i q
    have h2 := h.2.1
    have h3 : PT n S.1 (mS 19 (x * 2 + 491) S.2.1) := ⟨⟨Dok_S (k := 19) (v := x * 2 + 491) h2.1.1 (fun _ _ _ => by unfold Shi; (repeat' split) <;> omega), Inv_S (by decide) h2.1.2.1, by rw [mS_o (by decide)]; exact h2.1.2.2.1, Kok_S (by decide) h2.1.2.2.2⟩, Tmo_S (by decide) h2.2⟩
    exact PS_push h (by omega) (PT_mono (by omega) (PT_yr (X := X) (sure := sure) h.1 y.toNat h3))
  · exact PS_mono (by omega) h
theorem PS_undo (h : PS n S) : PS n (sUndo S) := by
  unfold sUndo
  split
  · exact h
  · exact ⟨h.1, h.2.2.1 _ (gY_mem (by omega)), fun E hE => h.2.2.1 E ((List.dropLast_sublist _).mem hE), h.2.2.2⟩
theorem Tok_u {k : Nat} {v : Int} (h : Tok tl) (hk : k < 9 ∨ 18 ≤ k) (hv : k < 18 → Mlo k ≤ v ∧ v ≤ Mhi k) : Tok (uN tl k v) := by
  refine ⟨fun j hj => ?_, fun x hx => ?_, ?_, ?_⟩
  · by_cases e : j = k
    · subst e; rw [uN_s]; exact hv hj
    · rw [uN_o e]; exact h.1 j hj
  · rw [uN_o (by omega), uN_o (by omega)]; exact h.2.1 x hx
  · rw [uN_o (by omega), uN_o (by omega)]; exact h.2.2.1
  · rw [uN_o (by omega), uN_o (by omega)]; exact h.2.2.2
theorem PS_u {k : Nat} {v : Int} (h : PS n S) (hk : k < 9 ∧ k ≠ 0 ∧ k ≠ 1 ∧ k ≠ 2 ∧ k ≠ 4) (hv : Mlo k ≤ v ∧ v ≤ Mhi k) : PS n (uN S.1 k v, S.2) := by
  refine PS_tl h (Tok_u h.1 (Or.inl hk.1) (fun _ => hv)) ?_ (fun c hc q => ?_) ?_ (fun j hj => ?_)
  · rw [uN_o (by omega)]; exact Int.le_refl _
  · rw [uN_o (by omega)] at q
    rw [uN_o (by omega), uN_o (by omega)]
    exact h.2.2.2.1 c hc q
  · rw [uN_o (by omega), uN_o (by omega)]; exact h.2.2.2.2.1
  · rw [uN_o (by omega)] at hj
    rw [uN_o (by omega), uN_o (by omega)]
    exact h.2.2.2.2.2 j hj
theorem PS_by {x : Int} (h : PS n S) : PS n (sBy x S) := by
  unfold sBy
  split
  · rename_i q
    have h1 : 0 ≤ S.1 1 ∧ S.1 1 ≤ 4 := h.1.1 1 (by decide)
    refine PS_tl h (Tok_u h.1 (Or.inl (by decide)) (fun _ => ?_)) ?_ (fun c hc q => ?_) ?_ (fun j hj => ?_)
    · show -1 ≤ x ∧ x ≤ 3
      omega
    · rw [uN_o (by decide)]; exact Int.le_refl _
    · rw [uN_o (by decide)] at q
      rw [uN_o (by omega), uN_o (by omega)]
      exact h.2.2.2.1 c hc q
    · rw [uN_s, uN_o (by decide)]; omega
    · rw [uN_o (by decide)] at hj
      rw [uN_o (by omega), uN_o (by omega)]
      exact h.2.2.2.2.2 j hj
  · exact h
theorem PS_said {x y : Int} (h : PS n S) : PS n (sSaid x y S) := by
  have h4 : 0 ≤ S.1 4 ∧ S.1 4 ≤ 8 := h.1.1 4 (by decide)
  unfold sSaid
  split
  · refine PS_tl h (Tok_u h.1 (Or.inl (by decide)) (fun _ => by decide)) ?_ (fun c hc q => ?_) ?_ (fun j hj => ?_)
    · rw [uN_o (by decide)]; exact Int.le_refl _
    · rw [uN_o (by decide)] at q
      rw [uN_o (by omega), uN_o (by omega)]
      exact h.2.2.2.1 c hc q
    · rw [uN_o (by decide), uN_o (by decide)]; exact h.2.2.2.2.1
    · rw [uN_s] at hj
      omega
  · split
    · rename_i q
      refine PS_tl h (Tok_u (Tok_u (Tok_u h.1 (Or.inr (by omega)) (fun z => absurd z (by omega))) (Or.inr (by omega)) (fun z => absurd z (by omega))) (Or.inl (by decide)) (fun _ => ?_)) ?_ (fun c hc q2 => ?_) ?_ (fun j hj => ?_)
      · show 0 ≤ S.1 4 + 1 ∧ S.1 4 + 1 ≤ 8
        omega
      · rw [uN_o (by decide), uN_o (by omega), uN_o (by omega)]; exact Int.le_refl _
      · rw [uN_o (by decide), uN_o (by omega), uN_o (by omega)] at q2
        rw [uN_o (by omega), uN_o (by omega), uN_o (by omega), uN_o (by omega), uN_o (by omega), uN_o (by omega)]
        exact h.2.2.2.1 c hc q2
      · rw [uN_o (by decide), uN_o (by omega), uN_o (by omega), uN_o (by decide), uN_o (by omega), uN_o (by omega)]; exact h.2.2.2.2.1
      · rw [uN_s] at hj
        have e1 : ∀ k : Nat, 986 ≤ k → uN (uN (uN S.1 (986 + 2 * (S.1 4).toNat) x) (986 + 2 * (S.1 4).toNat + 1) y) 4 (S.1 4 + 1) k = uN (uN S.1 (986 + 2 * (S.1 4).toNat) x) (986 + 2 * (S.1 4).toNat + 1) y k := fun k hk => uN_o (by omega)
        rw [e1 _ (by omega), e1 _ (by omega)]
        by_cases e : j = (S.1 4).toNat
        · rw [e, uN_o (show 986 + 2 * (S.1 4).toNat ≠ 986 + 2 * (S.1 4).toNat + 1 by omega), uN_s, uN_s]
          omega
        · rw [uN_o (by omega), uN_o (by omega), uN_o (by omega), uN_o (by omega)]
          exact h.2.2.2.2.2 j (by omega)
    · exact h
theorem PS_window {x f z : Int} (h : PS n S) (q : (1 ≤ x ∧ x ≤ 60) ∧ (0 ≤ z ∧ z ≤ x) ∧ 0 ≤ f ∧ f ≤ z - 1) : PS n (uN (uN (uN S.1 9 x) 10 f) 11 z, S.2) := by
  have e : ∀ k : Nat, (k < 9 ∨ 12 ≤ k) → uN (uN (uN S.1 9 x) 10 f) 11 z k = S.1 k := fun k hk => by rw [uN_o (by omega), uN_o (by omega), uN_o (by omega)]
  have e9 : uN (uN (uN S.1 9 x) 10 f) 11 z 9 = x := by rw [uN_o (by decide), uN_o (by decide), uN_s]
  have e10 : uN (uN (uN S.1 9 x) 10 f) 11 z 10 = f := by rw [uN_o (by decide), uN_s]
  have e11 : uN (uN (uN S.1 9 x) 10 f) 11 z 11 = z := uN_s _ _ _
  refine PS_tl h ⟨fun k hk => ?_, fun c hc => ?_, ?_, ?_⟩ ?_ (fun c hc q2 => ?_) ?_ (fun j hj => ?_)
  · by_cases k9 : k = 9
    · subst k9; rw [e9]; show 1 ≤ x ∧ x ≤ 60; omega
    · by_cases k10 : k = 10
      · subst k10; rw [e10]; show 0 ≤ f ∧ f ≤ 59; omega
      · by_cases k11 : k = 11
        · subst k11; rw [e11]; show 1 ≤ z ∧ z ≤ 60; omega
        · rw [e k (by omega)]; exact h.1.1 k hk
  · rw [e _ (by omega), e _ (by omega)]; exact h.1.2.1 c hc
  · rw [e10, e11]; omega
  · rw [e11, e9]; omega
  · rw [e 0 (by decide)]; exact Int.le_refl _
  · rw [e 0 (by decide)] at q2
    rw [e _ (by omega), e _ (by omega)]
    exact h.2.2.2.1 c hc q2
  · rw [e 2 (by decide), e 1 (by decide)]; exact h.2.2.2.2.1
  · rw [e 4 (by decide)] at hj
    rw [e _ (by omega), e _ (by omega)]
    exact h.2.2.2.2.2 j hj
theorem Tok_0 : Tok t0i := ⟨by decide, by decide, by decide, by decide⟩
theorem z12 : ∀ x : Nat, x < 3 → t0i (12 + x) = 0 ∧ t0i (15 + x) = 0 := by decide
theorem PS_0 (hn : 0 ≤ n) : PS n (t0i, D0, []) := by
  refine ⟨Tok_0, ⟨⟨Dok_0 hn, ⟨by decide, fun r hr => absurd hr List.not_mem_nil, fun k hk => ?_⟩, by decide, ⟨fun s hs r hr => absurd hr List.not_mem_nil, fun r hr => absurd hr List.not_mem_nil, fun b hb => Or.inl (D0_0 (by omega)), fun b hb q => D0_0 (by omega)⟩, fun b hb q => D0_0 (by omega)⟩, Tmo_0⟩, fun E hE => absurd hE List.not_mem_nil, fun x hx _ => z12 x hx, by decide, fun j hj => absurd hj (by show ¬ (j : Int) < 0; omega)⟩
  show 0 ≤ 2 * (20 - k)
  exact Nat.zero_le _
end QPS
