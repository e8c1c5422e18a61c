/-! the token at hand: the class's by its place in the row, the reference's by its fields -/
abbrev isSg (x : Int) : Prop := x = 60 ∨ x = 62 ∨ x = 61 ∨ x = 35 ∨ x = 43 ∨ x = 45 ∨ x = 42 ∨ x = 47 ∨ x = 40 ∨ x = 41 ∨ x = 58 ∨ x = 59
def sgR (x : Int) (n : Nat) : Int := if n = 2 then (if x = 60 then 4 else 5) else if isSg x then x else 3
def tkI (b : Nat → Int) (t s : Nat) (u : Nat → Int) : Prop := u 4 = ((t : Nat) : Int) ∧ u 8 = ((s : Nat) : Int) ∧ s ≤ t ∧ (s = t → u 9 = 0 ∧ u 7 = ((t : Nat) : Int)) ∧ (s < t → ¬ isBl (b s) ∧ u 7 = ((tkE b t s : Nat) : Int) ∧ (isLt (b s) → u 9 = 2 ∧ u 11 = pkW b s (tkE b t s - s)) ∧ (¬ isLt (b s) → isDg (b s) → u 9 = 1 ∧ u 10 = fgR b s (tkE b t s - s)) ∧ (¬ isLt (b s) → ¬ isDg (b s) → u 9 = sgR (b s) (tkE b t s - s)))
def isTk (b : Nat → Int) (t j : Nat) (u : Nat → Int) : Prop := ∃ s, (tkL b t).drop j = tkS b t s ∧ tkI b t s u
section QTK
variable {b : Nat → Int} {t s j : Nat} {u : Nat → Int}
theorem gTk_d {L T : List (Int × Int × Int)} {x : Int × Int × Int} (h : L.drop j = x :: T) : gTk L j = x ∧ L.drop (j + 1) = T := by
  have h1 : (L.drop j)[0]? = some x := by rw [h]; rfl
  rw [List.getElem?_drop] at h1
  refine ⟨?_, ?_⟩
  · unfold gTk
    rw [List.getD_eq_getElem?_getD, show j = j + 0 from rfl, h1]
    rfl
  · rw [← List.drop_drop, h]
    rfl
theorem isTk_g (h : isTk b t j u) : ∃ s, tkI b t s u ∧ ((s = t ∧ gTk (tkL b t) j = (51, 0, ((t : Nat) : Int))) ∨ (s < t ∧ gTk (tkL b t) j = tkT b t s ∧ (tkL b t).drop (j + 1) = tkS b t (tkE b t s))) := by
  obtain ⟨s, h1, h2⟩ := h
  refine ⟨s, h2, ?_⟩
  rcases Nat.lt_or_ge s t with q | q
  · obtain ⟨_, _, _, _, h3⟩ := h2
    rw [tkS_t q (h3 q).1] at h1
    exact Or.inr ⟨q, gTk_d h1⟩
  · have e : s = t := by have := h2.2.2.1; omega
    rw [e, tkS_e] at h1
    exact Or.inl ⟨e, (gTk_d h1).1⟩
/-- the place of the token -/
theorem tk_pl (h : isTk b t j u) : u 8 = (gTk (tkL b t) j).2.2 := by
  obtain ⟨s, h1, h2⟩ := isTk_g h
  rcases h2 with ⟨e, h2⟩ | ⟨e, h2, _⟩
  · rw [h2, h1.2.1, e]
  · rw [h2, h1.2.1]
    unfold tkT
    repeat' split
    all_goals rfl
theorem tkE_l (hs : s < t) (h : isLt (b s)) : ∀ i : Nat, i < tkE b t s - s → isLt (b (s + i)) := fun i hi => by
  by_cases e : i = 0
  · rw [e]; exact h
  · unfold tkE at hi
    rw [if_pos h] at hi
    have h5 := of_decide_eq_true (tkR_f (f := tkF b 1) (t - (s + 1)) (s + 1) (s + i) (by omega) (by omega))
    omega
theorem tkE_dg (h : ¬ isLt (b s)) (h2 : isDg (b s)) : ∀ i : Nat, i < tkE b t s - s → isDg (b (s + i)) := fun i hi => tkE_d (e := t) h h2 (s + i) (by omega) (by omega)
theorem tkE_s (h : ¬ isLt (b s)) (h2 : ¬ isDg (b s)) : (tkE b t s - s = 2 ∧ (b s = 60 ∨ b s = 62)) ∨ tkE b t s - s = 1 := by
  unfold tkE
  rw [if_neg h, if_neg h2]
  split
  · rename_i q
    exact Or.inl ⟨by omega, q.1⟩
  · exact Or.inr (by omega)
theorem lts_l (h : ∀ i : Nat, i < j → isLt (b (s + i))) : lts b s j := fun k hk => by
  have q := h k hk
  omega
theorem sgF_v (x : Int) : sgF x 11 0 = if x = 60 then 30 else if x = 62 then 31 else if x = 61 then 32 else if x = 35 then 33 else if x = 43 then 34 else if x = 45 then 35 else if x = 42 then 36 else if x = 47 then 37 else if x = 40 then 38 else if x = 41 then 39 else if x = 59 then 40 else 52 := by
  have h0 : sgF x 11 0 = if (60 : Int) = x then 30 else if (62 : Int) = x then 31 else if (61 : Int) = x then 32 else if (35 : Int) = x then 33 else if (43 : Int) = x then 34 else if (45 : Int) = x then 35 else if (42 : Int) = x then 36 else if (47 : Int) = x then 37 else if (40 : Int) = x then 38 else if (41 : Int) = x then 39 else if (59 : Int) = x then 40 else 52 := rfl
  rw [h0]
  simp only [eq_comm (b := x)]
/-- a sign as the reference holds it -/
def sgC (v : Int) : Int := if v = 30 then 60 else if v = 31 then 62 else if v = 32 then 61 else if v = 33 then 35 else if v = 34 then 43 else if v = 35 then 45 else if v = 36 then 42 else if v = 37 then 47 else if v = 38 then 40 else if v = 39 then 41 else if v = 40 then 59 else if v = 41 then 4 else 5
/-- what the token is, both ways -/
theorem tk_k (h : isTk b t j u) : ((gTk (tkL b t) j).1 = 51 ∧ u 9 = 0) ∨
    (u 9 = 2 ∧ ∃ s, s < t ∧ isLt (b s) ∧ (gTk (tkL b t) j).1 = wdX (pk b s (tkE b t s - s)) Wl 0 ∧ lts b s (tkE b t s - s) ∧ u 11 = pkW b s (tkE b t s - s) ∧ u 8 = ((s : Nat) : Int) ∧ u 7 = ((tkE b t s : Nat) : Int)) ∨
    ((gTk (tkL b t) j).1 = 50 ∧ u 9 = 1 ∧ (0 ≤ u 10 ∧ u 10 ≤ 999999) ∧ ((u 10 ≤ 9999 ∧ (gTk (tkL b t) j).2.1 = u 10) ∨ (9999 < u 10 ∧ (gTk (tkL b t) j).2.1 = 10000))) ∨
    (((gTk (tkL b t) j).1 = 52 ∧ (u 9 = 3 ∨ u 9 = 58)) ∨ ((30 ≤ (gTk (tkL b t) j).1 ∧ (gTk (tkL b t) j).1 ≤ 42) ∧ u 9 = sgC (gTk (tkL b t) j).1)) := by
  obtain ⟨s, h1, h2⟩ := isTk_g h
  obtain ⟨i1, i2, i3, i4, i5⟩ := h1
  rcases h2 with ⟨e, h2⟩ | ⟨e, h2, _⟩
  · rw [h2]
    exact Or.inl ⟨rfl, (i4 e).1⟩
  · obtain ⟨k1, k2, k3, k4, k5⟩ := i5 e
    rw [h2]
    by_cases hl : isLt (b s)
    · obtain ⟨l1, l2⟩ := k3 hl
      have hlt := lts_l (tkE_l e hl)
      refine Or.inr (Or.inl ⟨l1, s, e, hl, ?_, hlt, l2, i2, k2⟩)
      unfold tkT
      rw [if_pos hl]
      exact wdM_X hlt
    · by_cases hd : isDg (b s)
      · obtain ⟨l1, l2⟩ := k4 hl hd
        have q := fgR_r (b := b) (s := s) (tkE b t s - s) (tkE_dg hl hd)
        rw [← l2] at q
        refine Or.inr (Or.inr (Or.inl ?_))
        unfold tkT
        rw [if_neg hl, if_pos hd]
        exact ⟨rfl, l1, q.1, q.2⟩
      · have l1 := k5 hl hd
        have hs := tkE_s (t := t) hl hd
        refine Or.inr (Or.inr (Or.inr ?_))
        have h3 : (tkT b t s).1 = sgM (b s) (((tkE b t s : Nat) : Int) - ((s : Nat) : Int)) := by
          unfold tkT
          rw [if_neg hl, if_neg hd]
        rw [h3]
        have he := tkE_b (b := b) e
        rcases hs with ⟨n2, hs⟩ | n1
        · rw [show ((tkE b t s : Nat) : Int) - ((s : Nat) : Int) = 2 by omega]
          rw [n2] at l1
          refine Or.inr ?_
          rcases hs with hs | hs
          · rw [hs] at l1 ⊢
            exact ⟨by decide, l1.trans (by decide)⟩
          · rw [hs] at l1 ⊢
            exact ⟨by decide, l1.trans (by decide)⟩
        · rw [show ((tkE b t s : Nat) : Int) - ((s : Nat) : Int) = 1 by omega]
          rw [n1] at l1
          have hm : sgM (b s) 1 = sgF (b s) 11 0 := if_neg (by decide)
          have hr : sgR (b s) 1 = if isSg (b s) then b s else 3 := if_neg (by decide)
          rw [hm, sgF_v]
          rw [hr] at l1
          by_cases c : isSg (b s)
          · rw [if_pos c] at l1
            rcases c with c | c | c | c | c | c | c | c | c | c | c | c
            all_goals rw [c] at l1 ⊢
            all_goals first | exact Or.inr ⟨by decide, l1.trans (by decide)⟩ | exact Or.inl ⟨by decide, Or.inr l1⟩
          · rw [if_neg c] at l1
            refine Or.inl ⟨?_, Or.inl l1⟩
            rw [if_neg (by omega), if_neg (by omega), if_neg (by omega), if_neg (by omega), if_neg (by omega), if_neg (by omega), if_neg (by omega), if_neg (by omega), if_neg (by omega), if_neg (by omega), if_neg (by omega)]
theorem sgC_i : ∀ v w : Int, 30 ≤ v ∧ v ≤ 42 → 30 ≤ w ∧ w ≤ 42 → sgC v = sgC w → v = w := by
  have h : ∀ v w : Fin 13, sgC (30 + (v.val : Nat)) = sgC (30 + (w.val : Nat)) → v = w := by decide +kernel
  intro v w hv hw e
  have q := h ⟨(v - 30).toNat, by omega⟩ ⟨(w - 30).toNat, by omega⟩ (by
    show sgC (30 + ((v - 30).toNat : Nat)) = sgC (30 + ((w - 30).toNat : Nat))
    rw [show 30 + (((v - 30).toNat : Nat) : Int) = v by omega, show 30 + (((w - 30).toNat : Nat) : Int) = w by omega]
    exact e)
  have q2 := congrArg Fin.val q
  have q3 : (v - 30).toNat = (w - 30).toNat := q2
  omega
theorem sgC_b : ∀ v : Int, 30 ≤ v ∧ v ≤ 42 → 4 ≤ sgC v ∧ sgC v ≤ 62 ∧ sgC v ≠ 58 := by
  have h : ∀ v : Fin 13, 4 ≤ sgC (30 + (v.val : Nat)) ∧ sgC (30 + (v.val : Nat)) ≤ 62 ∧ sgC (30 + (v.val : Nat)) ≠ 58 := by decide +kernel
  intro v hv
  have q := h ⟨(v - 30).toNat, by omega⟩
  have q2 : 4 ≤ sgC (30 + ((v - 30).toNat : Nat)) ∧ sgC (30 + ((v - 30).toNat : Nat)) ≤ 62 ∧ sgC (30 + ((v - 30).toNat : Nat)) ≠ 58 := q
  rw [show 30 + (((v - 30).toNat : Nat) : Int) = v by omega] at q2
  exact q2
theorem wdX_r (x : Int) : wdX x Wl 0 = 52 ∨ (0 ≤ wdX x Wl 0 ∧ wdX x Wl 0 ≤ 23) := by
  rcases wdX_b (x := x) Wl 0 with h | h
  · exact Or.inl h
  · have e : Wl.length = 24 := rfl
    rw [e] at h
    exact Or.inr (by omega)
/-- a number -/
theorem tk_1 (h : isTk b t j u) : u 9 = 1 ↔ (gTk (tkL b t) j).1 = 50 := by
  rcases tk_k h with ⟨a, c⟩ | ⟨a, s, _, _, c, _⟩ | ⟨a, c, _⟩ | ⟨a, c⟩ | ⟨a, c⟩
  · omega
  · have q := wdX_r (pk b s (tkE b t s - s)); omega
  · omega
  · omega
  · have q := sgC_b _ a; omega
theorem tk_1v (h : isTk b t j u) (h2 : (gTk (tkL b t) j).1 = 50) : (0 ≤ u 10 ∧ u 10 ≤ 999999) ∧ ((u 10 ≤ 9999 ∧ (gTk (tkL b t) j).2.1 = u 10) ∨ (9999 < u 10 ∧ (gTk (tkL b t) j).2.1 = 10000)) := by
  rcases tk_k h with ⟨a, c⟩ | ⟨a, s, _, _, c, _⟩ | ⟨a, c, q⟩ | ⟨a, c⟩ | ⟨a, c⟩
  · omega
  · have q := wdX_r (pk b s (tkE b t s - s)); omega
  · exact q
  · omega
  · omega
/-- the end -/
theorem tk_0 (h : isTk b t j u) : u 9 = 0 ↔ (gTk (tkL b t) j).1 = 51 := by
  rcases tk_k h with ⟨a, c⟩ | ⟨a, s, _, _, c, _⟩ | ⟨a, c, _⟩ | ⟨a, c⟩ | ⟨a, c⟩
  · omega
  · have q := wdX_r (pk b s (tkE b t s - s)); omega
  · omega
  · omega
  · have q := sgC_b _ a; omega
/-- a sign -/
theorem tk_s {v : Int} (hv : 30 ≤ v ∧ v ≤ 42) (h : isTk b t j u) : u 9 = sgC v ↔ (gTk (tkL b t) j).1 = v := by
  have hb := sgC_b _ hv
  rcases tk_k h with ⟨a, c⟩ | ⟨a, s, _, _, c, _⟩ | ⟨a, c, _⟩ | ⟨a, c⟩ | ⟨a, c⟩
  · omega
  · have q := wdX_r (pk b s (tkE b t s - s)); omega
  · omega
  · omega
  · refine ⟨fun q => sgC_i _ _ a hv (c.symm.trans q), fun q => by rw [c, q]⟩
/-- a word of up to six letters -/
theorem tk_w {v : Nat} {W : Int} (hv : v < 24) (hW : Wl[v]? = some W) (h7 : W < 281474976710656) (h : isTk b t j u) : (u 9 = 2 ∧ u 11 = W) ↔ (gTk (tkL b t) j).1 = ((v : Nat) : Int) := by
  rcases tk_k h with ⟨a, c⟩ | ⟨a, s, s1, s2, c, d, e, _⟩ | ⟨a, c, _⟩ | ⟨a, c⟩ | ⟨a, c⟩
  · omega
  · have q := wdX_i (x := pk b s (tkE b t s - s)) Wl 0 v Wl_n (by show v < 24; exact hv) (by decide)
    rw [Nat.zero_add, hW] at q
    rw [c, q]
    have hx : u 11 = W ↔ pk b s (tkE b t s - s) = W := by
      rw [e]
      rcases Nat.lt_or_ge (tkE b t s - s) 8 with g | g
      · rw [pkW_s _ (by omega) d]
      · obtain ⟨k, hk⟩ : ∃ k, tkE b t s - s = 8 + k := ⟨tkE b t s - s - 8, by omega⟩
        rw [hk] at d ⊢
        have g1 := pk_8 k d
        rw [pkW_8 k d]
        omega
    refine ⟨fun z => by rw [hx.mp z.2], fun z => ⟨a, hx.mpr (Option.some.inj z).symm⟩⟩
  · omega
  · omega
  · have q := sgC_b _ a; omega
/-- claimed -/
theorem tk_c (h : isTk b t j u) : (u 9 = 2 ∧ u 7 - u 8 = 7 ∧ ∃ s : Nat, u 8 = ((s : Nat) : Int) ∧ pk b s 4 = 1668047209 ∧ pk b (s + 4) 3 = 7169380) ↔ (gTk (tkL b t) j).1 = 8 := by
  rcases tk_k h with ⟨a, c⟩ | ⟨a, s, s1, s2, c, d, e, f, g⟩ | ⟨a, c, _⟩ | ⟨a, c⟩ | ⟨a, c⟩
  · exact ⟨fun z => absurd z.1 (by omega), fun z => absurd z (by omega)⟩
  · have q := wdX_i (x := pk b s (tkE b t s - s)) Wl 0 8 Wl_n (by decide) (by decide)
    rw [c]
    have q2 : wdX (pk b s (tkE b t s - s)) Wl 0 = 8 ↔ pk b s (tkE b t s - s) = 27985188330759524 := by
      refine q.trans ⟨fun z => ?_, fun z => ?_⟩
      · exact (Option.some.inj z).symm
      · rw [z]; rfl
    rw [q2]
    have he := tkE_b (b := b) s1
    have hsz : pk b s 7 = pk b s 4 * 16777216 + pk b (s + 4) 3 := by
      show ((pk b s 4 * 256 + b (s + 4)) * 256 + b (s + 5)) * 256 + b (s + 6) = pk b s 4 * 16777216 + (((0 * 256 + b (s + 4 + 0)) * 256 + b (s + 4 + 1)) * 256 + b (s + 4 + 2))
      rw [show s + 4 + 0 = s + 4 from rfl, show s + 4 + 1 = s + 5 from rfl, show s + 4 + 2 = s + 6 from rfl]
      omega
    refine ⟨fun z => ?_, fun z => ?_⟩
    · obtain ⟨_, z2, s', z3, z4, z5⟩ := z
      have e1 : s' = s := by omega
      subst e1
      rw [show tkE b t s' - s' = 7 by omega, hsz, z4, z5]
      decide
    · have h7 : tkE b t s - s = 7 := by
        rcases Nat.lt_or_ge (tkE b t s - s) 7 with y | y
        · have y1 := pkv_lt (c := b) (s := s) (tkE b t s - s) (by omega) d
          omega
        · rcases Nat.lt_or_ge 7 (tkE b t s - s) with y2 | y2
          · obtain ⟨k, hk⟩ : ∃ k, tkE b t s - s = 8 + k := ⟨tkE b t s - s - 8, by omega⟩
            rw [hk] at d z
            have g1 := pk_8 k d
            omega
          · omega
      rw [h7] at z d
      rw [hsz] at z
      have d4 := d 4 (by decide)
      have d5 := d 5 (by decide)
      have d6 := d 6 (by decide)
      have z3 : 0 ≤ pk b (s + 4) 3 ∧ pk b (s + 4) 3 < 16777216 := by
        show 0 ≤ ((0 * 256 + b (s + 4)) * 256 + b (s + 5)) * 256 + b (s + 6) ∧ ((0 * 256 + b (s + 4)) * 256 + b (s + 5)) * 256 + b (s + 6) < 16777216
        omega
      exact ⟨a, by omega, s, f, by omega, by omega⟩
  · exact ⟨fun z => absurd z.1 (by omega), fun z => absurd z (by omega)⟩
  · exact ⟨fun z => absurd z.1 (by omega), fun z => absurd z (by omega)⟩
  · have q := sgC_b _ a
    exact ⟨fun z => absurd z.1 (by omega), fun z => absurd z (by omega)⟩
end QTK
