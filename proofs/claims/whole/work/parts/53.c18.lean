/-- nothing but an engine's cells is changed: the state (0 to 12), the engine (13), its law (14), the law's stack (15) -/
def FrE (A : Nat → Nat) (w w' : Wo) : Prop := ∀ a : Nat, (∀ i : Nat, i < 16 → a ≠ A i) → lk w' a = lk w a
theorem FrE.rf {A : Nat → Nat} {w : Wo} : FrE A w w := fun _ _ => rfl
theorem FrE.tr {A : Nat → Nat} {w w1 w2 : Wo} (h : FrE A w w1) (h2 : FrE A w1 w2) : FrE A w w2 := fun a ha => (h2 a ha).trans (h a ha)
theorem FrE_S {A : Nat → Nat} {w w' : Wo} (h : FrS A w w') : FrE A w w' := fun a ha => h a (fun i hi => ha i (by omega))
theorem FrE_L {A : Nat → Nat} {w w' : Wo} (h : Frm (A 14) (A 15) w w') : FrE A w w' := fun a ha => h a (ha 14 (by decide)) (ha 15 (by decide))
/-- the clauses of a text, as the reference's row has them -/
def txE (cl : Nat → Int) (t n3 : Nat) (f3 : Nat → Int) : Prop := cl (681 * t) = ((n3 : Nat) : Int) ∧ n3 ≤ 24 ∧ ∀ k : Nat, k < n3 → f3 (3 * k) = cl (681 * t + 1 + 3 * k) ∧ (2 ≤ f3 (3 * k) → f3 (3 * k + 1) = cl (681 * t + 1 + 3 * k + 1)) ∧ (f3 (3 * k) = 2 ∨ f3 (3 * k) = 4 → f3 (3 * k + 2) = cl (681 * t + 1 + 3 * k + 2))
def isT1 (G : GT) (hb : Nat) (z : Int) (X0 X1 : Option Gn) (cl : Nat → Int) (t : Nat) (w : Wo) : Prop := ∃ x a1 a2 a3 n3 f3, z = ((x : Nat) : Int) ∧ hb ≤ x ∧ hb ≤ a3 ∧ isTx x a1 a2 a3 n3 f3 w ∧ codeOk G hb a1 X0 0 w ∧ codeOk G hb a2 X1 1 w ∧ txE cl t n3 f3
def isTs (G : GT) (hb : Nat) (n : Int) (fx : Nat → Int) (X : Nat → Int → Option Gn) (cl : Nat → Int) (w : Wo) : Prop := ∀ t : Nat, (t : Int) < n → isT1 G hb (fx t) (X t 0) (X t 1) cl t w
theorem codeOk_fr {G : GT} {hb a : Nat} {Y : Option Gn} {z : Int} {w w' : Wo} (h : codeOk G hb a Y z w) (e : ∀ b : Nat, hb ≤ b → lk w' b = lk w b) : codeOk G hb a Y z w' := by
  rcases h with h | ⟨m, f, gg, h1, h2, h3, h4, h5, h6⟩
  · exact Or.inl h
  · exact Or.inr ⟨m, f, gg, h1, h2, h3, h4, (e a h1).trans h5, h6⟩
theorem isTs_fr {G : GT} {hb : Nat} {n : Int} {fx : Nat → Int} {X : Nat → Int → Option Gn} {cl : Nat → Int} {w w' : Wo} (h : isTs G hb n fx X cl w) (e : ∀ b : Nat, hb ≤ b → lk w' b = lk w b) : isTs G hb n fx X cl w' := fun t ht => by
  obtain ⟨x, a1, a2, a3, n3, f3, h1, h2, h3, h4, h5, h6, h7⟩ := h t ht
  exact ⟨x, a1, a2, a3, n3, f3, h1, h2, h3, ⟨(e x h2).trans h4.1, (e a3 h3).trans h4.2⟩, codeOk_fr h5 e, codeOk_fr h6 e, h7⟩
/-- an engine: a state, what is told, its law, the texts that are told -/
def isEn (G : GT) (hb : Nat) (A T : Nat → Nat) (tl fx : Nat → Int) (X : Nat → Int → Option Gn) (cl : Nat → Int) (dr : Int) (D : Dy) (w : Wo) : Prop :=
  isSt A D w ∧ isTo T tl fx w ∧ lk w (A 13) = some (Ob 0 [vr (T 0), vr (A 0), vr (A 14), vi dr]) ∧ isLw (A 14) (A 15) (T 0) (A 0) w ∧ isTs G hb (tl 1) fx X cl w ∧ (∀ i j : Nat, i < 16 → j < 16 → A i = A j → i = j) ∧ (∀ i j : Nat, i < 16 → j < 6 → A i ≠ T j) ∧ ∀ i : Nat, i < 16 → A i < hb
theorem LR_b {D : Dy} {b k : Nat} {v : Int} (hb : b < 3) : LR (mS (28 + 3 * k + b) v D) 0 = lSet (LR D 0) b k v := by
  have e : ∀ c d : Nat, c < 3 → d < 3 → blk (mS (28 + 3 * k + c) v D) d = if d = c then uN (blk D d) k v else blk D d := fun c d hc hd => by
    by_cases q : d = c
    · subst q
      rw [if_pos rfl]
      funext j
      show uN D.1 (28 + 3 * k + d) v (28 + 3 * j + d) = uN (blk D d) k v j
      by_cases z : j = k
      · subst z; rw [uN_s, uN_s]
      · rw [uN_o (by omega), uN_o z]; rfl
    · rw [if_neg q]
      funext j
      exact uN_o (by omega)
  match b, hb with
  | 0, _ =>
    show [_, _, _] = [_, _, _]
    rw [e 0 0 (by decide) (by decide), e 0 1 (by decide) (by decide), e 0 2 (by decide) (by decide)]
    rfl
  | 1, _ =>
    show [_, _, _] = [_, _, _]
    rw [e 1 0 (by decide) (by decide), e 1 1 (by decide) (by decide), e 1 2 (by decide) (by decide)]
    rfl
  | 2, _ =>
    show [_, _, _] = [_, _, _]
    rw [e 2 0 (by decide) (by decide), e 2 1 (by decide) (by decide), e 2 2 (by decide) (by decide)]
    rfl
  | n + 3, h => exact absurd h (by omega)
section QST
variable {A : Nat → Nat} {D : Dy} {w w' : Wo} {L : List Rw}
theorem iS_b (h : isSt A D w) : isRw (A 1) (A 2) 7 3 (LR D 0) w := h.2.1 0 (by decide)
theorem iS_l (h : isSt A D w) {s : Nat} (hs : s < 2) : isRw (A (3 + 2 * s)) (A (4 + 2 * s)) 7 24 (D.2.1 s) w := by
  match s, hs with
  | 0, _ => exact h.2.1 1 (by decide)
  | 1, _ => exact h.2.1 2 (by decide)
  | n + 2, h => exact absurd h (by omega)
theorem iS_f (h : isSt A D w) : isRw (A 7) (A 8) 9 40 D.2.2.1 w := h.2.1 3 (by decide)
theorem iS_t (h : isSt A D w) : isRw (A 9) (A 10) 9 16 D.2.2.2.1 w := h.2.1 4 (by decide)
theorem iS_k (h : isSt A D w) : isRw (A 11) (A 12) 4 25 D.2.2.2.2 w := h.2.1 5 (by decide)
theorem st_l (h : isSt A D w) {s : Nat} (hs : s < 2) (hw : isRw (A (3 + 2 * s)) (A (4 + 2 * s)) 7 24 L w') (hf : Frm (A (3 + 2 * s)) (A (4 + 2 * s)) w w') : isSt A (D.1, lsS D.2.1 s L, D.2.2) w' ∧ FrS A w w' := by
  match s, hs with
  | 0, _ =>
    refine ⟨isS2_ext (isS2_row (r := 1) h (by decide) hw hf) (fun _ _ _ => rfl) (fun r hr => ?_), FrS_row (r := 1) (by decide) hf⟩
    match r, hr with
    | 0, _ => rfl
    | 1, _ => rfl
    | 2, _ => rfl
    | 3, _ => rfl
    | 4, _ => rfl
    | 5, _ => rfl
    | n + 6, h => exact absurd h (by omega)
  | 1, _ =>
    refine ⟨isS2_ext (isS2_row (r := 2) h (by decide) hw hf) (fun _ _ _ => rfl) (fun r hr => ?_), FrS_row (r := 2) (by decide) hf⟩
    match r, hr with
    | 0, _ => rfl
    | 1, _ => rfl
    | 2, _ => rfl
    | 3, _ => rfl
    | 4, _ => rfl
    | 5, _ => rfl
    | n + 6, h => exact absurd h (by omega)
  | n + 2, h => exact absurd h (by omega)
theorem st_f (h : isSt A D w) (hw : isRw (A 7) (A 8) 9 40 L w') (hf : Frm (A 7) (A 8) w w') : isSt A (D.1, D.2.1, L, D.2.2.2) w' ∧ FrS A w w' := by
  refine ⟨isS2_ext (isS2_row (r := 3) h (by decide) hw hf) (fun _ _ _ => rfl) (fun r hr => ?_), FrS_row (r := 3) (by decide) hf⟩
  match r, hr with
  | 0, _ => rfl
  | 1, _ => rfl
  | 2, _ => rfl
  | 3, _ => rfl
  | 4, _ => rfl
  | 5, _ => rfl
  | n + 6, h => exact absurd h (by omega)
theorem st_t (h : isSt A D w) (hw : isRw (A 9) (A 10) 9 16 L w') (hf : Frm (A 9) (A 10) w w') : isSt A (D.1, D.2.1, D.2.2.1, L, D.2.2.2.2) w' ∧ FrS A w w' := by
  refine ⟨isS2_ext (isS2_row (r := 4) h (by decide) hw hf) (fun _ _ _ => rfl) (fun r hr => ?_), FrS_row (r := 4) (by decide) hf⟩
  match r, hr with
  | 0, _ => rfl
  | 1, _ => rfl
  | 2, _ => rfl
  | 3, _ => rfl
  | 4, _ => rfl
  | 5, _ => rfl
  | n + 6, h => exact absurd h (by omega)
theorem st_k (h : isSt A D w) (hw : isRw (A 11) (A 12) 4 25 L w') (hf : Frm (A 11) (A 12) w w') : isSt A (D.1, D.2.1, D.2.2.1, D.2.2.2.1, L) w' ∧ FrS A w w' := by
  refine ⟨isS2_ext (isS2_row (r := 5) h (by decide) hw hf) (fun _ _ _ => rfl) (fun r hr => ?_), FrS_row (r := 5) (by decide) hf⟩
  match r, hr with
  | 0, _ => rfl
  | 1, _ => rfl
  | 2, _ => rfl
  | 3, _ => rfl
  | 4, _ => rfl
  | 5, _ => rfl
  | n + 6, h => exact absurd h (by omega)
theorem st_b (h : isSt A D w) {b k : Nat} {v : Int} (hb : b < 3) (hw : isRw (A 1) (A 2) 7 3 (lSet (LR D 0) b k v) w') (hf : Frm (A 1) (A 2) w w') : isSt A (mS (28 + 3 * k + b) v D) w' ∧ FrS A w w' := by
  refine ⟨isS2_ext (isS2_row (r := 0) h (by decide) hw hf) (fun j h1 h2 => uN_o (by omega)) (fun r hr => ?_), FrS_row (r := 0) (by decide) hf⟩
  match r, hr with
  | 0, _ => exact LR_b hb
  | 1, _ => rfl
  | 2, _ => rfl
  | 3, _ => rfl
  | 4, _ => rfl
  | 5, _ => rfl
  | n + 6, h => exact absurd h (by omega)
theorem st_n {s2 : Nat → Int} (h : isS2 A s2 (LR D) w) {k : Nat} {v : Int} (hk : 18 ≤ k ∧ k < 23) (e : ∀ j : Nat, 18 ≤ j → j < 23 → s2 j = uN D.1 k v j) : isSt A (mS k v D) w := by
  refine isS2_ext h (fun j h1 h2 => (e j h1 h2).symm) (fun r hr => ?_)
  match r, hr with
  | 0, _ =>
    show [_, _, _] = [_, _, _]
    rw [show blk (mS k v D) 0 = blk D 0 from funext fun j => uN_o (by omega), show blk (mS k v D) 1 = blk D 1 from funext fun j => uN_o (by omega), show blk (mS k v D) 2 = blk D 2 from funext fun j => uN_o (by omega)]
  | 1, _ => rfl
  | 2, _ => rfl
  | 3, _ => rfl
  | 4, _ => rfl
  | 5, _ => rfl
  | n + 6, h => exact absurd h (by omega)
end QST
section QEN
variable {G : GT} {hb : Nat} {A T : Nat → Nat} {tl fx : Nat → Int} {X : Nat → Int → Option Gn} {cl : Nat → Int} {dr : Int} {D E : Dy} {w w' : Wo}
theorem isEn_S (h : isEn G hb A T tl fx X cl dr D w) (hs : isSt A E w' ∧ FrS A w w') : isEn G hb A T tl fx X cl dr E w' ∧ FrE A w w' := by
  obtain ⟨h1, h2, h3, ⟨V, n, kd, bl, la, h4⟩, h5, h6, h7, h8⟩ := h
  have ne : ∀ j : Nat, 13 ≤ j → j < 16 → lk w' (A j) = lk w (A j) := fun j hj hj2 => hs.2 _ (fun i hi e => absurd (h6 j i hj2 (by omega) e) (by omega))
  exact ⟨⟨hs.1, isTo_fr h2 (fun j hj => hs.2 _ (fun i hi => (h7 i j (by omega) hj).symm)), (ne 13 (by decide) (by decide)).trans h3, ⟨V, n, kd, bl, la, isLa_fr h4 (ne 14 (by decide) (by decide)) (ne 15 (by decide) (by decide))⟩, isTs_fr h5 (fun b hb2 => hs.2 _ (fun i hi e => absurd (h8 i (by omega)) (by omega))), h6, h7, h8⟩, FrE_S hs.2⟩
theorem isEn_L (h : isEn G hb A T tl fx X cl dr D w) (hl : isLw (A 14) (A 15) (T 0) (A 0) w') (hf : Frm (A 14) (A 15) w w') : isEn G hb A T tl fx X cl dr D w' ∧ FrE A w w' := by
  obtain ⟨h1, h2, h3, h4, h5, h6, h7, h8⟩ := h
  have ap : apL (A 14) (A 15) T A := ⟨fun j hj => ⟨(h7 14 j (by decide) hj).symm, (h7 15 j (by decide) hj).symm⟩, fun j hj => ⟨fun e => absurd (h6 j 14 (by omega) (by decide) e) (by omega), fun e => absurd (h6 j 15 (by omega) (by decide) e) (by omega)⟩⟩
  refine ⟨⟨apL_S ap hf h1, apL_T ap hf h2, (hf _ (fun e => absurd (h6 13 14 (by decide) (by decide) e) (by decide)) (fun e => absurd (h6 13 15 (by decide) (by decide) e) (by decide))).trans h3, hl, isTs_fr h5 (fun b hb2 => hf _ (fun e => ?_) (fun e => ?_)), h6, h7, h8⟩, FrE_L hf⟩
  · have := h8 14 (by decide); omega
  · have := h8 15 (by decide); omega
theorem isEn_ap (h : isEn G hb A T tl fx X cl dr D w) : apL (A 14) (A 15) T A := ⟨fun j hj => ⟨(h.2.2.2.2.2.2.1 14 j (by decide) hj).symm, (h.2.2.2.2.2.2.1 15 j (by decide) hj).symm⟩, fun j hj => ⟨fun e => absurd (h.2.2.2.2.2.1 j 14 (by omega) (by decide) e) (by omega), fun e => absurd (h.2.2.2.2.2.1 j 15 (by omega) (by decide) e) (by omega)⟩⟩
theorem isEn_n {k kf : Nat} {v : Int} (h : isEn G hb A T tl fx X cl dr D w) (hk : (k = 18 ∧ kf = 0) ∨ (k = 20 ∧ kf = 1) ∨ (k = 21 ∧ kf = 3) ∨ (k = 22 ∧ kf = 4)) : isEn G hb A T tl fx X cl dr (mS k v D) (up w (A 0) (Ob 5 ([vi (D.1 18), vi (D.1 20), vi (D.1 19), vi (D.1 21), vi (D.1 22), vr (A 1), vr (A 3), vr (A 5), vr (A 7), vr (A 9), vr (A 11)].set kf (vi v)))) ∧ FrE A w (up w (A 0) (Ob 5 ([vi (D.1 18), vi (D.1 20), vi (D.1 19), vi (D.1 21), vi (D.1 22), vr (A 1), vr (A 3), vr (A 5), vr (A 7), vr (A 9), vr (A 11)].set kf (vi v)))) := by
  rcases hk with ⟨rfl, rfl⟩ | ⟨rfl, rfl⟩ | ⟨rfl, rfl⟩ | ⟨rfl, rfl⟩
  · exact isEn_S h ⟨st_n (isS2_num0 h.1) (by decide) (fun _ _ _ => rfl), FrS.rf.u0⟩
  · exact isEn_S h ⟨st_n (isS2_num1 h.1) (by decide) (fun _ _ _ => rfl), FrS.rf.u0⟩
  · exact isEn_S h ⟨st_n (isS2_num3 h.1) (by decide) (fun _ _ _ => rfl), FrS.rf.u0⟩
  · exact isEn_S h ⟨st_n (isS2_num4 h.1) (by decide) (fun _ _ _ => rfl), FrS.rf.u0⟩
end QEN
