/-! the class whole, by places behind one address -/
def aA (kb : Nat) : Nat → Nat := fun i => if i < 13 then kb + 8 + i else kb + 810 + i
def aB (kb : Nat) : Nat → Nat := fun i => if i < 13 then kb + 827 + i else if i = 13 then kb + 826 else kb + 826 + i
def isRg (z : Nat) (L : List Dy) (w : Wo) : Prop := ∃ f E, f < 30 ∧ L.length ≤ 30 ∧ isRx z (tz z 0) (nz z 0) f E L.length w ∧ ∀ j : Nat, j < L.length → E ((f + j) % 30) = gY L j
def isTr (kb : Nat) (w : Wo) : Prop := lk w (aB kb 13) = some (Ob 0 [vr (tz (kb + 1) 0), vr (aB kb 0), vr (aB kb 14), vi 1]) ∧ isLw (aB kb 14) (aB kb 15) (tz (kb + 1) 0) (aB kb 0) w ∧ ∃ Dx, isSt (aB kb) Dx w
def txs (hb : Nat) (fx : Nat → Int) (w : Wo) : Prop := ∀ j : Nat, j < 4 → 0 ≤ fx j → hb ≤ (fx j).toNat ∧ ∃ zf, lk w (fx j).toNat = some (Ob 6 zf)
/-- the reader's cells -/
def isRd (kb : Nat) (w : Wo) : Prop := (∃ v0 : Nat, ∃ v1 v2 v3 v4 v5 : Int, ∃ r1 r2 : Nat, lk w (kb + 842) = some (Ob 2 [vr (kb + 843), vr (kb + 847), vr (kb + 848), vi ((v0 : Nat) : Int), vi v1, vi v2, vi v3, vr r1, vr r2, vi v4, vi v5])) ∧ (∃ c : Int, lk w (kb + 843) = some (Ob 7 [vr (kb + 844), vr (kb + 845), vr (kb + 846), vi c])) ∧
  (∃ f, lk w (kb + 844) = some (Ar 0 301 f)) ∧ (∃ f, lk w (kb + 845) = some (Ar 0 301 f)) ∧ (∃ f, lk w (kb + 846) = some (Ar 0 301 f)) ∧ (∃ f, lk w (kb + 847) = some (Ar 0 602 f)) ∧ ∃ f, lk w (kb + 848) = some (Ar 0 72 f)
/-- all but the state at hand, what is told and the engine -/
def isKr (kb : Nat) (fx fx2 : Nat → Int) (L : List Dy) (tl2 : Nat → Int) (D2 : Dy) (L2 : List Dy) (tp : Nat → Int) (nt fs fp : Int) (w : Wo) : Prop :=
  lk w kb = some (Ob 9 [vr (kb + 1), vr (kb + 412), vr (tz (kb + 1) 0), vr (aA kb 0), vr (aA kb 13), vr (aB kb 13), vr (kb + 842), vr (kb + 849), vi nt, vi fs, vi fp]) ∧
  isRg (kb + 1) L w ∧ isRg (kb + 412) L2 w ∧ isTo (tz (kb + 412)) tl2 fx2 w ∧ isSt (nz (kb + 412)) D2 w ∧ isTr kb w ∧ txs (kb + 850) fx w ∧ txs (kb + 850) fx2 w ∧ (∀ t : Nat, (t : Int) < tl2 1 → fx2 t = fx t) ∧ isRd kb w ∧ lk w (kb + 849) = some (Ar 0 300 tp)
section QKR
variable {G : GT} {kb : Nat} {fx fx2 tl tl2 tp : Nat → Int} {X : Nat → Int → Option Gn} {cl : Nat → Int} {D D2 Dx E : Dy} {L L2 : List Dy} {nt fs fp : Int} {w w' : Wo} {A B : Nat → Nat} {sc : Nat → Int} {RL : Nat → List Rw}
theorem isS2_map (h : isS2 A sc RL w) (e : ∀ i : Nat, i < 13 → A i = B i) : isS2 B sc RL w := by
  obtain ⟨h1, h2, h3⟩ := h
  refine ⟨?_, fun r hr => ?_, fun i j hi hj q => h3 i j hi hj (by rw [e i hi, e j hj]; exact q)⟩
  · rw [← e 0 (by decide), ← e 1 (by decide), ← e 3 (by decide), ← e 5 (by decide), ← e 7 (by decide), ← e 9 (by decide), ← e 11 (by decide)]
    exact h1
  · rw [← e (1 + 2 * r) (by omega), ← e (2 + 2 * r) (by omega)]
    exact h2 r hr
theorem aA_n {i : Nat} (hi : i < 13) : nz (kb + 1) i = aA kb i := by unfold nz aA; rw [if_pos hi]
theorem aA_inj : ∀ i j : Nat, i < 16 → j < 16 → aA kb i = aA kb j → i = j := fun i j hi hj h => by unfold aA at h; split at h <;> split at h <;> omega
theorem aA_T : ∀ i j : Nat, i < 16 → j < 6 → aA kb i ≠ tz (kb + 1) j := fun i j hi hj => by unfold aA tz; split <;> omega
theorem aA_hb : ∀ i : Nat, i < 16 → aA kb i < kb + 850 := fun i hi => by unfold aA; split <;> omega
theorem aB_inj : ∀ i j : Nat, i < 16 → j < 16 → aB kb i = aB kb j → i = j := fun i j hi hj h => by unfold aB at h; (repeat' split at h) <;> omega
theorem aB_T : ∀ i j : Nat, i < 16 → j < 6 → aB kb i ≠ tz (kb + 1) j := fun i j hi hj => by unfold aB tz; (repeat' split) <;> omega
theorem aB_hb : ∀ i : Nat, i < 16 → aB kb i < kb + 850 := fun i hi => by unfold aB; (repeat' split) <;> omega
theorem aB_r : ∀ i : Nat, i < 16 → kb + 826 ≤ aB kb i ∧ aB kb i < kb + 842 := fun i hi => by unfold aB; (repeat' split) <;> omega
theorem aA_r : ∀ i : Nat, i < 16 → (kb + 8 ≤ aA kb i ∧ aA kb i < kb + 21) ∨ (kb + 823 ≤ aA kb i ∧ aA kb i < kb + 826) := fun i hi => by unfold aA; (repeat' split) <;> omega
theorem rg_fr {z : Nat} (h : isRg z L w) (e : ∀ a : Nat, (a = z ∨ (z + 20 ≤ a ∧ a < z + 411)) → lk w' a = lk w a) : isRg z L w' := by
  obtain ⟨f, E, h1, h2, h3, h4⟩ := h
  exact ⟨f, E, h1, h2, rx_fr h3 e, h4⟩
theorem lw_fr {p q t0 a0 : Nat} (h : isLw p q t0 a0 w) (e1 : lk w' p = lk w p) (e2 : lk w' q = lk w q) : isLw p q t0 a0 w' := by
  obtain ⟨V, n, kd, bl, la, h⟩ := h
  exact ⟨V, n, kd, bl, la, isLa_fr h e1 e2⟩
theorem tr_fr (h : isTr kb w) (e : ∀ a : Nat, kb + 826 ≤ a → a < kb + 842 → lk w' a = lk w a) : isTr kb w' := by
  obtain ⟨h1, h2, Dx, h3⟩ := h
  have q := fun i hi => e (aB kb i) (aB_r i hi).1 (aB_r i hi).2
  exact ⟨(q 13 (by decide)).trans h1, lw_fr h2 (q 14 (by decide)) (q 15 (by decide)), Dx, isS2_e h3 (fun i hi => q i (by omega))⟩
theorem txs_fr {hb : Nat} (h : txs hb fx w) (e : ∀ a : Nat, hb ≤ a → lk w' a = lk w a) : txs hb fx w' := fun j hj h0 => by
  obtain ⟨h1, zf, h2⟩ := h j hj h0
  exact ⟨h1, zf, (e _ h1).trans h2⟩
theorem rd_fr (h : isRd kb w) (e : ∀ a : Nat, kb + 842 ≤ a → a < kb + 849 → lk w' a = lk w a) : isRd kb w' := by
  obtain ⟨⟨v0, v1, v2, v3, v4, v5, r1, r2, h1⟩, ⟨c, h2⟩, ⟨f3, h3⟩, ⟨f4, h4⟩, ⟨f5, h5⟩, ⟨f6, h6⟩, f7, h7⟩ := h
  exact ⟨⟨v0, v1, v2, v3, v4, v5, r1, r2, (e _ (by omega) (by omega)).trans h1⟩, ⟨c, (e _ (by omega) (by omega)).trans h2⟩, ⟨f3, (e _ (by omega) (by omega)).trans h3⟩, ⟨f4, (e _ (by omega) (by omega)).trans h4⟩, ⟨f5, (e _ (by omega) (by omega)).trans h5⟩, ⟨f6, (e _ (by omega) (by omega)).trans h6⟩, f7, (e _ (by omega) (by omega)).trans h7⟩
theorem kr_fr (h : isKr kb fx fx2 L tl2 D2 L2 tp nt fs fp w) (e : ∀ a : Nat, (a = kb ∨ a = kb + 1 ∨ (kb + 21 ≤ a ∧ a < kb + 823) ∨ kb + 826 ≤ a) → lk w' a = lk w a) : isKr kb fx fx2 L tl2 D2 L2 tp nt fs fp w' := by
  obtain ⟨h1, h2, h3, h4, h5, h6, h7, h8, h9, h10, h11⟩ := h
  exact ⟨(e _ (by omega)).trans h1, rg_fr h2 (fun a ha => e a (by omega)), rg_fr h3 (fun a ha => e a (by omega)), isTo_fr h4 (fun j hj => e _ (by unfold tz; omega)), isS2_e h5 (fun j hj => e _ (by unfold nz; omega)), tr_fr h6 (fun a a1 a2 => e a (by omega)), txs_fr h7 (fun a ha => e a (by omega)), txs_fr h8 (fun a ha => e a (by omega)), h9, rd_fr h10 (fun a a1 a2 => e a (by omega)), (e _ (by omega)).trans h11⟩
theorem kr_E (h : isKr kb fx fx2 L tl2 D2 L2 tp nt fs fp w) (hf : FrE (aA kb) w w') : isKr kb fx fx2 L tl2 D2 L2 tp nt fs fp w' := kr_fr h (fun a ha => hf a (fun i hi => by have := aA_r (kb := kb) i hi; omega))
/-- the other engine, over a state of its own -/
theorem tr_en (h : isEn G (kb + 850) (aA kb) (tz (kb + 1)) tl fx X cl 1 D w) (hk : isKr kb fx fx2 L tl2 D2 L2 tp nt fs fp w) : ∃ Dx, isEn G (kb + 850) (aB kb) (tz (kb + 1)) tl fx X cl 1 Dx w := by
  obtain ⟨g1, g2, Dx, g3⟩ := hk.2.2.2.2.2.1
  exact ⟨Dx, g3, h.2.1, g1, g2, h.2.2.2.2.1, aB_inj, aB_T, aB_hb⟩
theorem en_tr (h : isEn G (kb + 850) (aA kb) (tz (kb + 1)) tl fx X cl 1 D w) (hk : isKr kb fx fx2 L tl2 D2 L2 tp nt fs fp w) (h2 : isEn G (kb + 850) (aB kb) (tz (kb + 1)) tl fx X cl 1 Dx w') (hf : FrE (aB kb) w w') : isEn G (kb + 850) (aA kb) (tz (kb + 1)) tl fx X cl 1 D w' ∧ isKr kb fx fx2 L tl2 D2 L2 tp nt fs fp w' := by
  have q : ∀ a : Nat, (a < kb + 826 ∨ kb + 842 ≤ a) → lk w' a = lk w a := fun a ha => hf a (fun i hi => by have := aB_r (kb := kb) i hi; omega)
  obtain ⟨g1, g2, g3, g4, g5, g6, g7, g8⟩ := h
  refine ⟨⟨isS2_e g1 (fun i hi => q _ (by have := aA_r (kb := kb) i (by omega); omega)), h2.2.1, (q _ (by have := aA_r (kb := kb) 13 (by decide); omega)).trans g3, lw_fr g4 (q _ (by have := aA_r (kb := kb) 14 (by decide); omega)) (q _ (by have := aA_r (kb := kb) 15 (by decide); omega)), h2.2.2.2.2.1, g6, g7, g8⟩, ?_⟩
  obtain ⟨h1, h2b, h3, h4, h5, h6, h7, h8, h9, h10, h11⟩ := hk
  exact ⟨(q _ (by omega)).trans h1, rg_fr h2b (fun a ha => q a (by omega)), rg_fr h3 (fun a ha => q a (by omega)), isTo_fr h4 (fun j hj => q _ (by unfold tz; omega)), isS2_e h5 (fun j hj => q _ (by unfold nz; omega)), ⟨h2.2.2.1, h2.2.2.2.1, Dx, h2.1⟩, txs_fr h7 (fun a ha => q a (by omega)), txs_fr h8 (fun a ha => q a (by omega)), h9, rd_fr h10 (fun a a1 a2 => q a (by omega)), (q _ (by omega)).trans h11⟩
end QKR
theorem bEg_in {L : List (Nat × Nat)} {y z : Int} : bEg L y z = if 0 ≤ y ∧ y < ((L.length : Nat) : Int) then bEg L ((y.toNat : Nat) : Int) z else -1 := by
  by_cases h : 0 ≤ y ∧ y < ((L.length : Nat) : Int)
  · rw [if_pos h, Int.toNat_of_nonneg h.1]
  · rw [if_neg h]; exact bEg_no (fun q => h ⟨q.1, by omega⟩)
theorem bEg_p {L : List (Nat × Nat)} {y z : Int} (h : 0 ≤ y ∧ y < ((L.length : Nat) : Int)) : 0 ≤ bEg L y z := by
  unfold bEg
  rw [if_pos h.1, List.getElem?_eq_getElem (show y.toNat < L.length by omega)]
  simp only []
  split <;> omega
