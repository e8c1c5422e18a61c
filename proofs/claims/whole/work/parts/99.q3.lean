/-! the pile stays small -/
def opnr (o : Int) : Bool := decide (40 ≤ o) || decide (rkO o = 7) || decide (o = 20)
def topR : List Int → Int
  | [] => 0
  | o :: _ => if opnr o = true then 0 else rkO o
def wfP : List Int → Int → Prop
  | [], op => op = 0
  | o :: P, op => if opnr o = true then wfP P (op - 1) else wfP P op ∧ 1 ≤ rkO o ∧ topR P < rkO o
theorem rkO_b (o : Int) : 0 ≤ rkO o ∧ rkO o ≤ 7 := by
  unfold rkO
  repeat' split
  all_goals omega
theorem opnr_i {o : Int} : opnr o = true ↔ (40 ≤ o ∨ rkO o = 7 ∨ o = 20) := by
  unfold opnr
  rw [Bool.or_eq_true, Bool.or_eq_true, decide_eq_true_eq, decide_eq_true_eq, decide_eq_true_eq]
  omega
theorem topR_b (P : List Int) : 0 ≤ topR P ∧ topR P ≤ 6 := by
  cases P with
  | nil => exact ⟨Int.le_refl 0, by show (0 : Int) ≤ 6; decide⟩
  | cons o P =>
    have h := rkO_b o
    show 0 ≤ (if opnr o = true then 0 else rkO o) ∧ (if opnr o = true then 0 else rkO o) ≤ 6
    by_cases q : opnr o = true
    · rw [if_pos q]; omega
    · rw [if_neg q]
      rw [opnr_i] at q
      omega
theorem wfP_len : ∀ (P : List Int) (op : Int), wfP P op → 0 ≤ op ∧ ((P.length : Nat) : Int) ≤ 7 * op + topR P
  | [], op, h => by
    have e : op = 0 := h
    subst e
    exact ⟨Int.le_refl 0, by show (0 : Int) ≤ 7 * 0 + 0; decide⟩
  | o :: P, op, h => by
    have hb := topR_b P
    rw [List.length_cons]
    by_cases q : opnr o = true
    · have h2 : wfP P (op - 1) := by
        have z : (if opnr o = true then wfP P (op - 1) else wfP P op ∧ 1 ≤ rkO o ∧ topR P < rkO o) := h
        rw [if_pos q] at z
        exact z
      obtain ⟨i1, i2⟩ := wfP_len P (op - 1) h2
      rw [show topR (o :: P) = 0 from if_pos q]
      omega
    · have h2 : wfP P op ∧ 1 ≤ rkO o ∧ topR P < rkO o := by
        have z : (if opnr o = true then wfP P (op - 1) else wfP P op ∧ 1 ≤ rkO o ∧ topR P < rkO o) := h
        rw [if_neg q] at z
        exact z
      obtain ⟨i1, i2⟩ := wfP_len P op h2.1
      rw [show topR (o :: P) = rkO o from if_neg q]
      omega
theorem wfP_o {o : Int} {P : List Int} {op : Int} (h : opnr o = true) : wfP (o :: P) op ↔ wfP P (op - 1) := by
  show (if opnr o = true then wfP P (op - 1) else wfP P op ∧ 1 ≤ rkO o ∧ topR P < rkO o) ↔ _
  rw [if_pos h]
theorem wfP_n {o : Int} {P : List Int} {op : Int} (h : ¬ opnr o = true) : wfP (o :: P) op ↔ wfP P op ∧ 1 ≤ rkO o ∧ topR P < rkO o := by
  show (if opnr o = true then wfP P (op - 1) else wfP P op ∧ 1 ≤ rkO o ∧ topR P < rkO o) ↔ _
  rw [if_neg h]
/-- settling keeps it so -/
theorem wfP_s {r : Int} (hr : 1 ≤ r) : ∀ (P : List Int) (op : Int) (C : List (Int × Int)), wfP P op → wfP (sTL r P op C).1 (sTL r P op C).2.1 ∧ (sTL r P op C).2.1 ≤ op ∧ (sTL r P op C).2.2.length + (sTL r P op C).1.length = C.length + P.length ∧ frs r (sTL r P op C).1
  | [], op, C, h => ⟨h, Int.le_refl _, rfl, trivial⟩
  | o :: P, op, C, h => by
    by_cases q : r ≤ rkO o
    · rw [sTL_p q]
      have h40 : ¬ 40 ≤ o := fun z => by
        have e : rkO o = 0 := if_pos z
        omega
      have hw : wfP P (if rkO o = 7 ∨ o = 20 then op - 1 else op) := by
        by_cases z : rkO o = 7 ∨ o = 20
        · rw [if_pos z]
          exact (wfP_o (opnr_i.mpr (by omega))).mp h
        · rw [if_neg z]
          exact ((wfP_n (fun y => by rw [opnr_i] at y; omega)).mp h).1
      obtain ⟨i1, i2, i3, i4⟩ := wfP_s hr P _ (C ++ [(o, 0)]) hw
      refine ⟨i1, ?_, ?_, i4⟩
      · refine Int.le_trans i2 ?_
        split <;> omega
      · rw [i3, List.length_append, List.length_cons]
        show C.length + 1 + P.length = C.length + (P.length + 1)
        omega
    · rw [show sTL r (o :: P) op C = (o :: P, op, C) from if_neg q]
      exact ⟨h, Int.le_refl _, rfl, by show rkO o < r; omega⟩
theorem sTL_1 : ∀ (P : List Int) (op : Int) (C : List (Int × Int)), 0 ≤ opnw P → ∃ Q, (sTL 1 P op C).1 = opnw P :: Q ∧ 40 ≤ opnw P
  | [], op, C, h => absurd h (by decide)
  | o :: P, op, C, h => by
    by_cases q : 40 ≤ o
    · have e : rkO o = 0 := if_pos q
      have e2 : opnw (o :: P) = o := if_pos q
      rw [e2, show sTL 1 (o :: P) op C = (o :: P, op, C) from if_neg (by omega)]
      exact ⟨P, rfl, q⟩
    · have e2 : opnw (o :: P) = opnw P := if_neg q
      rw [e2] at h ⊢
      have hr : 1 ≤ rkO o := by
        unfold rkO
        rw [if_neg q]
        repeat' split
        all_goals omega
      rw [sTL_p hr]
      exact sTL_1 P _ _ h
/-- a good standing of the reading -/
def okM (S : MS) : Prop := wfP S.1 S.2.1 ∧ S.2.1 ≤ 8 ∧ S.2.2.2.1.length + S.1.length ≤ S.2.2.2.2
theorem okM_pile {S : MS} (h : okM S) : S.1.length ≤ 62 ∧ 0 ≤ S.2.1 := by
  obtain ⟨h1, h2, h3⟩ := h
  obtain ⟨i1, i2⟩ := wfP_len _ _ h1
  have := topR_b S.1
  omega
theorem okM_stl {r : Int} (hr : 1 ≤ r) {P : List Int} {op : Int} {C : List (Int × Int)} {j n : Nat} {b : Bool} (h1 : wfP P op) (h2 : op ≤ 8) (h3 : C.length + P.length ≤ n) (hn : n ≤ j) : okM (mkS (sTL r P op C) b j) := by
  obtain ⟨i1, i2, i3, i4⟩ := wfP_s hr P op C h1
  refine ⟨i1, ?_, ?_⟩
  · show (sTL r P op C).2.1 ≤ 8
    omega
  · show (sTL r P op C).2.2.length + (sTL r P op C).1.length ≤ j
    omega
theorem cmpO_b (s : Int) : cmpO s = -1 ∨ (10 ≤ cmpO s ∧ cmpO s ≤ 15) := by
  unfold cmpO
  repeat' split
  all_goals omega
theorem betM_b (P : List Int) (s : Int) : betM P s = -1 ∨ (6 ≤ betM P s ∧ betM P s ≤ 9) ∨ (10 ≤ betM P s ∧ betM P s ≤ 15 ∧ isCm P = false) ∨ betM P s = 21 ∨ betM P s = 22 := by
  have h := cmpO_b s
  unfold betM
  repeat' split
  all_goals first | omega | skip
  rename_i hc
  rcases h with h | h
  · exact Or.inl h
  · exact Or.inr (Or.inr (Or.inl ⟨h.1, h.2, hc⟩))
theorem prtM_b (P : List Int) (s : Int) : prtM P s = -1 ∨ (prtM P s = 0 ∧ (opnw P = 40 ∨ opnw P = 43)) ∨ ((prtM P s = 42 ∨ prtM P s = 43) ∧ 0 ≤ opnw P) := by
  unfold prtM
  repeat' split
  all_goals omega
theorem okM_beh {L : List (Int × Int × Int)} {P : List Int} {op : Int} {C : List (Int × Int)} {j : Nat} {S2 : MS} (h : okM (P, op, true, C, j)) (hb : behM L P op C j = .inl S2) : okM S2 := by
  obtain ⟨h1, h2, h3⟩ := h
  have h1' : wfP P op := h1
  have h2' : op ≤ 8 := h2
  have h3' : C.length + P.length ≤ j := h3
  unfold behM at hb
  have hq := betM_b P (gTk L j).1
  split at hb
  · rename_i h0
    cases hb
    generalize hv : betM P (gTk L j).1 = v at *
    have hr : 1 ≤ (if rkO v = 4 then 5 else rkO v) ∧ rkO v ≤ (if rkO v = 4 then 5 else rkO v) ∧ ¬ opnr v = true ∧ 1 ≤ rkO v ∧ (rkO v = 4 → 10 ≤ v ∧ v ≤ 15) := by
      rcases (show v = 6 ∨ v = 7 ∨ v = 8 ∨ v = 9 ∨ v = 10 ∨ v = 11 ∨ v = 12 ∨ v = 13 ∨ v = 14 ∨ v = 15 ∨ v = 21 ∨ v = 22 by omega) with e | e | e | e | e | e | e | e | e | e | e | e
      all_goals (rw [e]; decide)
    obtain ⟨i1, i2, i3, i4⟩ := wfP_s (C := C) hr.1 P op h1'
    refine ⟨(wfP_n hr.2.2.1).mpr ⟨i1, hr.2.2.2.1, ?_⟩, by show (sTL _ P op C).2.1 ≤ 8; omega, ?_⟩
    · by_cases h4 : rkO v = 4
      · have h10 := hr.2.2.2.2 h4
        rw [if_pos h4] at i4 ⊢
        have hc : isCm P = false := by
          rcases hq with q | q | q | q | q
          · exact absurd h10 (by omega)
          · exact absurd h10 (by omega)
          · exact q.2.2
          · exact absurd h10 (by omega)
          · exact absurd h10 (by omega)
        rw [← sTL_c P op C] at hc
        generalize (sTL 5 P op C).1 = Q at i4 hc ⊢
        cases Q with
        | nil => show (0 : Int) < rkO v; omega
        | cons o Q =>
          have z1 : rkO o < 5 := i4
          have z2 : (if 4 < rkO o then isCm Q else decide (rkO o = 4)) = false := hc
          rw [if_neg (by omega)] at z2
          have z3 := of_decide_eq_false z2
          have z4 := rkO_b o
          show (if opnr o = true then 0 else rkO o) < rkO v
          split <;> omega
      · rw [if_neg h4] at i4 ⊢
        generalize (sTL (rkO v) P op C).1 = Q at i4 ⊢
        cases Q with
        | nil => show (0 : Int) < rkO v; omega
        | cons o Q =>
          have z1 : rkO o < rkO v := i4
          have z4 := rkO_b o
          show (if opnr o = true then 0 else rkO o) < rkO v
          split <;> omega
    · show (sTL _ P op C).2.2.length + (v :: (sTL _ P op C).1).length ≤ j + 1
      rw [List.length_cons]
      omega
  split at hb
  · split at hb <;> cases hb
  have hp := prtM_b P (gTk L j).1
  rename_i hnn
  obtain ⟨i1, i2, i3, i4⟩ := wfP_s (r := 1) (C := C) (by decide) P op h1'
  split at hb
  · rename_i h0
    cases hb
    obtain ⟨Q, q1, q2⟩ := sTL_1 P op C (by omega)
    rw [q1] at i1 i3
    have ho : opnr (opnw P) = true := opnr_i.mpr (Or.inl q2)
    have ho2 : opnr (prtM P (gTk L j).1) = true := opnr_i.mpr (Or.inl (by omega))
    rw [wfP_o ho] at i1
    rw [List.length_cons] at i3
    refine ⟨?_, by show (sTL 1 P op C).2.1 ≤ 8; omega, ?_⟩
    · show wfP (prtM P (gTk L j).1 :: (sTL 1 P op C).1.tail) (sTL 1 P op C).2.1
      rw [q1, wfP_o ho2]
      exact i1
    · show (sTL 1 P op C).2.2.length + (prtM P (gTk L j).1 :: (sTL 1 P op C).1.tail).length ≤ j + 1
      rw [q1, List.length_cons]
      show _ + (Q.length + 1) ≤ _
      omega
  · cases hb
    obtain ⟨Q, q1, q2⟩ := sTL_1 P op C (by omega)
    rw [q1] at i1 i3
    have ho : opnr (opnw P) = true := opnr_i.mpr (Or.inl q2)
    rw [wfP_o ho] at i1
    rw [List.length_cons] at i3
    unfold shtS
    rw [q1]
    refine okM_stl (n := j + 1) (by decide) i1 (by omega) ?_ (Nat.le_refl _)
    show (if decide (opnw P = 43) = true then (sTL 1 P op C).2.2 ++ [(3, 0)] else (sTL 1 P op C).2.2).length + Q.length ≤ j + 1
    split
    · rw [List.length_append]
      show (sTL 1 P op C).2.2.length + 1 + Q.length ≤ _
      omega
    · omega
theorem okM_opn {o op : Int} {P : List Int} {C : List (Int × Int)} {j : Nat} {S2 : MS} (ho : opnr o = true) (h : okM (P, op, false, C, j)) (hb : opnM o P op C j = .inl S2) : okM S2 := by
  obtain ⟨h1, h2, h3⟩ := h
  have h1' : wfP P op := h1
  have h2' : op ≤ 8 := h2
  have h3' : C.length + P.length ≤ j := h3
  unfold opnM at hb
  split at hb
  · cases hb
  · cases hb
    refine ⟨?_, by show op + 1 ≤ 8; omega, ?_⟩
    · show wfP (o :: P) (op + 1)
      rw [wfP_o ho, show op + 1 - 1 = op by omega]
      exact h1'
    · show C.length + (o :: P).length ≤ j + 1
      rw [List.length_cons]
      omega
theorem okM_beg {L : List (Int × Int × Int)} {ly : Int} {P : List Int} {op : Int} {C : List (Int × Int)} {j : Nat} {S2 : MS} (h : okM (P, op, false, C, j)) (hb : begM L ly P op C j = .inl S2) : okM S2 := by
  unfold begM at hb
  split at hb
  · cases hb
  by_cases hs : (17 ≤ (gTk L j).1 ∧ (gTk L j).1 ≤ 23) ∧ (gTk L j).1 = (if ly = 0 then 23 else 22)
  · rw [if_pos hs] at hb
    cases hb
  rw [if_neg hs] at hb
  split at hb
  · cases hb
    obtain ⟨h1, h2, h3⟩ := h
    refine okM_stl (n := j + 1) (by decide) h1 h2 ?_ (Nat.le_refl _)
    rw [List.length_append]
    have h3' : C.length + P.length ≤ j := h3
    show C.length + 1 + P.length ≤ j + 1
    omega
  split at hb
  · exact okM_opn (by decide) h hb
  split at hb
  · exact okM_opn (by decide) h hb
  split at hb
  · exact okM_opn (by decide) h hb
  split at hb
  · exact okM_opn (by decide) h hb
  split at hb
  · exact okM_opn (by decide) h hb
  split at hb
  · exact okM_opn (by decide) h hb
  · cases hb
