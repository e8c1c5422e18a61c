theorem ring_push {f : Nat} {E : Nat → Dy} {L : List Dy} {D : Dy} (hf : f < 30) (hl : L.length ≤ 30) (hg : ∀ j : Nat, j < L.length → E ((f + j) % 30) = gY L j) : ∀ j : Nat, j < (pushL L D).length → upE E ((f + L.length) % 30) D (((if L.length = 30 then (f + 1) % 30 else f) + j) % 30) = gY (pushL L D) j := fun j hj => by
  rw [pushL_len hl] at hj
  unfold upE
  by_cases h : L.length = 30
  · rw [if_pos h]
    have eL : pushL L D = L.tail ++ [D] := by unfold pushL; rw [if_pos h]
    rw [eL]
    by_cases e : j = 29
    · rw [if_pos (by omega), show j = L.tail.length by rw [List.length_tail]; omega, gY_last]
    · rw [if_neg (by omega), gY_app (by rw [List.length_tail]; omega), gY_tail, ← hg (j + 1) (by omega)]
      congr 1
      omega
  · rw [if_neg h]
    have eL : pushL L D = L ++ [D] := by unfold pushL; rw [if_neg h]
    rw [eL]
    by_cases e : j = L.length
    · rw [if_pos (by rw [e]), e, gY_last]
    · rw [if_neg (by omega), gY_app (by omega)]
      exact hg j (by omega)
theorem mK_rem (l : Launch) (G : GT) (kb : Nat) (tl fx fx2 : Nat → Int) (X : Nat → Int → Option Gn) (cl : Nat → Int) (D : Dy) (L : List Dy) (tl2 : Nat → Int) (D2 : Dy) (L2 : List Dy) (tp : Nat → Int) (nt fs fp : Int) : Ctr l G yX5_remember cX5_remember 2 (Option.none : Option Jvm.ClassFile.FieldType) 3 0 0 [vr (kb + 1)] (fun w => isEn G (kb + 850) (aA kb) (tz (kb + 1)) tl fx X cl 1 D w ∧ isKr kb fx fx2 L tl2 D2 L2 tp nt fs fp w) (fun w r w' => r = none ∧ isEn G (kb + 850) (aA kb) (tz (kb + 1)) tl fx X cl 1 D w' ∧ isKr kb fx fx2 (pushL L D) tl2 D2 L2 tp nt fs fp w') := by
  refine Ctr.cases (fun w0 hp => ?_)
  obtain ⟨h1, h2⟩ := hp
  obtain ⟨f, E, hf, hl, hr, hg⟩ := h2.2.1
  have hN : isSt (nz (kb + 1)) D w0 := isS2_map h1.1 (fun i hi => (aA_n hi).symm)
  refine Ctr.mono (kX5_remember l G (kb + 1) (tz (kb + 1) 0) f L.length E hf hl (nz (kb + 1)) (fun j hj => by unfold nz; omega) D) (fun z e => by rw [e]; exact ⟨hr, hN⟩) (fun z r w' e q => ?_)
  rw [e] at q
  obtain ⟨q1, q2, q3, q4⟩ := q
  have fr : ∀ a : Nat, a ≠ kb + 1 → (a < kb + 22 ∨ kb + 412 ≤ a) → lk w' a = lk w0 a := fun a a1 a2 => q4 a a1 (by omega)
  refine ⟨q1, en_o h1 (isS2_map q3 (fun i hi => aA_n hi)) (fun a ha => fr a (by omega) (by omega)), ?_⟩
  obtain ⟨h21, h22, h3, h4, h5, h6, h7, h8, h9, h10, h11⟩ := h2
  have el : (pushL L D).length = if L.length = 30 then 30 else L.length + 1 := by rw [pushL_len hl]; split <;> omega
  refine ⟨(fr _ (by omega) (by omega)).trans h21, ⟨if L.length = 30 then (f + 1) % 30 else f, _, by split <;> omega, by rw [el]; split <;> omega, by rw [el]; exact q2, ring_push hf hl hg⟩, rg_fr h3 (fun a ha => fr a (by omega) (by omega)), isTo_fr h4 (fun j hj => fr _ (by unfold tz; omega) (by unfold tz; omega)), isS2_e h5 (fun j hj => fr _ (by unfold nz; omega) (by unfold nz; omega)), tr_fr h6 (fun a a1 a2 => fr a (by omega) (by omega)), txs_fr h7 (fun a ha => fr a (by omega) (by omega)), txs_fr h8 (fun a ha => fr a (by omega) (by omega)), h9, rd_fr h10 (fun a a1 a2 => fr a (by omega) (by omega)), (fr _ (by omega) (by omega)).trans h11⟩
theorem mK_take (l : Launch) (G : GT) (kb : Nat) (tl fx fx2 : Nat → Int) (X : Nat → Int → Option Gn) (cl : Nat → Int) (D : Dy) (L : List Dy) (tl2 : Nat → Int) (D2 : Dy) (L2 : List Dy) (tp : Nat → Int) (nt fs fp : Int) : Ctr l G yX5_takeBack cX5_takeBack 2 (Option.some Jvm.ClassFile.FieldType.int) 3 0 0 [vr (kb + 1)] (fun w => isEn G (kb + 850) (aA kb) (tz (kb + 1)) tl fx X cl 1 D w ∧ isKr kb fx fx2 L tl2 D2 L2 tp nt fs fp w) (fun w r w' => (L.length = 0 → r = some (vi (-1)) ∧ w' = w) ∧ ∀ c : Nat, L.length = c + 1 → r = some (vi ((c : Nat) : Int)) ∧ isEn G (kb + 850) (aA kb) (tz (kb + 1)) tl fx X cl 1 (gY L c) w' ∧ isKr kb fx fx2 L.dropLast tl2 D2 L2 tp nt fs fp w') := by
  refine Ctr.cases (fun w0 hp => ?_)
  obtain ⟨h1, h2⟩ := hp
  obtain ⟨f, E, hf, hl, hr, hg⟩ := h2.2.1
  have hN : isSt (nz (kb + 1)) D w0 := isS2_map h1.1 (fun i hi => (aA_n hi).symm)
  refine Ctr.mono (kX5_takeBack l G (kb + 1) (tz (kb + 1) 0) f L.length E hf hl (nz (kb + 1)) (fun j hj => by unfold nz; omega) D) (fun z e => by rw [e]; exact ⟨hr, hN⟩) (fun z r w' e q => ?_)
  rw [e] at q ⊢
  refine ⟨q.1, fun c hc => ?_⟩
  obtain ⟨q1, q2, q3, q4⟩ := q.2 c hc
  rw [hg c (by omega)] at q3
  have fr : ∀ a : Nat, a ≠ kb + 1 → (a < kb + 8 ∨ kb + 21 ≤ a) → lk w' a = lk w0 a := fun a a1 a2 => q4 a a1 (fun j hj => by unfold nz; omega)
  refine ⟨q1, en_o h1 (isS2_map q3 (fun i hi => aA_n hi)) (fun a ha => fr a (by omega) (by omega)), ?_⟩
  obtain ⟨h21, h22, h3, h4, h5, h6, h7, h8, h9, h10, h11⟩ := h2
  have el : L.dropLast.length = c := by rw [List.length_dropLast]; omega
  refine ⟨(fr _ (by omega) (by omega)).trans h21, ⟨f, E, hf, by omega, by rw [el]; exact q2, fun j hj => (hg j (by omega)).trans (gY_drop hj).symm⟩, rg_fr h3 (fun a ha => fr a (by omega) (by omega)), isTo_fr h4 (fun j hj => fr _ (by unfold tz; omega) (by unfold tz; omega)), isS2_e h5 (fun j hj => fr _ (by unfold nz; omega) (by unfold nz; omega)), tr_fr h6 (fun a a1 a2 => fr a (by omega) (by omega)), txs_fr h7 (fun a ha => fr a (by omega) (by omega)), txs_fr h8 (fun a ha => fr a (by omega) (by omega)), h9, rd_fr h10 (fun a a1 a2 => fr a (by omega) (by omega)), (fr _ (by omega) (by omega)).trans h11⟩
theorem txs_eq {hb : Nat} {fx hh : Nat → Int} {w : Wo} (h : txs hb fx w) (e : ∀ j : Nat, j < 4 → hh j = fx j) : txs hb hh w := fun j hj h0 => by
  rw [e j hj] at h0 ⊢
  exact h j hj h0
theorem mK_img (l : Launch) (G : GT) (kb : Nat) (tl fx fx2 : Nat → Int) (X : Nat → Int → Option Gn) (cl : Nat → Int) (D : Dy) (L : List Dy) (tl2 : Nat → Int) (D2 : Dy) (L2 : List Dy) (tp : Nat → Int) (nt fs fp : Int) (h1t : tl 1 ≤ 4) : Ctr l G yX5_copyFrom cX5_copyFrom 5 (Option.none : Option Jvm.ClassFile.FieldType) 3 0 0 [vr (kb + 412), vr (kb + 1)] (fun w => isEn G (kb + 850) (aA kb) (tz (kb + 1)) tl fx X cl 1 D w ∧ isKr kb fx fx2 L tl2 D2 L2 tp nt fs fp w) (fun w r w' => r = none ∧ ∃ hh, isEn G (kb + 850) (aA kb) (tz (kb + 1)) tl fx X cl 1 D w' ∧ isKr kb fx hh L tl D L tp nt fs fp w') := by
  refine Ctr.cases (fun w0 hp => ?_)
  obtain ⟨h1, h2⟩ := hp
  obtain ⟨h21, ⟨f2, E2, hf2, hl2, hr2, hg2⟩, ⟨f, E, hf, hl, hr, hg⟩, h4, h5, h6, h7, h8, h9, h10, h11⟩ := h2
  have hN : isSt (nz (kb + 1)) D w0 := isS2_map h1.1 (fun i hi => (aA_n hi).symm)
  refine Ctr.mono (kX5_copyFrom l G (kb + 412) (kb + 1) (Or.inr (by omega)) f L2.length f2 L.length E E2 ⟨hf, hf2⟩ ⟨hl, hl2⟩ tl2 tl fx2 fx D2 D) (fun z e => by rw [e]; exact ⟨hr, h4, h5, hr2, h1.2.1, hN, fun j hj h0 => (h7 j hj h0).2⟩) (fun z r w' e q => ?_)
  rw [e] at q
  obtain ⟨q1, ⟨E3, q2, q3⟩, ⟨hh, q4, q5⟩, q6, q7⟩ := q
  have fr : ∀ a : Nat, (a < kb + 412 ∨ kb + 823 ≤ a) → lk w' a = lk w0 a := fun a ha => q7 a (by omega)
  refine ⟨q1, hh, en_o h1 (isS2_e h1.1 (fun i hi => fr _ (by have := aA_r (kb := kb) i (by omega); omega))) (fun a ha => fr a (by omega)), ?_⟩
  have h7b := txs_fr h7 (w' := w') (fun a ha => fr a (by omega))
  exact ⟨(fr _ (by omega)).trans h21, ⟨f2, E2, hf2, hl2, rx_fr hr2 (fun a ha => fr a (by omega)), hg2⟩, ⟨0, E3, by decide, hl2, q2, fun j hj => by rw [show (0 + j) % 30 = j by omega, q3 j hj]; exact hg2 j hj⟩, q5, q6, tr_fr h6 (fun a a1 a2 => fr a (by omega)), h7b, txs_eq h7b q4, fun t ht => q4 t (by omega), rd_fr h10 (fun a a1 a2 => fr a (by omega)), (fr _ (by omega)).trans h11⟩
theorem mK_bck (l : Launch) (G : GT) (kb : Nat) (tl fx fx2 : Nat → Int) (X : Nat → Int → Option Gn) (cl : Nat → Int) (D : Dy) (L : List Dy) (tl2 : Nat → Int) (D2 : Dy) (L2 : List Dy) (tp : Nat → Int) (nt fs fp : Int) (h1t : tl2 1 ≤ 4) (h2t : tl2 1 ≤ tl 1) : Ctr l G yX5_copyFrom cX5_copyFrom 5 (Option.none : Option Jvm.ClassFile.FieldType) 3 0 0 [vr (kb + 1), vr (kb + 412)] (fun w => isEn G (kb + 850) (aA kb) (tz (kb + 1)) tl fx X cl 1 D w ∧ isKr kb fx fx2 L tl2 D2 L2 tp nt fs fp w) (fun w r w' => r = none ∧ ∃ hh, isEn G (kb + 850) (aA kb) (tz (kb + 1)) tl2 hh X cl 1 D2 w' ∧ isKr kb hh fx2 L2 tl2 D2 L2 tp nt fs fp w') := by
  refine Ctr.cases (fun w0 hp => ?_)
  obtain ⟨h1, h2⟩ := hp
  obtain ⟨h21, ⟨f2, E2, hf2, hl2, hr2, hg2⟩, ⟨f, E, hf, hl, hr, hg⟩, h4, h5, h6, h7, h8, h9, h10, h11⟩ := h2
  have hN : isSt (nz (kb + 1)) D w0 := isS2_map h1.1 (fun i hi => (aA_n hi).symm)
  refine Ctr.mono (kX5_copyFrom l G (kb + 1) (kb + 412) (Or.inl (by omega)) f2 L.length f L2.length E2 E ⟨hf2, hf⟩ ⟨hl2, hl⟩ tl tl2 fx fx2 D D2) (fun z e => by rw [e]; exact ⟨hr2, h1.2.1, hN, hr, h4, h5, fun j hj h0 => (h8 j hj h0).2⟩) (fun z r w' e q => ?_)
  rw [e] at q
  obtain ⟨q1, ⟨E3, q2, q3⟩, ⟨hh, q4, q5⟩, q6, q7⟩ := q
  have fr : ∀ a : Nat, (a < kb + 1 ∨ kb + 412 ≤ a) → lk w' a = lk w0 a := fun a ha => q7 a (by omega)
  have h8b := txs_fr h8 (w' := w') (fun a ha => fr a (by omega))
  obtain ⟨g1, g2, g3, g4, g5, g6, g7, g8⟩ := h1
  have qa : ∀ i : Nat, 13 ≤ i → i < 16 → lk w' (aA kb i) = lk w0 (aA kb i) := fun i i1 i2 => fr _ (by unfold aA; rw [if_neg (by omega)]; omega)
  have g5b := isTs_fr g5 (w' := w') (fun b hb2 => fr _ (by omega))
  refine ⟨q1, hh, ⟨isS2_map q6 (fun i hi => aA_n hi), q5, (qa 13 (by decide) (by decide)).trans g3, lw_fr g4 (qa 14 (by decide) (by decide)) (qa 15 (by decide) (by decide)), fun t ht => by rw [q4 t (by omega), h9 t ht]; exact g5b t (by omega), g6, g7, g8⟩, ?_⟩
  exact ⟨(fr _ (by omega)).trans h21, ⟨0, E3, by decide, hl, q2, fun j hj => by rw [show (0 + j) % 30 = j by omega, q3 j hj]; exact hg j hj⟩, ⟨f, E, hf, hl, rx_fr hr (fun a ha => fr a (by omega)), hg⟩, isTo_fr h4 (fun j hj => fr _ (by unfold tz; omega)), isS2_e h5 (fun j hj => fr _ (by unfold nz; omega)), tr_fr h6 (fun a a1 a2 => fr a (by omega)), txs_eq h8b q4, h8b, fun t ht => (q4 t (by omega)).symm, rd_fr h10 (fun a a1 a2 => fr a (by omega)), (fr _ (by omega)).trans h11⟩
