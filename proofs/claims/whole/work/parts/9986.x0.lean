/-! what a text leaves in the row, and what it says, is the same to both -/
theorem pRea_E {L : List (Int × Int × Int)} (hB : tkB L) : ∀ (n : Nat) (s : Rs) (j : Nat) (s2 : Rs) (k : Nat), (∀ e : Ex, s.2.1 = some e → eN 0 e) → (∀ e : Ex, s.2.2 = some e → eN 1 e) → pRea L n s j = .inl (s2, k) → (∀ e : Ex, s2.2.1 = some e → eN 0 e) ∧ ∀ e : Ex, s2.2.2 = some e → eN 1 e
  | 0, s, j, s2, k, h1, h2, h => by
    cases h
    exact ⟨h1, h2⟩
  | n + 1, s, j, s2, k, h1, h2, h => by
    by_cases q : (gTk L j).1 = 51
    · rw [show pRea L (n + 1) s j = .inl (s, j) from if_pos q] at h
      cases h
      exact ⟨h1, h2⟩
    · have hp : pRea L (n + 1) s j = _ := if_neg q
      rcases hE : pCla L s j with ⟨s3, k3⟩ | x
      · rw [hE] at hp
        have h3 : (∀ e : Ex, s3.2.1 = some e → eN 0 e) ∧ ∀ e : Ex, s3.2.2 = some e → eN 1 e := by
          have hc := hE
          unfold pCla at hc
          split at hc
          · cases hc
          split at hc
          · cases hc
          split at hc
          · cases hc
          split at hc
          · rename_i h01
            unfold pLaC at hc
            split at hc
            · rename_i e k9 he
              split at hc
              · cases hc
                have hz := (pLv_E hB h01 8).2.1 _ _ _ he
                refine ⟨fun y hy => ?_, fun y hy => ?_⟩
                · have hy2 : (if (gTk L j).1 = 0 then some e else s.2.1) = some y := hy
                  by_cases c : (gTk L j).1 = 0
                  · rw [if_pos c] at hy2
                    rw [c] at hz
                    rw [← Option.some.inj hy2]
                    exact hz
                  · rw [if_neg c] at hy2
                    exact h1 y hy2
                · have hy2 : (if (gTk L j).1 = 0 then s.2.2 else some e) = some y := hy
                  by_cases c : (gTk L j).1 = 0
                  · rw [if_pos c] at hy2
                    exact h2 y hy2
                  · rw [if_neg c] at hy2
                    rw [h01.resolve_left c] at hz
                    rw [← Option.some.inj hy2]
                    exact hz
              · cases hc
            · cases hc
          · unfold pDeC at hc
            split at hc
            · cases hc
              exact ⟨h1, h2⟩
            · cases hc
        exact pRea_E hB n s3 k3 s2 k h3.1 h3.2 (hp.symm.trans h)
      · rw [hE] at hp
        rw [hp] at h
        cases h
theorem rCl_x {f : Nat → Int} {c : Nat} : ∀ (l : List (Int × Int)) (C0 C1 : List (Int × Int)), rCl (C0 ++ (l.map toR ++ C1)) c f → xAt f c C0.length l
  | [], C0, C1, _ => trivial
  | x :: l, C0, C1, h => by
    have h1 := h C0.length (by rw [List.length_append, List.length_append, List.map_cons, List.length_cons]; omega)
    rw [List.getD_eq_getElem?_getD, List.getElem?_append_right (Nat.le_refl _), Nat.sub_self] at h1
    refine ⟨h1, ?_⟩
    have e : C0 ++ ((x :: l).map toR ++ C1) = (C0 ++ [toR x]) ++ (l.map toR ++ C1) := by simp
    rw [e] at h
    have h2 := rCl_x l (C0 ++ [toR x]) C1 h
    rw [List.length_append] at h2
    exact h2
/-- one law's meaning in the reference's row -/
theorem law_ok {f : Nat → Int} {n1 : Nat} {C : List (Int × Int)} {s : Rs} {q : Int} {z : Option Ex} (hT : rTs (681 * n1) f C s) (hC : rCl C (681 * n1 + 73) f) (hl : C.length ≤ 301) (hz : rLw (681 * n1) f C s.1 q z) (hE : ∀ e : Ex, z = some e → eN q e) : ∃ Y : Option Gn, lawR f n1 q Y ∧ xMe Y q z := by
  obtain ⟨t1, t2, t3, _, _⟩ := hT
  cases z with
  | none =>
    refine ⟨none, Or.inl ⟨rfl, fun k hk => ?_⟩, rfl⟩
    rw [t1] at hk
    rw [(t3 k (by omega)).1]
    exact hz k (by omega)
  | some e =>
    obtain ⟨gg, g1, g2⟩ := eN_jx (hE e rfl)
    obtain ⟨k, C0, C1, h1, h2, h3, h4, h5, h6⟩ := hz
    have hlen : C.length = C0.length + ((post e).length + C1.length) := by rw [h6, List.append_assoc, List.length_append, List.length_append]
    have hp : (post e).length = e.2.2.length := List.length_map _
    have hx : xAt f (681 * n1 + 73) C0.length e.2.2 := rCl_x e.2.2 C0 C1 (by rw [h6, List.append_assoc] at hC; exact hC)
    obtain ⟨g3, g4⟩ := g2 f (681 * n1 + 73) C0.length hx
    refine ⟨some gg, Or.inr ⟨gg, k, C0.length, C0.length + e.2.2.length, rfl, by rw [t1]; omega, fun j hj hq => ?_, (t3 k h1).1.trans h2, h4, by rw [h5, List.length_append, hp], ⟨by omega, by omega⟩, g3, g4⟩, gg, rfl, g1⟩
    rw [(t3 j (by omega)).1] at hq
    have := h3 j (by omega) hq
    omega
theorem lawR_e {f g : Nat → Int} {t : Nat} {q : Int} {X : Option Gn} (h : lawR f t q X) (hc : txC f t) (e : ∀ i : Nat, 681 * t ≤ i → i < 681 * t + 681 → g i = f i) : lawR g t q X := by
  obtain ⟨⟨hc1, hc2⟩, hc3⟩ := hc
  have e0 := e (681 * t) (Nat.le_refl _) (by omega)
  have ek : ∀ k : Nat, (k : Int) < f (681 * t) → g (681 * t + 1 + 3 * k) = f (681 * t + 1 + 3 * k) ∧ g (681 * t + 1 + 3 * k + 1) = f (681 * t + 1 + 3 * k + 1) ∧ g (681 * t + 1 + 3 * k + 2) = f (681 * t + 1 + 3 * k + 2) := fun k hk => ⟨e _ (by omega) (by omega), e _ (by omega) (by omega), e _ (by omega) (by omega)⟩
  rcases h with ⟨h1, h2⟩ | ⟨gg, k, s, e2, h1, h2, h3, h4, h5, h6, h7, h8, h9⟩
  · refine Or.inl ⟨h1, fun k hk => ?_⟩
    rw [e0] at hk
    rw [(ek k hk).1]
    exact h2 k hk
  · refine Or.inr ⟨gg, k, s, e2, h1, by rw [e0]; exact h2, fun j hj => ?_, (ek k h2).1.trans h4, (ek k h2).2.1.trans h5, (ek k h2).2.2.trans h6, h7, fun nm of V T n m => ?_, fun i hi1 hi2 hv => ?_⟩
    · rw [(ek j (by omega)).1]
      exact h3 j hj
    · obtain ⟨V2, T2, r1, r2⟩ := h8 nm of V T n m
      refine ⟨V2, T2, ?_, r2⟩
      have hr : ∀ (d i : Nat) (S : XS), i + d ≤ 303 → xrun nm of g (681 * t + 73) d i S = xrun nm of f (681 * t + 73) d i S := by
        intro d
        induction d with
        | zero => intro i S _; rfl
        | succ d ih =>
          intro i S hi
          show (match xst nm of (g (681 * t + 73 + 2 * i)) (g (681 * t + 73 + 2 * i + 1)) S with | none => none | some T => xrun nm of g (681 * t + 73) d (i + 1) T) = (match xst nm of (f (681 * t + 73 + 2 * i)) (f (681 * t + 73 + 2 * i + 1)) S with | none => none | some T => xrun nm of f (681 * t + 73) d (i + 1) T)
          rw [e (681 * t + 73 + 2 * i) (by omega) (by omega), e (681 * t + 73 + 2 * i + 1) (by omega) (by omega)]
          cases xst nm of (f (681 * t + 73 + 2 * i)) (f (681 * t + 73 + 2 * i + 1)) S with
          | none => rfl
          | some T => exact ih (i + 1) T (by omega)
      rw [hr _ _ _ (by omega)]
      exact r1
    · rw [e _ (by omega) (by omega)] at hv ⊢
      exact h9 i hi1 hi2 hv
theorem txC_e {f g : Nat → Int} {t : Nat} (hc : txC f t) (e : ∀ i : Nat, 681 * t ≤ i → i < 681 * t + 681 → g i = f i) : txC g t := by
  obtain ⟨⟨hc1, hc2⟩, hc3⟩ := hc
  have e0 := e (681 * t) (Nat.le_refl _) (by omega)
  refine ⟨by rw [e0]; exact ⟨hc1, hc2⟩, fun k hk => ?_⟩
  rw [e0] at hk
  rw [e (681 * t + 1 + 3 * k) (by omega) (by omega), e (681 * t + 1 + 3 * k + 1) (by omega) (by omega), e (681 * t + 1 + 3 * k + 2) (by omega) (by omega)]
  exact hc3 k hk
/-- a text that is taken -/
theorem text_ok {f g : Nat → Int} {X : Nat → Int → Option Gn} {n1 : Nat} {C : List (Int × Int)} {L : List (Int × Int × Int)} {s : Rs} {k : Nat} (hB : tkB L) (hr : pRea L 25 ([], none, none) 0 = .inl (s, k)) (hX : TxOk f X ((n1 : Nat) : Int)) (hT : rTs (681 * n1) g C s) (hC : rCl C (681 * n1 + 73) g) (hl : C.length ≤ 301) (e : ∀ i : Nat, i < 681 * n1 → g i = f i) : ∃ Y : Nat → Int → Option Gn, TxOk g Y ((n1 + 1 : Nat) : Int) ∧ agX X f Y g n1 s := by
  obtain ⟨e0, e1⟩ := pRea_E hB 25 ([], none, none) 0 s k (fun e he => by cases he) (fun e he => by cases he) hr
  obtain ⟨Y0, y1, y2⟩ := law_ok hT hC hl hT.2.2.2.1 e0
  obtain ⟨Y1, z1, z2⟩ := law_ok hT hC hl hT.2.2.2.2 e1
  have hce : ∀ t : Nat, t < n1 → ∀ i : Nat, 681 * t ≤ i → i < 681 * t + 681 → g i = f i := fun t ht i h1 h2 => e i (by omega)
  refine ⟨fun t q => if t = n1 then (if q = 0 then Y0 else Y1) else X t q, fun t ht => ?_, ⟨fun t ht => ?_, ?_, ?_, ?_⟩⟩
  · by_cases c : t = n1
    · subst c
      obtain ⟨t1, t2, t3, _, _⟩ := hT
      refine ⟨⟨by rw [t1]; omega, fun k hk => ?_⟩, ?_, ?_⟩
      · rw [t1] at hk
        obtain ⟨q1, q2, q3, q4⟩ := t3 k (by omega)
        rw [q1]
        exact ⟨q2, fun z => ⟨by rw [(q3 z).1]; exact (q3 z).2, fun z2 => by rw [(q4 z2).1]; exact (q4 z2).2⟩⟩
      · show lawR g t 0 (if t = t then (if (0 : Int) = 0 then Y0 else Y1) else X t 0)
        rw [if_pos rfl, if_pos rfl]
        exact y1
      · show lawR g t 1 (if t = t then (if (1 : Int) = 0 then Y0 else Y1) else X t 1)
        rw [if_pos rfl, if_neg (by decide)]
        exact z1
    · obtain ⟨c1, c2, c3⟩ := hX t (by omega)
      refine ⟨txC_e c1 (hce t (by omega)), ?_, ?_⟩
      · show lawR g t 0 (if t = n1 then _ else X t 0)
        rw [if_neg c]
        exact lawR_e c2 c1 (hce t (by omega))
      · show lawR g t 1 (if t = n1 then _ else X t 1)
        rw [if_neg c]
        exact lawR_e c3 c1 (hce t (by omega))
  · exact ⟨if_neg (by omega), if_neg (by omega), fun k hk => hce t ht _ (by omega) (by omega)⟩
  · show xMe (if n1 = n1 then (if (0 : Int) = 0 then Y0 else Y1) else X n1 0) 0 s.2.1
    rw [if_pos rfl, if_pos rfl]
    exact y2
  · show xMe (if n1 = n1 then (if (1 : Int) = 0 then Y0 else Y1) else X n1 1) 1 s.2.2
    rw [if_pos rfl, if_neg (by decide)]
    exact z2
  · obtain ⟨t1, t2, t3, _, _⟩ := hT
    refine ⟨t1, fun k hk => ?_⟩
    obtain ⟨q1, q2, q3, q4⟩ := t3 k hk
    exact ⟨q1.symm, fun z => (q3 z).1.symm, fun z => (q4 z).1.symm⟩
