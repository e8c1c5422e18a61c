/-! the law: a text is taken -/
theorem isEn_cl {G : GT} {hb : Nat} {A T : Nat → Nat} {tl fx : Nat → Int} {X : Nat → Int → Option Gn} {cl cm : Nat → Int} {dr : Int} {D : Dy} {w : Wo} (h : isEn G hb A T tl fx X cl dr D w) (e : ∀ t : Nat, (t : Int) < tl 1 → ∀ k : Nat, k < 681 → cm (681 * t + k) = cl (681 * t + k)) : isEn G hb A T tl fx X cm dr D w := by
  obtain ⟨h1, h2, h3, h4, h5, h6⟩ := h
  refine ⟨h1, h2, h3, h4, fun t ht => ?_, h6⟩
  obtain ⟨x, a1, a2, a3, n3, f3, g1, g2, g3, g4, g5, g6, g7⟩ := h5 t ht
  exact ⟨x, a1, a2, a3, n3, f3, g1, g2, g3, g4, g5, g6, txE_ag g7 (e t ht)⟩
theorem PS_text {n : Int} {tl : Nat → Int} {D : Dy} {L : List Dy} (h : PS n (tl, D, L)) (h4 : ¬ tl 1 = 4) : PS n (uN tl 1 (tl 1 + 1), D, L) := by
  have h1 : 0 ≤ tl 1 ∧ tl 1 ≤ 4 := h.1.1 1 (by decide)
  refine PS_tl h (Tok_u h.1 (Or.inl (by decide)) (fun _ => ?_)) ?_ (fun c hc q => ?_) ?_ (fun j hj => ?_)
  · show 0 ≤ tl 1 + 1 ∧ tl 1 + 1 ≤ 4
    omega
  · show tl 0 ≤ uN tl 1 (tl 1 + 1) 0
    rw [uN_o (by decide)]; exact Int.le_refl _
  · have q2 : uN tl 1 (tl 1 + 1) 0 ≤ ((c : Nat) : Int) := q
    rw [uN_o (by decide)] at q2
    show uN tl 1 (tl 1 + 1) (12 + c) = 0 ∧ uN tl 1 (tl 1 + 1) (15 + c) = 0
    rw [uN_o (by omega), uN_o (by omega)]
    exact h.2.2.2.1 c hc q2
  · show -1 ≤ uN tl 1 (tl 1 + 1) 2 ∧ uN tl 1 (tl 1 + 1) 2 < uN tl 1 (tl 1 + 1) 1
    rw [uN_o (by decide), uN_s]
    have : -1 ≤ tl 2 ∧ tl 2 < tl 1 := h.2.2.2.2.1
    omega
  · have hj2 : (j : Int) < uN tl 1 (tl 1 + 1) 4 := hj
    rw [uN_o (by decide)] at hj2
    have z := h.2.2.2.2.2 j hj2
    have e1 : uN tl 1 (tl 1 + 1) (986 + 2 * j) = tl (986 + 2 * j) := uN_o (by omega)
    have e2 : uN tl 1 (tl 1 + 1) (986 + 2 * j + 1) = tl (986 + 2 * j + 1) := uN_o (by omega)
    show (0 ≤ uN tl 1 (tl 1 + 1) (986 + 2 * j) ∧ uN tl 1 (tl 1 + 1) (986 + 2 * j) ≤ 4) ∧ 0 ≤ uN tl 1 (tl 1 + 1) (986 + 2 * j + 1) ∧ uN tl 1 (tl 1 + 1) (986 + 2 * j + 1) ≤ 10
    rw [e1, e2]
    exact z
def tL_507 : List (Nat × Instr × Nat) := [(507, .aload_n 1, 1), (508, .invokevirtual 46, 3), (511, .aload_n 2, 1), (512, .invokevirtual 50, 3), (515, .if_icmp .eq 1419, 3)]
set_option maxRecDepth 100000 in
theorem tL_507_ok : tL_507.all (fun q => decide (decode cL_law q.1 = .ok q.2)) = true := by decide +kernel
set_option maxHeartbeats 4000000 in
set_option maxRecDepth 100000 in
theorem law_7 (l : Launch) (G : GT) : LSt l G 507 := by
  intro nm ds t0 Qp sz sb Ln xs g kb o n wc wm k ns i MX0 hL hi hn h hk hns hkb kk
  obtain ⟨tl, fx, fx2, X, D, L, tl2, D2, L2, t, u, b0, hC⟩ := h
  have hC0 := hC
  obtain ⟨hp, hp2, h12, hE, hKr, hTm, hIm, hTx, hby, hu4, ht3, hu23⟩ := hC0
  obtain ⟨hT, hd, hJ, hi0, h9, hZ, hru, hs, hsd, hLk, hrg⟩ := PS_all hp
  have hkc := hKr.1
  obtain ⟨oc, hoc⟩ := isT_in hTm
  have MX := MX0.tab tL_507_ok
  have M := MX.S.M
  refine M.run 1 (pc' := 508) (lv' := [some (vr sb), some (vr kb), some (vr o), some (vi ((i : Nat) : Int))]) (st' := [vr kb]) rfl ?_
  refine M.callVm (Ctr.frL wc wm (kX10_text l G kb hkb tl fx fx2 X (b0 2) D L tl2 D2 L2 (b0 3) (u 5) (u 6) hT h12 hby t ht3)) cv_L_46 cd_X10_text rfl (st := []) rfl (in_l hkc) (by decide) (by decide) rfl (by omega) (by omega) ⟨rfl, hE, hKr⟩ (fun r1 w1 q1 => ?_)
  obtain ⟨wc1, q1, q1w⟩ := q1
  have hB := tkL_B hby ht3
  have h1b : 0 ≤ tl 1 ∧ tl 1 ≤ 4 := hT.1 1 (by decide)
  have e1 : (((tl 1).toNat : Nat) : Int) = tl 1 := Int.toNat_of_nonneg h1b.1
  by_cases c4 : tl 1 = 4
  · rw [if_pos c4] at q1
    obtain ⟨q1r, q1c⟩ := q1
    rw [q1r, q1w, q1c]
    refine M.run 1 (pc' := 512) (lv' := [some (vr sb), some (vr kb), some (vr o), some (vi ((i : Nat) : Int))]) (st' := [vr o, vi _]) rfl ?_
    refine M.callVm (Ctr.frR wm wc (vX11_text l G o (aI o) u tl b0 D L n hd hT t hby hu4 ht3)) cv_L_50 cd_X11_text rfl (st := [vi _]) rfl (in_r hoc) (by decide) (by decide) rfl (by omega) (by omega) ⟨rfl, hTm⟩ (fun r2 w2 q2 => ?_)
    obtain ⟨wm1, q2, q2w⟩ := q2
    rw [if_pos c4] at q2
    rw [q2.1, q2w, q2.2]
    exact M.icmp_same rfl rfl (M.wid (by omega) (by omega) (kk _ _ (LI_A hC)))
  · rw [if_neg c4] at q1
    generalize hR : pRea (tkL (b0 3) t) 25 ([], none, none) 0 = R at q1
    rcases R with ⟨s, kx⟩ | ⟨f, kx⟩
    · obtain ⟨q1r, qY⟩ := q1
      rw [q1r, q1w]
      refine M.run 1 (pc' := 512) (lv' := [some (vr sb), some (vr kb), some (vr o), some (vi ((i : Nat) : Int))]) (st' := [vr o, vi _]) rfl ?_
      refine M.callVm (Ctr.frR wm wc1 (vX11_text l G o (aI o) u tl b0 D L n hd hT t hby hu4 ht3)) cv_L_50 cd_X11_text rfl (st := [vi _]) rfl (in_r hoc) (by decide) (by decide) rfl (by omega) (by omega) ⟨rfl, hTm⟩ (fun r2 w2 q2 => ?_)
      obtain ⟨wm1, q2, q2w⟩ := q2
      rw [if_neg c4, hR] at q2
      obtain ⟨q2r, v, e, C, qM, ⟨v4, v5, v6, v23⟩, qe, qi, qT, qC, qL⟩ := q2
      rw [q2r, q2w]
      obtain ⟨Y, y1, y2⟩ := text_ok hB hR (X := X) (f := b0 2) (g := e 2) (n1 := (tl 1).toNat) (by rw [e1]; exact hTx) qT qC qL (fun i hi => qi i (Or.inl hi))
      obtain ⟨gx, gE, gK⟩ := qY Y (e 2) y2
      refine M.icmp_same rfl rfl (M.wid (by omega) (by omega) (kk _ _ ⟨uN tl 1 (tl 1 + 1), gx, fx2, Y, D, L, tl2, D2, L2, 0, v, e, PS_mono (by omega) (PS_text hp c4), PS_mono (by omega) hp2, ?_, gE, ?_, qM, ?_, ?_, ?_, v4, by decide, v23.trans hu23⟩))
      · rw [uN_s]; omega
      · rw [qe 3 (Or.inr rfl), v5, v6]; exact gK
      · unfold Im; rw [qe 1 (Or.inl rfl)]; exact hIm
      · rw [uN_s, ← e1]; exact y1
      · rw [qe 3 (Or.inr rfl)]; exact hby
    · obtain ⟨q1r, qE, qK⟩ := q1
      rw [q1r, q1w]
      refine M.run 1 (pc' := 512) (lv' := [some (vr sb), some (vr kb), some (vr o), some (vi ((i : Nat) : Int))]) (st' := [vr o, vi _]) rfl ?_
      refine M.callVm (Ctr.frR wm wc1 (vX11_text l G o (aI o) u tl b0 D L n hd hT t hby hu4 ht3)) cv_L_50 cd_X11_text rfl (st := [vi _]) rfl (in_r hoc) (by decide) (by decide) rfl (by omega) (by omega) ⟨rfl, hTm⟩ (fun r2 w2 q2 => ?_)
      obtain ⟨wm1, q2, q2w⟩ := q2
      rw [if_neg c4, hR] at q2
      obtain ⟨q2r, v, e, qM, ⟨v4, v5, v6, v23⟩, qe, qi⟩ := q2
      rw [q2r, q2w]
      have ei : ∀ t : Nat, (t : Int) < tl 1 → ∀ i : Nat, 681 * t ≤ i → i < 681 * t + 681 → e 2 i = b0 2 i := fun t ht i i1 i2 => qi i (Or.inl (by omega))
      refine M.icmp_same rfl rfl (M.wid (by omega) (by omega) (kk _ _ ⟨tl, fx, fx2, X, D, L, tl2, D2, L2, 0, v, e, PS_mono (by omega) hp, PS_mono (by omega) hp2, h12, isEn_cl qE (fun t ht k hk => ei t ht _ (by omega) (by omega)), ?_, qM, ?_, fun t ht => ⟨txC_e (hTx t ht).1 (ei t ht), lawR_e (hTx t ht).2.1 (hTx t ht).1 (ei t ht), lawR_e (hTx t ht).2.2 (hTx t ht).1 (ei t ht)⟩, ?_, v4, by decide, v23.trans hu23⟩))
      · rw [qe 3 (Or.inr rfl), v5, v6]; exact qK
      · unfold Im; rw [qe 1 (Or.inl rfl)]; exact hIm
      · rw [qe 3 (Or.inr rfl)]; exact hby
