def POk (n : Int) (S : TS) : Prop := Tok S.1 ∧ Sok n S.1 S.2.1 ∧ Tz S.1 ∧ -1 ≤ S.1 2 ∧ S.1 2 < S.1 1
theorem POk_mono {n m : Int} {S : TS} (h : n ≤ m) (hs : POk n S) : POk m S := ⟨hs.1, Sok_mono h hs.2.1, hs.2.2⟩
theorem POk_block {n x y : Int} {S : TS} (hs : POk n S) : POk n (sBlock x y S) := by
  have q := TSok_block (x := x) (y := y) (S := (S.1, S.2.1, ([] : List Dy))) (n := n) ⟨hs.1, hs.2.1.1, hs.2.1.2.1, hs.2.1.2.2.1, fun D h => by cases h⟩
  have e1 : (sBlock x y (S.1, S.2.1, ([] : List Dy))).1 = (sBlock x y S).1 := by unfold sBlock; split <;> rfl
  have qT : Tok (sBlock x y S).1 := e1 ▸ q.1
  refine ⟨qT, ?_⟩
  unfold sBlock
  split
  · rename_i h
    obtain ⟨h1, ⟨h2, h3, h4, h5, h6⟩, h7, h8, h9⟩ := hs
    have h0 : 0 ≤ S.1 0 ∧ S.1 0 ≤ 3 := h1.1 0 (by decide)
    have e0 : uN (uN (uN S.1 (12 + (S.1 0).toNat) x) (15 + (S.1 0).toNat) y) 0 (S.1 0 + 1) 0 = S.1 0 + 1 := uN_s _ _ _
    have e2 : ∀ k : Nat, k ≠ 0 → k ≠ 12 + (S.1 0).toNat → k ≠ 15 + (S.1 0).toNat → uN (uN (uN S.1 (12 + (S.1 0).toNat) x) (15 + (S.1 0).toNat) y) 0 (S.1 0 + 1) k = S.1 k := fun k a b c => by rw [uN_o a, uN_o c, uN_o b]
    refine ⟨⟨h2, h3, h4, h5, fun b hb hb2 => h6 b hb ?_⟩, fun c hc hc2 => ?_, ?_, ?_⟩
    · replace hb2 : uN (uN (uN S.1 (12 + (S.1 0).toNat) x) (15 + (S.1 0).toNat) y) 0 (S.1 0 + 1) 0 ≤ ((b : Nat) : Int) := hb2
      omega
    · replace hc2 : uN (uN (uN S.1 (12 + (S.1 0).toNat) x) (15 + (S.1 0).toNat) y) 0 (S.1 0 + 1) 0 ≤ ((c : Nat) : Int) := hc2
      show uN (uN (uN S.1 (12 + (S.1 0).toNat) x) (15 + (S.1 0).toNat) y) 0 (S.1 0 + 1) (12 + c) = 0 ∧ uN (uN (uN S.1 (12 + (S.1 0).toNat) x) (15 + (S.1 0).toNat) y) 0 (S.1 0 + 1) (15 + c) = 0
      rw [e2 (12 + c) (by omega) (by omega) (by omega), e2 (15 + c) (by omega) (by omega) (by omega)]
      exact h7 c hc (by omega)
    · show -1 ≤ uN (uN (uN S.1 (12 + (S.1 0).toNat) x) (15 + (S.1 0).toNat) y) 0 (S.1 0 + 1) 2
      rw [e2 2 (by omega) (by omega) (by omega)]; exact h8
    · show uN (uN (uN S.1 (12 + (S.1 0).toNat) x) (15 + (S.1 0).toNat) y) 0 (S.1 0 + 1) 2 < uN (uN (uN S.1 (12 + (S.1 0).toNat) x) (15 + (S.1 0).toNat) y) 0 (S.1 0 + 1) 1
      rw [e2 2 (by omega) (by omega) (by omega), e2 1 (by omega) (by omega) (by omega)]; exact h9
  · exact hs.2
theorem POk_open {n x : Int} {S : TS} (hs : POk n S) : POk (n + 1) (sOpen x S) := by
  unfold sOpen
  split
  · rename_i h
    have h0 : 0 ≤ S.1 0 ∧ S.1 0 ≤ 3 := hs.1.1 0 (by decide)
    exact ⟨hs.1, Sok_open hs.1 (by omega) (show ((x.toNat : Nat) : Int) < S.1 0 by omega) hs.2.1, hs.2.2⟩
  · exact POk_mono (by omega) hs
theorem POk_cancel {n x y : Int} {S : TS} (hs : POk n S) : POk n (sCancel x y S) := by
  unfold sCancel
  split
  · rename_i h
    have h0 : 0 ≤ S.1 0 ∧ S.1 0 ≤ 3 := hs.1.1 0 (by decide)
    exact ⟨hs.1, Sok_cancel (by omega) (by omega) h.2.2 hs.2.1, hs.2.2⟩
  · exact hs
theorem POk_days {X : Nat → Int → Option Gn} {sure : Int} : ∀ (k : Nat) {n : Int} {S : TS}, POk n S → POk (n + 110 * k) (sDays X sure k S).2
  | 0, n, S, hs => POk_mono (by omega) hs
  | k + 1, n, S, hs => by
    unfold sDays
    split
    · exact POk_mono (by omega) hs
    · rename_i h
      have h9 := hs.2.1.2.2.1
      have q := POk_days (X := X) (sure := sure) k (n := n + 110) (S := (S.1, mTick X S.1 sure S.2.1, pushL S.2.2 S.2.1)) ⟨hs.1, Sok_tick hs.1 hs.2.1 (by omega), hs.2.2⟩
      exact POk_mono (by omega) q
theorem POk_play1 {X : Nat → Int → Option Gn} {sure : Int} {f : Nat → Int} {q : Nat} {n : Int} {S : TS} (hv : 2 ≤ f q → 0 ≤ f (q + 1) ∧ f (q + 1) ≤ 30) (hs : POk n S) : POk (n + 3400) (sPlay1 X sure f q S).2 := by
  unfold sPlay1
  repeat' split
  · exact POk_mono (by omega) (POk_block hs)
  · exact POk_mono (by omega) (POk_open hs)
  · exact POk_mono (by omega) (POk_cancel hs)
  · exact POk_mono (by omega) (POk_days (f (q + 1)).toNat hs)
  · exact POk_mono (by omega) hs
theorem sDays_o {X : Nat → Int → Option Gn} {sure : Int} : ∀ (r k : Nat) {S : TS}, S.2.1.1 18 + ((r : Nat) : Int) = 9999 → r < k → sDays X sure k S = (false, (sDays X sure r S).2)
  | 0, k, S, h, hk => by rw [sDays_f (by omega) (by omega)]; rfl
  | r + 1, k, S, h, hk => by
    rw [sDays_s (by omega) (by omega), sDays_s (k := r + 1) (by omega) (by omega)]
    exact sDays_o r (k - 1) (by show (mTick X S.1 sure S.2.1).1 18 + ((r : Nat) : Int) = 9999; rw [mTick_18]; omega) (by omega)
theorem sDays_p {X : Nat → Int → Option Gn} {sure z : Int} {S : TS} (h0 : 0 ≤ z) (h9 : S.2.1.1 18 ≤ 9999) : sDays X sure z.toNat S = (decide (z ≤ 9999 - S.2.1.1 18), (sDays X sure (min z (9999 - S.2.1.1 18)).toNat S).2) := by
  by_cases h : z ≤ 9999 - S.2.1.1 18
  · rw [decide_eq_true h, show min z (9999 - S.2.1.1 18) = z by omega]
    exact Prod.ext (sDays_t _ (by omega)) rfl
  · rw [decide_eq_false h]
    exact sDays_o _ _ (by omega) (by omega)
theorem t1_x {G : GT} {hb : Nat} {z : Int} {X0 X1 : Option Gn} {cl : Nat → Int} {t px : Nat} {w : Wo} (h : isT1 G hb z X0 X1 cl t w) (e : z = ((px : Nat) : Int)) : ∃ a1 a2 a3 n3 f3, isTx px a1 a2 a3 n3 f3 w ∧ txE cl t n3 f3 := by
  obtain ⟨x, a1, a2, a3, n3, f3, h1, h2, h3, h4, h5, h6, h7⟩ := h
  have e2 : x = px := by omega
  subst e2
  exact ⟨a1, a2, a3, n3, f3, h4, h7⟩
theorem t1_p {G : GT} {hb : Nat} {z : Int} {X0 X1 : Option Gn} {cl : Nat → Int} {t : Nat} {w : Wo} (h : isT1 G hb z X0 X1 cl t w) : ∃ px : Nat, z = ((px : Nat) : Int) := by
  obtain ⟨x, a1, a2, a3, n3, f3, h1, h2⟩ := h
  exact ⟨x, h1⟩
theorem sBlock_e {x y : Int} {tl : Nat → Int} {D : Dy} {L : List Dy} : sBlock x y (tl, D, L) = ((if bkC tl x y then uN (uN (uN tl (12 + (tl 0).toNat) x) (15 + (tl 0).toNat) y) 0 (tl 0 + 1) else tl), D, L) := by
  unfold sBlock
  split <;> rfl
theorem bk9 {tl : Nat → Int} {a b v : Int} (h : 0 ≤ tl 0 ∧ tl 0 ≤ 3) (hv : v = if bkC tl a b then tl 0 else -1) : (-1 ≤ v ∧ v ≤ 3) ∧ (v = -1 → ¬ bkC tl a b) ∧ (¬ v = -1 → bkC tl a b) := by
  by_cases q : bkC tl a b
  · rw [if_pos q] at hv; exact ⟨by omega, fun z => by omega, fun _ => q⟩
  · rw [if_neg q] at hv; exact ⟨by omega, fun _ => q, fun z => absurd hv z⟩
theorem op9 {tl : Nat → Int} {D : Dy} {n a v : Int} (hT : Tok tl) (hd : Dok n D) (hv : v = if opC tl D a then ((((mOpen tl a.toNat D).2.1 0).length : Nat) : Int) - (((D.2.1 0).length : Nat) : Int) else -1) : (-1 ≤ v ∧ v ≤ 24) ∧ (v = -1 → ¬ opC tl D a) ∧ (¬ v = -1 → opC tl D a) := by
  have h0 : 0 ≤ tl 0 ∧ tl 0 ≤ 3 := hT.1 0 (by decide)
  by_cases q : opC tl D a
  · rw [if_pos q] at hv
    have h1 := mOpen_len0 (a0 := tl) (b := a.toNat) (D := D)
    have h2 := Dok_l (Dok_open hT hd (b := a.toNat) (by omega)) (s := 0) (by decide)
    exact ⟨by omega, fun z => by omega, fun _ => q⟩
  · rw [if_neg q] at hv; exact ⟨by omega, fun _ => q, fun z => absurd hv z⟩

set_option maxHeartbeats 4000000 in
set_option maxRecDepth 100000 in
theorem kX10_played (l : Launch) (G : GT) (kb : Nat) (tl fx fx2 : Nat → Int) (X : Nat → Int → Option Gn) (cl : Nat → Int) (D : Dy) (L : List Dy) (tl2 : Nat → Int) (D2 : Dy) (L2 : List Dy) (tp : Nat → Int) (nt fs fp : Int) (hT : Tok tl) (n : Int) (hs : Sok n tl D) (hn : n ≤ 1300000000) (hZ : Tz tl) (hru : -1 ≤ tl 2 ∧ tl 2 < tl 1) (hcl : ∀ t : Nat, (t : Int) < tl 1 → txC cl t) (x : Int) (hx : -2147483648 ≤ x ∧ x ≤ 2147483647)  : Ctr l G yX10_played cX10_played 7 ((Option.some Jvm.ClassFile.FieldType.int)) 9 0 0 [vr kb, vi x] (fun w => isEn G (kb + 850) (aA kb) (tz (kb + 1)) tl fx X cl 1 D w ∧ isKr kb fx fx2 L tl2 D2 L2 tp nt fs fp w) (fun w r w' => r = some (vi (if 0 ≤ x ∧ x < tl 1 then (sPlay X 0 cl x.toNat (cl (681 * x.toNat)).toNat 0 (tl, D, L)).1 else -2)) ∧ isK G kb fx fx2 X cl (if 0 ≤ x ∧ x < tl 1 then (sPlay X 0 cl x.toNat (cl (681 * x.toNat)).toNat 0 (tl, D, L)).2 else (tl, D, L)) tl2 D2 L2 tp nt fs fp w') := by
  refine Ctr.of (t := tX10_played) (lv0 := [some (vr kb), some (vi x), none, none, none, none, none]) (by decide +kernel) tX10_played_ok rfl rfl (fun w g hP M => ?_)
  have hd := hs.1
  have hi := hs.2.1
  have h9 := hs.2.2.1
  have hJ := hs.2.2.2.1
  have hz0 := hs.2.2.2.2
  have hdr : (1 : Int) = 0 ∨ (1 : Int) = 1 := Or.inr rfl
  have hk1 : 0 ≤ tl 1 ∧ tl 1 ≤ 4 := hT.1 1 (by decide)
  refine M.run 1 (pc' := 1) (lv' := [some (vr kb), some (vi x), none, none, none, none, none]) (st' := [vr kb]) rfl ?_
  refine M.get fl_X10_23 rfl (hP.2.1) (kf := 2) (v := vr ((tz (kb + 1)) 0)) rfl ?_
  refine M.run 1 (pc' := 5) (lv' := [some (vr kb), some (vi x), none, none, none, none, none]) (st' := [vi x, vr ((tz (kb + 1)) 0)]) rfl ?_
  refine M.callV (kX9_textAt l G (tz (kb + 1)) tl fx hT x (by omega)) cv_X10_146 cd_X9_textAt rfl (st := []) rfl hP.1.2.1.1 (by decide) (by decide) rfl (Nat.zero_le _) (Nat.zero_le _) hP.1.2.1 (fun r1 w2 q3 => ?_)
  rw [q3.1, q3.2]
  by_cases hcx : 0 ≤ x ∧ x < tl 1
  · skip
    obtain ⟨t, ht0⟩ := Int.eq_ofNat_of_zero_le hcx.1
    subst ht0
    obtain ⟨px, hfx⟩ := t1_p (hP.1.2.2.2.2.1 t hcx.2)
    rw [if_pos hcx, show rfO (fx (((t : Nat) : Int)).toNat) = some px from by show rfO (fx t) = some px; rw [hfx]; exact if_neg (by omega)]
    have hct := hcl t hcx.2
    obtain ⟨m, hm⟩ := Int.eq_ofNat_of_zero_le hct.1.1
    have hm24 : m ≤ 24 := by have := hct.1.2; omega
    obtain ⟨R, hR⟩ : ∃ R, R = sPlay X 0 cl t m 0 (tl, D, L) := ⟨_, rfl⟩
    have hRq1 : (if 0 ≤ ((t : Nat) : Int) ∧ ((t : Nat) : Int) < tl 1 then (sPlay X 0 cl (((t : Nat) : Int)).toNat (cl (681 * (((t : Nat) : Int)).toNat)).toNat 0 (tl, D, L)).1 else -2) = R.1 := by
      rw [if_pos hcx, hR]
      show (sPlay X 0 cl t (cl (681 * t)).toNat 0 (tl, D, L)).1 = _
      rw [hm]
      rfl
    have hRq2 : (if 0 ≤ ((t : Nat) : Int) ∧ ((t : Nat) : Int) < tl 1 then (sPlay X 0 cl (((t : Nat) : Int)).toNat (cl (681 * (((t : Nat) : Int)).toNat)).toNat 0 (tl, D, L)).2 else (tl, D, L)) = R.2 := by
      rw [if_pos hcx, hR]
      show (sPlay X 0 cl t (cl (681 * t)).toNat 0 (tl, D, L)).2 = _
      rw [hm]
      rfl
    have htl := hcx.2
    refine M.run 2 (pc' := 10) (lv' := [some (vr kb), some (vi ((t : Nat) : Int)), some (vr px), none, none, none, none]) (st' := [vr px]) rfl ?_
    refine M.ifnonnullR (tgt := 16) rfl (by decide) ?_
    refine M.run 2 (pc' := 18) (lv' := [some (vr kb), some (vi ((t : Nat) : Int)), some (vr px), some (vi 0), none, none, none]) (st' := []) rfl ?_
    have Lp18 : ∀ (N : Nat) (i : Nat) (tl : Nat → Int) (D : Dy) (L : List Dy) (wp : Wo), (isEn G (kb + 850) (aA kb) (tz (kb + 1)) tl fx X cl 1 D wp) → (isKr kb fx fx2 L tl2 D2 L2 tp nt fs fp wp) → (Sok (n + 3400 * ((i : Nat) : Int)) tl D) → (POk (n + 3400 * ((i : Nat) : Int)) (tl, D, L)) → (R = sPlay X 0 cl t (m - i) i (tl, D, L)) → (i ≤ m) → (((t : Nat) : Int) < tl 1) → m - i < N → g 0 0 wp 18 [some (vr kb), some (vi ((t : Nat) : Int)), some (vr px), some (vi ((i : Nat) : Int)), none, none, none] [] := by
      intro N
      induction N with
      | zero => intro i tl D L wp _ _ _ _ _ _ _ hN; exact absurd hN (Nat.not_lt_zero _)
      | succ N ih18 =>
        intro i tl D L wp hEp hKp hsp hpk hI hi2 ht hN
        refine M.run 1 (pc' := 19) (lv' := [some (vr kb), some (vi ((t : Nat) : Int)), some (vr px), some (vi ((i : Nat) : Int)), none, none, none]) (st' := [vi ((i : Nat) : Int)]) rfl ?_
        have hT : Tok tl := hpk.1
        have hZ : Tz tl := hpk.2.2.1
        have hru : -1 ≤ tl 2 ∧ tl 2 < tl 1 := hpk.2.2.2
        have hs : Sok (n + 3400 * ((i : Nat) : Int)) tl D := hsp
        obtain ⟨a1, a2, a3, n3, f3, hx3, hxe⟩ := t1_x (hEp.2.2.2.2.1 t ht) hfx
        have hn3 : n3 = m := by have := hxe.1; omega
        have hck := Dok_clk hs.1
        have hc9 := hs.2.2.1
        have hk03 : 0 ≤ tl 0 ∧ tl 0 ≤ 3 := hT.1 0 (by decide)
        refine M.run 1 (pc' := 20) (lv' := [some (vr kb), some (vi ((t : Nat) : Int)), some (vr px), some (vi ((i : Nat) : Int)), none, none, none]) (st' := [vr px, vi ((i : Nat) : Int)]) rfl ?_
        refine M.callV (kX7_clauseCount l G px a1 a2 a3 n3 f3 (by omega)) cv_X10_150 cd_X7_clauseCount rfl (st := [vi ((i : Nat) : Int)]) rfl hx3.1 (by decide) (by decide) rfl (Nat.zero_le _) (Nat.zero_le _) hx3 (fun r5 w6 q7 => ?_)
        rw [q7.1, q7.2, hn3]
        refine M.icmp_ge (tgt := 194) rfl (qI (by omega)) (qI (by omega)) (by decide) (fun h23 => ?_) (fun h23 => ?_)
        · skip
          have hRe : R = (-1, (tl, D, L)) := by rw [hI, show m - i = 0 by omega]; rfl
          refine M.run 1 (pc' := 195) (lv' := [some (vr kb), some (vi ((t : Nat) : Int)), some (vr px), some (vi ((i : Nat) : Int)), none, none, none]) (st' := [vi (-1)]) rfl ?_
          exact M.iret rfl (Nat.zero_le _) (Nat.zero_le _) ⟨reI (hRq1.trans (congrArg Prod.fst hRe)).symm, (by rw [hRq2, hRe]; exact ⟨hEp, hKp⟩)⟩
        · skip
          refine M.run 3 (pc' := 29) (lv' := [some (vr kb), some (vi ((t : Nat) : Int)), some (vr px), some (vi ((i : Nat) : Int)), none, none, none]) (st' := [vi 1, vi ((i : Nat) : Int), vr px]) rfl ?_
          refine M.callV (kX7_clause l G px a1 a2 a3 n3 f3 (by omega) ((i : Nat) : Int) 1 (by omega) (by omega)) cv_X10_156 cd_X7_clause rfl (st := []) rfl hx3.1 (by decide) (by decide) rfl (Nat.zero_le _) (Nat.zero_le _) hx3 (fun r9 w10 q11 => ?_)
          rw [q11.1, q11.2, show (if (0 ≤ ((i : Nat) : Int) ∧ ((i : Nat) : Int) < ((n3 : Nat) : Int)) ∧ (0 : Int) ≤ 1 ∧ (1 : Int) < 3 then f3 (3 * (((i : Nat) : Int)).toNat + ((1 : Int)).toNat) else -1) = f3 (3 * i + 1) from if_pos (by omega)]
          refine M.run 4 (pc' := 37) (lv' := [some (vr kb), some (vi ((t : Nat) : Int)), some (vr px), some (vi ((i : Nat) : Int)), some (vi (f3 (3 * i + 1))), none, none]) (st' := [vi 2, vi ((i : Nat) : Int), vr px]) rfl ?_
          refine M.callV (kX7_clause l G px a1 a2 a3 n3 f3 (by omega) ((i : Nat) : Int) 2 (by omega) (by omega)) cv_X10_156 cd_X7_clause rfl (st := []) rfl hx3.1 (by decide) (by decide) rfl (Nat.zero_le _) (Nat.zero_le _) hx3 (fun r13 w14 q15 => ?_)
          rw [q15.1, q15.2, show (if (0 ≤ ((i : Nat) : Int) ∧ ((i : Nat) : Int) < ((n3 : Nat) : Int)) ∧ (0 : Int) ≤ 2 ∧ (2 : Int) < 3 then f3 (3 * (((i : Nat) : Int)).toNat + ((2 : Int)).toNat) else -1) = f3 (3 * i + 2) from if_pos (by omega)]
          refine M.run 6 (pc' := 48) (lv' := [some (vr kb), some (vi ((t : Nat) : Int)), some (vr px), some (vi ((i : Nat) : Int)), some (vi (f3 (3 * i + 1))), some (vi (f3 (3 * i + 2))), some (vi 1)]) (st' := [vi 0, vi ((i : Nat) : Int), vr px]) rfl ?_
          refine M.callV (kX7_clause l G px a1 a2 a3 n3 f3 (by omega) ((i : Nat) : Int) 0 (by omega) (by omega)) cv_X10_156 cd_X7_clause rfl (st := []) rfl hx3.1 (by decide) (by decide) rfl (Nat.zero_le _) (Nat.zero_le _) hx3 (fun r17 w18 q19 => ?_)
          rw [q19.1, q19.2, show (if (0 ≤ ((i : Nat) : Int) ∧ ((i : Nat) : Int) < ((n3 : Nat) : Int)) ∧ (0 : Int) ≤ 0 ∧ (0 : Int) < 3 then f3 (3 * (((i : Nat) : Int)).toNat + ((0 : Int)).toNat) else -1) = f3 (3 * i) from if_pos (by omega)]
          obtain ⟨e0, e1, e2⟩ := hxe.2.2 i (by omega)
          obtain ⟨c0, c1⟩ := hct.2 i (by omega)
          by_cases hs51_0 : f3 (3 * i) = 2
          · refine M.tswIn (tgt := 80) (off := 29) rfl (qI (by omega)) (by omega) (by omega) (by rw [hs51_0]; rfl) (by decide) ?_
            have c2 := c1 (by omega)
            have c2 := And.intro c2.1 (c2.2 (Or.inl (by omega)))
            have e1 := e1 (by omega)
            have e2 := e2 (Or.inl hs51_0)
            refine M.run 3 (pc' := 85) (lv' := [some (vr kb), some (vi ((t : Nat) : Int)), some (vr px), some (vi ((i : Nat) : Int)), some (vi (f3 (3 * i + 1))), some (vi (f3 (3 * i + 2))), some (vi 1)]) (st' := [vi (f3 (3 * i + 1)), vi (f3 (3 * i + 2)), vr kb]) rfl ?_
            refine M.callV (kX10_block l G kb tl fx fx2 X cl D L tl2 D2 L2 tp nt fs fp hT (n + 3400 * ((i : Nat) : Int)) hs.1 (by omega) hs.2.2.2.1 hs.2.1 hs.2.2.1 hZ hru (f3 (3 * i + 2)) (f3 (3 * i + 1)) (by omega) (by omega)) cv_X10_159 cd_X10_block rfl (st := []) rfl (hKp.1) (by decide) (by decide) rfl (Nat.zero_le _) (Nat.zero_le _) ⟨hEp, hKp⟩ (fun r21 w22 q23 => ?_)
            have hq := q23.2
            rw [q23.1]
            obtain ⟨v9, hv9⟩ : ∃ v9 : Int, v9 = (if bkC tl (f3 (3 * i + 2)) (f3 (3 * i + 1)) then tl 0 else -1) := ⟨_, rfl⟩
            rw [← hv9]
            have hvb := bk9 hk03 hv9
            have hp1 : sPlay1 X 0 cl (681 * t + 1 + 3 * i) (tl, D, L) = (decide (bkC tl (f3 (3 * i + 2)) (f3 (3 * i + 1))), sBlock (f3 (3 * i + 2)) (f3 (3 * i + 1)) (tl, D, L)) := by rw [e1, e2]; unfold sPlay1; exact if_pos (e0.symm.trans hs51_0)
            have hq2 : isK G kb fx fx2 X cl (sBlock (f3 (3 * i + 2)) (f3 (3 * i + 1)) (tl, D, L)) tl2 D2 L2 tp nt fs fp w22 := by rw [sBlock_e]; exact hq
            refine M.run 1 (pc' := 89) (lv' := [some (vr kb), some (vi ((t : Nat) : Int)), some (vr px), some (vi ((i : Nat) : Int)), some (vi (f3 (3 * i + 1))), some (vi (f3 (3 * i + 2))), some (vi 1)]) (st' := [vi (-1), vi v9]) rfl ?_
            refine M.icmp_eq (tgt := 96) rfl (qI (by omega)) (qI (by decide)) (by decide) (fun h89 => ?_) (fun h89 => ?_)
            · skip
              refine M.run 3 (pc' := 181) (lv' := [some (vr kb), some (vi ((t : Nat) : Int)), some (vr px), some (vi ((i : Nat) : Int)), some (vi (f3 (3 * i + 1))), some (vi (f3 (3 * i + 2))), some (vi 0)]) (st' := []) rfl ?_
              have hEz : isK G kb fx fx2 X cl (sPlay1 X 0 cl (681 * t + 1 + 3 * i) (tl, D, L)).2 tl2 D2 L2 tp nt fs fp w22 := by rw [hp1]; exact ⟨hq2.1, hq2.2⟩
              rw [show 0 = zb (sPlay1 X 0 cl (681 * t + 1 + 3 * i) (tl, D, L)).1 from by rw [hp1]; rw [decide_eq_false (hvb.2.1 h89)]; rfl]
              refine M.run 1 (pc' := 183) (lv' := [some (vr kb), some (vi ((t : Nat) : Int)), some (vr px), some (vi ((i : Nat) : Int)), some (vi (f3 (3 * i + 1))), some (vi (f3 (3 * i + 2))), some (vi (zb (sPlay1 X 0 cl (681 * t + 1 + 3 * i) (tl, D, L)).1))]) (st' := [vi (zb (sPlay1 X 0 cl (681 * t + 1 + 3 * i) (tl, D, L)).1)]) rfl ?_
              refine M.if_ne (tgt := 188) rfl (inI_zb _) (by decide) (fun h183 => ?_) (fun h183 => ?_)
              · skip
                replace h183 := zb_t h183
                refine M.run 2 (pc' := 18) (lv' := [some (vr kb), some (vi ((t : Nat) : Int)), some (vr px), some (vi (((i : Nat) : Int) + 1)), some (vi (f3 (3 * i + 1))), some (vi (f3 (3 * i + 2))), some (vi (zb (sPlay1 X 0 cl (681 * t + 1 + 3 * i) (tl, D, L)).1))]) (st' := []) rfl ?_
                refine M.fgt [false, false, false, false, true, true, true] ?_
                exact ih18 (i + 1) ((sPlay1 X 0 cl (681 * t + 1 + 3 * i) (tl, D, L)).2.1) ((sPlay1 X 0 cl (681 * t + 1 + 3 * i) (tl, D, L)).2.2.1) ((sPlay1 X 0 cl (681 * t + 1 + 3 * i) (tl, D, L)).2.2.2) w22 hEz.1 hEz.2 (Sok_mono (by omega) (POk_play1 (fun z => (c1 z).1) hpk).2.1) (POk_mono (by omega) (POk_play1 (fun z => (c1 z).1) hpk)) (by rw [hI, sPlay_s (by omega) h183, show m - i - 1 = m - (i + 1) by omega]) (by omega) (by show ((t : Nat) : Int) < (sPlay1 X 0 cl (681 * t + 1 + 3 * i) (tl, D, L)).2.1 1; rw [sPlay1_12 hk03.1 (Or.inl rfl)]; exact ht) (by omega)
              · skip
                replace h183 := zb_f0 h183
                have hRe : R = (((i : Nat) : Int), (sPlay1 X 0 cl (681 * t + 1 + 3 * i) (tl, D, L)).2) := by rw [hI, sPlay_f (by omega) h183]
                refine M.run 1 (pc' := 187) (lv' := [some (vr kb), some (vi ((t : Nat) : Int)), some (vr px), some (vi ((i : Nat) : Int)), some (vi (f3 (3 * i + 1))), some (vi (f3 (3 * i + 2))), some (vi (zb (sPlay1 X 0 cl (681 * t + 1 + 3 * i) (tl, D, L)).1))]) (st' := [vi ((i : Nat) : Int)]) rfl ?_
                exact M.iret rfl (Nat.zero_le _) (Nat.zero_le _) ⟨reI (hRq1.trans (congrArg Prod.fst hRe)).symm, (by rw [hRq2, hRe]; exact ⟨hEz.1, hEz.2⟩)⟩
            · skip
              refine M.run 4 (pc' := 181) (lv' := [some (vr kb), some (vi ((t : Nat) : Int)), some (vr px), some (vi ((i : Nat) : Int)), some (vi (f3 (3 * i + 1))), some (vi (f3 (3 * i + 2))), some (vi 1)]) (st' := []) rfl ?_
              have hEz : isK G kb fx fx2 X cl (sPlay1 X 0 cl (681 * t + 1 + 3 * i) (tl, D, L)).2 tl2 D2 L2 tp nt fs fp w22 := by rw [hp1]; exact ⟨hq2.1, hq2.2⟩
              rw [show 1 = zb (sPlay1 X 0 cl (681 * t + 1 + 3 * i) (tl, D, L)).1 from by rw [hp1]; rw [decide_eq_true (hvb.2.2 h89)]; rfl]
              refine M.run 1 (pc' := 183) (lv' := [some (vr kb), some (vi ((t : Nat) : Int)), some (vr px), some (vi ((i : Nat) : Int)), some (vi (f3 (3 * i + 1))), some (vi (f3 (3 * i + 2))), some (vi (zb (sPlay1 X 0 cl (681 * t + 1 + 3 * i) (tl, D, L)).1))]) (st' := [vi (zb (sPlay1 X 0 cl (681 * t + 1 + 3 * i) (tl, D, L)).1)]) rfl ?_
              refine M.if_ne (tgt := 188) rfl (inI_zb _) (by decide) (fun h183 => ?_) (fun h183 => ?_)
              · skip
                replace h183 := zb_t h183
                refine M.run 2 (pc' := 18) (lv' := [some (vr kb), some (vi ((t : Nat) : Int)), some (vr px), some (vi (((i : Nat) : Int) + 1)), some (vi (f3 (3 * i + 1))), some (vi (f3 (3 * i + 2))), some (vi (zb (sPlay1 X 0 cl (681 * t + 1 + 3 * i) (tl, D, L)).1))]) (st' := []) rfl ?_
                refine M.fgt [false, false, false, false, true, true, true] ?_
                exact ih18 (i + 1) ((sPlay1 X 0 cl (681 * t + 1 + 3 * i) (tl, D, L)).2.1) ((sPlay1 X 0 cl (681 * t + 1 + 3 * i) (tl, D, L)).2.2.1) ((sPlay1 X 0 cl (681 * t + 1 + 3 * i) (tl, D, L)).2.2.2) w22 hEz.1 hEz.2 (Sok_mono (by omega) (POk_play1 (fun z => (c1 z).1) hpk).2.1) (POk_mono (by omega) (POk_play1 (fun z => (c1 z).1) hpk)) (by rw [hI, sPlay_s (by omega) h183, show m - i - 1 = m - (i + 1) by omega]) (by omega) (by show ((t : Nat) : Int) < (sPlay1 X 0 cl (681 * t + 1 + 3 * i) (tl, D, L)).2.1 1; rw [sPlay1_12 hk03.1 (Or.inl rfl)]; exact ht) (by omega)
              · skip
                replace h183 := zb_f0 h183
                have hRe : R = (((i : Nat) : Int), (sPlay1 X 0 cl (681 * t + 1 + 3 * i) (tl, D, L)).2) := by rw [hI, sPlay_f (by omega) h183]
                refine M.run 1 (pc' := 187) (lv' := [some (vr kb), some (vi ((t : Nat) : Int)), some (vr px), some (vi ((i : Nat) : Int)), some (vi (f3 (3 * i + 1))), some (vi (f3 (3 * i + 2))), some (vi (zb (sPlay1 X 0 cl (681 * t + 1 + 3 * i) (tl, D, L)).1))]) (st' := [vi ((i : Nat) : Int)]) rfl ?_
                exact M.iret rfl (Nat.zero_le _) (Nat.zero_le _) ⟨reI (hRq1.trans (congrArg Prod.fst hRe)).symm, (by rw [hRq2, hRe]; exact ⟨hEz.1, hEz.2⟩)⟩
          by_cases hs51_1 : f3 (3 * i) = 3
          · refine M.tswIn (tgt := 102) (off := 51) rfl (qI (by omega)) (by omega) (by omega) (by rw [hs51_1]; rfl) (by decide) ?_
            have c2 := c1 (by omega)
            have e1 := e1 (by omega)
            refine M.run 2 (pc' := 105) (lv' := [some (vr kb), some (vi ((t : Nat) : Int)), some (vr px), some (vi ((i : Nat) : Int)), some (vi (f3 (3 * i + 1))), some (vi (f3 (3 * i + 2))), some (vi 1)]) (st' := [vi (f3 (3 * i + 1)), vr kb]) rfl ?_
            refine M.callV (kX10_open l G kb tl fx fx2 X cl D L tl2 D2 L2 tp nt fs fp hT (n + 3400 * ((i : Nat) : Int)) hs (by omega) hZ hru (f3 (3 * i + 1)) (by omega)) cv_X10_162 cd_X10_open rfl (st := []) rfl (hKp.1) (by decide) (by decide) rfl (Nat.zero_le _) (Nat.zero_le _) ⟨hEp, hKp⟩ (fun r25 w26 q27 => ?_)
            have hq := q27.2
            rw [q27.1]
            obtain ⟨v9, hv9⟩ : ∃ v9 : Int, v9 = (if opC tl D (f3 (3 * i + 1)) then ((((mOpen tl ((f3 (3 * i + 1))).toNat D).2.1 0).length : Nat) : Int) - (((D.2.1 0).length : Nat) : Int) else -1) := ⟨_, rfl⟩
            rw [← hv9]
            have hvb := op9 hT hs.1 hv9
            have hp1 : sPlay1 X 0 cl (681 * t + 1 + 3 * i) (tl, D, L) = (decide (opC tl D (f3 (3 * i + 1))), sOpen (f3 (3 * i + 1)) (tl, D, L)) := by rw [e1]; unfold sPlay1; rw [if_neg (by omega)]; exact if_pos (e0.symm.trans hs51_1)
            have hq2 : isK G kb fx fx2 X cl (sOpen (f3 (3 * i + 1)) (tl, D, L)) tl2 D2 L2 tp nt fs fp w26 := by exact hq
            refine M.run 1 (pc' := 109) (lv' := [some (vr kb), some (vi ((t : Nat) : Int)), some (vr px), some (vi ((i : Nat) : Int)), some (vi (f3 (3 * i + 1))), some (vi (f3 (3 * i + 2))), some (vi 1)]) (st' := [vi (-1), vi v9]) rfl ?_
            refine M.icmp_eq (tgt := 116) rfl (qI (by omega)) (qI (by decide)) (by decide) (fun h109 => ?_) (fun h109 => ?_)
            · skip
              refine M.run 3 (pc' := 181) (lv' := [some (vr kb), some (vi ((t : Nat) : Int)), some (vr px), some (vi ((i : Nat) : Int)), some (vi (f3 (3 * i + 1))), some (vi (f3 (3 * i + 2))), some (vi 0)]) (st' := []) rfl ?_
              have hEz : isK G kb fx fx2 X cl (sPlay1 X 0 cl (681 * t + 1 + 3 * i) (tl, D, L)).2 tl2 D2 L2 tp nt fs fp w26 := by rw [hp1]; exact ⟨hq2.1, hq2.2⟩
              rw [show 0 = zb (sPlay1 X 0 cl (681 * t + 1 + 3 * i) (tl, D, L)).1 from by rw [hp1]; rw [decide_eq_false (hvb.2.1 h109)]; rfl]
              refine M.run 1 (pc' := 183) (lv' := [some (vr kb), some (vi ((t : Nat) : Int)), some (vr px), some (vi ((i : Nat) : Int)), some (vi (f3 (3 * i + 1))), some (vi (f3 (3 * i + 2))), some (vi (zb (sPlay1 X 0 cl (681 * t + 1 + 3 * i) (tl, D, L)).1))]) (st' := [vi (zb (sPlay1 X 0 cl (681 * t + 1 + 3 * i) (tl, D, L)).1)]) rfl ?_
              refine M.if_ne (tgt := 188) rfl (inI_zb _) (by decide) (fun h183 => ?_) (fun h183 => ?_)
              · skip
                replace h183 := zb_t h183
                refine M.run 2 (pc' := 18) (lv' := [some (vr kb), some (vi ((t : Nat) : Int)), some (vr px), some (vi (((i : Nat) : Int) + 1)), some (vi (f3 (3 * i + 1))), some (vi (f3 (3 * i + 2))), some (vi (zb (sPlay1 X 0 cl (681 * t + 1 + 3 * i) (tl, D, L)).1))]) (st' := []) rfl ?_
                refine M.fgt [false, false, false, false, true, true, true] ?_
                exact ih18 (i + 1) ((sPlay1 X 0 cl (681 * t + 1 + 3 * i) (tl, D, L)).2.1) ((sPlay1 X 0 cl (681 * t + 1 + 3 * i) (tl, D, L)).2.2.1) ((sPlay1 X 0 cl (681 * t + 1 + 3 * i) (tl, D, L)).2.2.2) w26 hEz.1 hEz.2 (Sok_mono (by omega) (POk_play1 (fun z => (c1 z).1) hpk).2.1) (POk_mono (by omega) (POk_play1 (fun z => (c1 z).1) hpk)) (by rw [hI, sPlay_s (by omega) h183, show m - i - 1 = m - (i + 1) by omega]) (by omega) (by show ((t : Nat) : Int) < (sPlay1 X 0 cl (681 * t + 1 + 3 * i) (tl, D, L)).2.1 1; rw [sPlay1_12 hk03.1 (Or.inl rfl)]; exact ht) (by omega)
              · skip
                replace h183 := zb_f0 h183
                have hRe : R = (((i : Nat) : Int), (sPlay1 X 0 cl (681 * t + 1 + 3 * i) (tl, D, L)).2) := by rw [hI, sPlay_f (by omega) h183]
                refine M.run 1 (pc' := 187) (lv' := [some (vr kb), some (vi ((t : Nat) : Int)), some (vr px), some (vi ((i : Nat) : Int)), some (vi (f3 (3 * i + 1))), some (vi (f3 (3 * i + 2))), some (vi (zb (sPlay1 X 0 cl (681 * t + 1 + 3 * i) (tl, D, L)).1))]) (st' := [vi ((i : Nat) : Int)]) rfl ?_
                exact M.iret rfl (Nat.zero_le _) (Nat.zero_le _) ⟨reI (hRq1.trans (congrArg Prod.fst hRe)).symm, (by rw [hRq2, hRe]; exact ⟨hEz.1, hEz.2⟩)⟩
            · skip
              refine M.run 4 (pc' := 181) (lv' := [some (vr kb), some (vi ((t : Nat) : Int)), some (vr px), some (vi ((i : Nat) : Int)), some (vi (f3 (3 * i + 1))), some (vi (f3 (3 * i + 2))), some (vi 1)]) (st' := []) rfl ?_
              have hEz : isK G kb fx fx2 X cl (sPlay1 X 0 cl (681 * t + 1 + 3 * i) (tl, D, L)).2 tl2 D2 L2 tp nt fs fp w26 := by rw [hp1]; exact ⟨hq2.1, hq2.2⟩
              rw [show 1 = zb (sPlay1 X 0 cl (681 * t + 1 + 3 * i) (tl, D, L)).1 from by rw [hp1]; rw [decide_eq_true (hvb.2.2 h109)]; rfl]
              refine M.run 1 (pc' := 183) (lv' := [some (vr kb), some (vi ((t : Nat) : Int)), some (vr px), some (vi ((i : Nat) : Int)), some (vi (f3 (3 * i + 1))), some (vi (f3 (3 * i + 2))), some (vi (zb (sPlay1 X 0 cl (681 * t + 1 + 3 * i) (tl, D, L)).1))]) (st' := [vi (zb (sPlay1 X 0 cl (681 * t + 1 + 3 * i) (tl, D, L)).1)]) rfl ?_
              refine M.if_ne (tgt := 188) rfl (inI_zb _) (by decide) (fun h183 => ?_) (fun h183 => ?_)
              · skip
                replace h183 := zb_t h183
                refine M.run 2 (pc' := 18) (lv' := [some (vr kb), some (vi ((t : Nat) : Int)), some (vr px), some (vi (((i : Nat) : Int) + 1)), some (vi (f3 (3 * i + 1))), some (vi (f3 (3 * i + 2))), some (vi (zb (sPlay1 X 0 cl (681 * t + 1 + 3 * i) (tl, D, L)).1))]) (st' := []) rfl ?_
                refine M.fgt [false, false, false, false, true, true, true] ?_
                exact ih18 (i + 1) ((sPlay1 X 0 cl (681 * t + 1 + 3 * i) (tl, D, L)).2.1) ((sPlay1 X 0 cl (681 * t + 1 + 3 * i) (tl, D, L)).2.2.1) ((sPlay1 X 0 cl (681 * t + 1 + 3 * i) (tl, D, L)).2.2.2) w26 hEz.1 hEz.2 (Sok_mono (by omega) (POk_play1 (fun z => (c1 z).1) hpk).2.1) (POk_mono (by omega) (POk_play1 (fun z => (c1 z).1) hpk)) (by rw [hI, sPlay_s (by omega) h183, show m - i - 1 = m - (i + 1) by omega]) (by omega) (by show ((t : Nat) : Int) < (sPlay1 X 0 cl (681 * t + 1 + 3 * i) (tl, D, L)).2.1 1; rw [sPlay1_12 hk03.1 (Or.inl rfl)]; exact ht) (by omega)
              · skip
                replace h183 := zb_f0 h183
                have hRe : R = (((i : Nat) : Int), (sPlay1 X 0 cl (681 * t + 1 + 3 * i) (tl, D, L)).2) := by rw [hI, sPlay_f (by omega) h183]
                refine M.run 1 (pc' := 187) (lv' := [some (vr kb), some (vi ((t : Nat) : Int)), some (vr px), some (vi ((i : Nat) : Int)), some (vi (f3 (3 * i + 1))), some (vi (f3 (3 * i + 2))), some (vi (zb (sPlay1 X 0 cl (681 * t + 1 + 3 * i) (tl, D, L)).1))]) (st' := [vi ((i : Nat) : Int)]) rfl ?_
                exact M.iret rfl (Nat.zero_le _) (Nat.zero_le _) ⟨reI (hRq1.trans (congrArg Prod.fst hRe)).symm, (by rw [hRq2, hRe]; exact ⟨hEz.1, hEz.2⟩)⟩
          by_cases hs51_2 : f3 (3 * i) = 4
          · refine M.tswIn (tgt := 122) (off := 71) rfl (qI (by omega)) (by omega) (by omega) (by rw [hs51_2]; rfl) (by decide) ?_
            have c2 := c1 (by omega)
            have c2 := And.intro c2.1 (c2.2 (Or.inr (by omega)))
            have e1 := e1 (by omega)
            have e2 := e2 (Or.inr hs51_2)
            refine M.run 3 (pc' := 127) (lv' := [some (vr kb), some (vi ((t : Nat) : Int)), some (vr px), some (vi ((i : Nat) : Int)), some (vi (f3 (3 * i + 1))), some (vi (f3 (3 * i + 2))), some (vi 1)]) (st' := [vi (f3 (3 * i + 2)), vi (f3 (3 * i + 1)), vr kb]) rfl ?_
            refine M.callV (kX10_cancel l G kb tl fx fx2 X cl D L tl2 D2 L2 tp nt fs fp hT (n + 3400 * ((i : Nat) : Int)) hs (by omega) hZ hru (f3 (3 * i + 1)) (f3 (3 * i + 2)) (by omega) (by omega)) cv_X10_165 cd_X10_cancel rfl (st := []) rfl (hKp.1) (by decide) (by decide) rfl (Nat.zero_le _) (Nat.zero_le _) ⟨hEp, hKp⟩ (fun r29 w30 q31 => ?_)
            have hq := q31.2
            rw [q31.1]
            have hp1 : sPlay1 X 0 cl (681 * t + 1 + 3 * i) (tl, D, L) = (decide (cnC tl D (f3 (3 * i + 1)) (f3 (3 * i + 2))), sCancel (f3 (3 * i + 1)) (f3 (3 * i + 2)) (tl, D, L)) := by rw [e1, e2]; unfold sPlay1; rw [if_neg (by omega), if_neg (by omega)]; exact if_pos (e0.symm.trans hs51_2)
            have hq2 : isK G kb fx fx2 X cl (sCancel (f3 (3 * i + 1)) (f3 (3 * i + 2)) (tl, D, L)) tl2 D2 L2 tp nt fs fp w30 := by exact hq
            refine M.run 2 (pc' := 181) (lv' := [some (vr kb), some (vi ((t : Nat) : Int)), some (vr px), some (vi ((i : Nat) : Int)), some (vi (f3 (3 * i + 1))), some (vi (f3 (3 * i + 2))), some (vi (zb (decide (cnC tl D (f3 (3 * i + 1)) (f3 (3 * i + 2))))))]) (st' := []) rfl ?_
            have hEz : isK G kb fx fx2 X cl (sPlay1 X 0 cl (681 * t + 1 + 3 * i) (tl, D, L)).2 tl2 D2 L2 tp nt fs fp w30 := by rw [hp1]; exact ⟨hq2.1, hq2.2⟩
            rw [show zb (decide (cnC tl D (f3 (3 * i + 1)) (f3 (3 * i + 2)))) = zb (sPlay1 X 0 cl (681 * t + 1 + 3 * i) (tl, D, L)).1 from by rw [hp1]]
            refine M.run 1 (pc' := 183) (lv' := [some (vr kb), some (vi ((t : Nat) : Int)), some (vr px), some (vi ((i : Nat) : Int)), some (vi (f3 (3 * i + 1))), some (vi (f3 (3 * i + 2))), some (vi (zb (sPlay1 X 0 cl (681 * t + 1 + 3 * i) (tl, D, L)).1))]) (st' := [vi (zb (sPlay1 X 0 cl (681 * t + 1 + 3 * i) (tl, D, L)).1)]) rfl ?_
            refine M.if_ne (tgt := 188) rfl (inI_zb _) (by decide) (fun h183 => ?_) (fun h183 => ?_)
            · skip
              replace h183 := zb_t h183
              refine M.run 2 (pc' := 18) (lv' := [some (vr kb), some (vi ((t : Nat) : Int)), some (vr px), some (vi (((i : Nat) : Int) + 1)), some (vi (f3 (3 * i + 1))), some (vi (f3 (3 * i + 2))), some (vi (zb (sPlay1 X 0 cl (681 * t + 1 + 3 * i) (tl, D, L)).1))]) (st' := []) rfl ?_
              refine M.fgt [false, false, false, false, true, true, true] ?_
              exact ih18 (i + 1) ((sPlay1 X 0 cl (681 * t + 1 + 3 * i) (tl, D, L)).2.1) ((sPlay1 X 0 cl (681 * t + 1 + 3 * i) (tl, D, L)).2.2.1) ((sPlay1 X 0 cl (681 * t + 1 + 3 * i) (tl, D, L)).2.2.2) w30 hEz.1 hEz.2 (Sok_mono (by omega) (POk_play1 (fun z => (c1 z).1) hpk).2.1) (POk_mono (by omega) (POk_play1 (fun z => (c1 z).1) hpk)) (by rw [hI, sPlay_s (by omega) h183, show m - i - 1 = m - (i + 1) by omega]) (by omega) (by show ((t : Nat) : Int) < (sPlay1 X 0 cl (681 * t + 1 + 3 * i) (tl, D, L)).2.1 1; rw [sPlay1_12 hk03.1 (Or.inl rfl)]; exact ht) (by omega)
            · skip
              replace h183 := zb_f0 h183
              have hRe : R = (((i : Nat) : Int), (sPlay1 X 0 cl (681 * t + 1 + 3 * i) (tl, D, L)).2) := by rw [hI, sPlay_f (by omega) h183]
              refine M.run 1 (pc' := 187) (lv' := [some (vr kb), some (vi ((t : Nat) : Int)), some (vr px), some (vi ((i : Nat) : Int)), some (vi (f3 (3 * i + 1))), some (vi (f3 (3 * i + 2))), some (vi (zb (sPlay1 X 0 cl (681 * t + 1 + 3 * i) (tl, D, L)).1))]) (st' := [vi ((i : Nat) : Int)]) rfl ?_
              exact M.iret rfl (Nat.zero_le _) (Nat.zero_le _) ⟨reI (hRq1.trans (congrArg Prod.fst hRe)).symm, (by rw [hRq2, hRe]; exact ⟨hEz.1, hEz.2⟩)⟩
          by_cases hs51_3 : f3 (3 * i) = 5
          · refine M.tswIn (tgt := 135) (off := 84) rfl (qI (by omega)) (by omega) (by omega) (by rw [hs51_3]; rfl) (by decide) ?_
            have c2 := c1 (by omega)
            have e1 := e1 (by omega)
            refine M.run 3 (pc' := 141) (lv' := [some (vr kb), some (vi ((t : Nat) : Int)), some (vr px), some (vi ((i : Nat) : Int)), some (vi (f3 (3 * i + 1))), some (vi (f3 (3 * i + 2))), some (vi 1)]) (st' := [vr kb, vi 9999, vi (f3 (3 * i + 1))]) rfl ?_
            refine M.get fl_X10_28 rfl (hKp.1) (kf := 3) (v := vr ((aA kb) 0)) rfl ?_
            refine M.get fl_X10_134 rfl hEp.1.1 (kf := 0) (v := vi (D.1 18)) rfl ?_
            refine M.run 1 (pc' := 148) (lv' := [some (vr kb), some (vi ((t : Nat) : Int)), some (vr px), some (vi ((i : Nat) : Int)), some (vi (f3 (3 * i + 1))), some (vi (f3 (3 * i + 2))), some (vi 1)]) (st' := [vi (9999 - (D.1 18)), vi (f3 (3 * i + 1))]) rfl ?_
            refine M.icmp_gt (tgt := 155) rfl (qI (by omega)) (qI (by omega)) (by decide) (fun h148 => ?_) (fun h148 => ?_)
            · skip
              refine M.run 6 (pc' := 165) (lv' := [some (vr kb), some (vi ((t : Nat) : Int)), some (vr px), some (vi ((i : Nat) : Int)), some (vi (f3 (3 * i + 1))), some (vi (f3 (3 * i + 2))), some (vi 0)]) (st' := [vr kb, vi 9999, vi (f3 (3 * i + 1)), vr kb]) rfl ?_
              refine M.get fl_X10_28 rfl (hKp.1) (kf := 3) (v := vr ((aA kb) 0)) rfl ?_
              refine M.get fl_X10_134 rfl hEp.1.1 (kf := 0) (v := vi (D.1 18)) rfl ?_
              refine M.run 1 (pc' := 172) (lv' := [some (vr kb), some (vi ((t : Nat) : Int)), some (vr px), some (vi ((i : Nat) : Int)), some (vi (f3 (3 * i + 1))), some (vi (f3 (3 * i + 2))), some (vi 0)]) (st' := [vi (9999 - (D.1 18)), vi (f3 (3 * i + 1)), vr kb]) rfl ?_
              refine M.mmin cs_X10_168 rfl (qI (by omega)) (qI (by omega)) (by decide) (Nat.zero_le _) (Nat.zero_le _) rfl ?_
              rw [show min (f3 (3 * i + 1)) (9999 - (D.1 18)) = (((min (f3 (3 * i + 1)) (9999 - (D.1 18))).toNat : Nat) : Int) from (Int.toNat_of_nonneg (by omega)).symm]
              refine M.callV (kX10_pass l G kb tl fx fx2 X cl D L tl2 D2 L2 tp nt fs fp hT (n + 3400 * ((i : Nat) : Int)) hs (by omega) hZ hru ((min (f3 (3 * i + 1)) (9999 - D.1 18)).toNat) (by omega) (by omega)) cv_X10_140 cd_X10_pass rfl (st := []) rfl (hKp.1) (by decide) (by decide) rfl (Nat.zero_le _) (Nat.zero_le _) ⟨hEp, hKp⟩ (fun r33 w34 q35 => ?_)
              have hq := q35.2
              rw [q35.1]
              have hp1 : sPlay1 X 0 cl (681 * t + 1 + 3 * i) (tl, D, L) = (decide ((f3 (3 * i + 1)) ≤ 9999 - D.1 18), (sDays X 0 ((min (f3 (3 * i + 1)) (9999 - D.1 18)).toNat) (tl, D, L)).2) := by rw [e1]; unfold sPlay1; rw [if_neg (by omega), if_neg (by omega), if_neg (by omega), if_pos (e0.symm.trans hs51_3)]; exact sDays_p (by omega) hs.2.2.1
              have hq2 : isK G kb fx fx2 X cl ((sDays X 0 ((min (f3 (3 * i + 1)) (9999 - D.1 18)).toNat) (tl, D, L)).2) tl2 D2 L2 tp nt fs fp w34 := by exact hq
              refine M.run 1 (pc' := 181) (lv' := [some (vr kb), some (vi ((t : Nat) : Int)), some (vr px), some (vi ((i : Nat) : Int)), some (vi (f3 (3 * i + 1))), some (vi (f3 (3 * i + 2))), some (vi 0)]) (st' := []) rfl ?_
              have hEz : isK G kb fx fx2 X cl (sPlay1 X 0 cl (681 * t + 1 + 3 * i) (tl, D, L)).2 tl2 D2 L2 tp nt fs fp w34 := by rw [hp1]; exact ⟨hq2.1, hq2.2⟩
              rw [show 0 = zb (sPlay1 X 0 cl (681 * t + 1 + 3 * i) (tl, D, L)).1 from by rw [hp1]; rw [decide_eq_false (by omega)]; rfl]
              refine M.run 1 (pc' := 183) (lv' := [some (vr kb), some (vi ((t : Nat) : Int)), some (vr px), some (vi ((i : Nat) : Int)), some (vi (f3 (3 * i + 1))), some (vi (f3 (3 * i + 2))), some (vi (zb (sPlay1 X 0 cl (681 * t + 1 + 3 * i) (tl, D, L)).1))]) (st' := [vi (zb (sPlay1 X 0 cl (681 * t + 1 + 3 * i) (tl, D, L)).1)]) rfl ?_
              refine M.if_ne (tgt := 188) rfl (inI_zb _) (by decide) (fun h183 => ?_) (fun h183 => ?_)
              · skip
                replace h183 := zb_t h183
                refine M.run 2 (pc' := 18) (lv' := [some (vr kb), some (vi ((t : Nat) : Int)), some (vr px), some (vi (((i : Nat) : Int) + 1)), some (vi (f3 (3 * i + 1))), some (vi (f3 (3 * i + 2))), some (vi (zb (sPlay1 X 0 cl (681 * t + 1 + 3 * i) (tl, D, L)).1))]) (st' := []) rfl ?_
                refine M.fgt [false, false, false, false, true, true, true] ?_
                exact ih18 (i + 1) ((sPlay1 X 0 cl (681 * t + 1 + 3 * i) (tl, D, L)).2.1) ((sPlay1 X 0 cl (681 * t + 1 + 3 * i) (tl, D, L)).2.2.1) ((sPlay1 X 0 cl (681 * t + 1 + 3 * i) (tl, D, L)).2.2.2) w34 hEz.1 hEz.2 (Sok_mono (by omega) (POk_play1 (fun z => (c1 z).1) hpk).2.1) (POk_mono (by omega) (POk_play1 (fun z => (c1 z).1) hpk)) (by rw [hI, sPlay_s (by omega) h183, show m - i - 1 = m - (i + 1) by omega]) (by omega) (by show ((t : Nat) : Int) < (sPlay1 X 0 cl (681 * t + 1 + 3 * i) (tl, D, L)).2.1 1; rw [sPlay1_12 hk03.1 (Or.inl rfl)]; exact ht) (by omega)
              · skip
                replace h183 := zb_f0 h183
                have hRe : R = (((i : Nat) : Int), (sPlay1 X 0 cl (681 * t + 1 + 3 * i) (tl, D, L)).2) := by rw [hI, sPlay_f (by omega) h183]
                refine M.run 1 (pc' := 187) (lv' := [some (vr kb), some (vi ((t : Nat) : Int)), some (vr px), some (vi ((i : Nat) : Int)), some (vi (f3 (3 * i + 1))), some (vi (f3 (3 * i + 2))), some (vi (zb (sPlay1 X 0 cl (681 * t + 1 + 3 * i) (tl, D, L)).1))]) (st' := [vi ((i : Nat) : Int)]) rfl ?_
                exact M.iret rfl (Nat.zero_le _) (Nat.zero_le _) ⟨reI (hRq1.trans (congrArg Prod.fst hRe)).symm, (by rw [hRq2, hRe]; exact ⟨hEz.1, hEz.2⟩)⟩
            · skip
              refine M.run 7 (pc' := 165) (lv' := [some (vr kb), some (vi ((t : Nat) : Int)), some (vr px), some (vi ((i : Nat) : Int)), some (vi (f3 (3 * i + 1))), some (vi (f3 (3 * i + 2))), some (vi 1)]) (st' := [vr kb, vi 9999, vi (f3 (3 * i + 1)), vr kb]) rfl ?_
              refine M.get fl_X10_28 rfl (hKp.1) (kf := 3) (v := vr ((aA kb) 0)) rfl ?_
              refine M.get fl_X10_134 rfl hEp.1.1 (kf := 0) (v := vi (D.1 18)) rfl ?_
              refine M.run 1 (pc' := 172) (lv' := [some (vr kb), some (vi ((t : Nat) : Int)), some (vr px), some (vi ((i : Nat) : Int)), some (vi (f3 (3 * i + 1))), some (vi (f3 (3 * i + 2))), some (vi 1)]) (st' := [vi (9999 - (D.1 18)), vi (f3 (3 * i + 1)), vr kb]) rfl ?_
              refine M.mmin cs_X10_168 rfl (qI (by omega)) (qI (by omega)) (by decide) (Nat.zero_le _) (Nat.zero_le _) rfl ?_
              rw [show min (f3 (3 * i + 1)) (9999 - (D.1 18)) = (((min (f3 (3 * i + 1)) (9999 - (D.1 18))).toNat : Nat) : Int) from (Int.toNat_of_nonneg (by omega)).symm]
              refine M.callV (kX10_pass l G kb tl fx fx2 X cl D L tl2 D2 L2 tp nt fs fp hT (n + 3400 * ((i : Nat) : Int)) hs (by omega) hZ hru ((min (f3 (3 * i + 1)) (9999 - D.1 18)).toNat) (by omega) (by omega)) cv_X10_140 cd_X10_pass rfl (st := []) rfl (hKp.1) (by decide) (by decide) rfl (Nat.zero_le _) (Nat.zero_le _) ⟨hEp, hKp⟩ (fun r37 w38 q39 => ?_)
              have hq := q39.2
              rw [q39.1]
              have hp1 : sPlay1 X 0 cl (681 * t + 1 + 3 * i) (tl, D, L) = (decide ((f3 (3 * i + 1)) ≤ 9999 - D.1 18), (sDays X 0 ((min (f3 (3 * i + 1)) (9999 - D.1 18)).toNat) (tl, D, L)).2) := by rw [e1]; unfold sPlay1; rw [if_neg (by omega), if_neg (by omega), if_neg (by omega), if_pos (e0.symm.trans hs51_3)]; exact sDays_p (by omega) hs.2.2.1
              have hq2 : isK G kb fx fx2 X cl ((sDays X 0 ((min (f3 (3 * i + 1)) (9999 - D.1 18)).toNat) (tl, D, L)).2) tl2 D2 L2 tp nt fs fp w38 := by exact hq
              refine M.run 1 (pc' := 181) (lv' := [some (vr kb), some (vi ((t : Nat) : Int)), some (vr px), some (vi ((i : Nat) : Int)), some (vi (f3 (3 * i + 1))), some (vi (f3 (3 * i + 2))), some (vi 1)]) (st' := []) rfl ?_
              have hEz : isK G kb fx fx2 X cl (sPlay1 X 0 cl (681 * t + 1 + 3 * i) (tl, D, L)).2 tl2 D2 L2 tp nt fs fp w38 := by rw [hp1]; exact ⟨hq2.1, hq2.2⟩
              rw [show 1 = zb (sPlay1 X 0 cl (681 * t + 1 + 3 * i) (tl, D, L)).1 from by rw [hp1]; rw [decide_eq_true (by omega)]; rfl]
              refine M.run 1 (pc' := 183) (lv' := [some (vr kb), some (vi ((t : Nat) : Int)), some (vr px), some (vi ((i : Nat) : Int)), some (vi (f3 (3 * i + 1))), some (vi (f3 (3 * i + 2))), some (vi (zb (sPlay1 X 0 cl (681 * t + 1 + 3 * i) (tl, D, L)).1))]) (st' := [vi (zb (sPlay1 X 0 cl (681 * t + 1 + 3 * i) (tl, D, L)).1)]) rfl ?_
              refine M.if_ne (tgt := 188) rfl (inI_zb _) (by decide) (fun h183 => ?_) (fun h183 => ?_)
              · skip
                replace h183 := zb_t h183
                refine M.run 2 (pc' := 18) (lv' := [some (vr kb), some (vi ((t : Nat) : Int)), some (vr px), some (vi (((i : Nat) : Int) + 1)), some (vi (f3 (3 * i + 1))), some (vi (f3 (3 * i + 2))), some (vi (zb (sPlay1 X 0 cl (681 * t + 1 + 3 * i) (tl, D, L)).1))]) (st' := []) rfl ?_
                refine M.fgt [false, false, false, false, true, true, true] ?_
                exact ih18 (i + 1) ((sPlay1 X 0 cl (681 * t + 1 + 3 * i) (tl, D, L)).2.1) ((sPlay1 X 0 cl (681 * t + 1 + 3 * i) (tl, D, L)).2.2.1) ((sPlay1 X 0 cl (681 * t + 1 + 3 * i) (tl, D, L)).2.2.2) w38 hEz.1 hEz.2 (Sok_mono (by omega) (POk_play1 (fun z => (c1 z).1) hpk).2.1) (POk_mono (by omega) (POk_play1 (fun z => (c1 z).1) hpk)) (by rw [hI, sPlay_s (by omega) h183, show m - i - 1 = m - (i + 1) by omega]) (by omega) (by show ((t : Nat) : Int) < (sPlay1 X 0 cl (681 * t + 1 + 3 * i) (tl, D, L)).2.1 1; rw [sPlay1_12 hk03.1 (Or.inl rfl)]; exact ht) (by omega)
              · skip
                replace h183 := zb_f0 h183
                have hRe : R = (((i : Nat) : Int), (sPlay1 X 0 cl (681 * t + 1 + 3 * i) (tl, D, L)).2) := by rw [hI, sPlay_f (by omega) h183]
                refine M.run 1 (pc' := 187) (lv' := [some (vr kb), some (vi ((t : Nat) : Int)), some (vr px), some (vi ((i : Nat) : Int)), some (vi (f3 (3 * i + 1))), some (vi (f3 (3 * i + 2))), some (vi (zb (sPlay1 X 0 cl (681 * t + 1 + 3 * i) (tl, D, L)).1))]) (st' := [vi ((i : Nat) : Int)]) rfl ?_
                exact M.iret rfl (Nat.zero_le _) (Nat.zero_le _) ⟨reI (hRq1.trans (congrArg Prod.fst hRe)).symm, (by rw [hRq2, hRe]; exact ⟨hEz.1, hEz.2⟩)⟩
          refine M.tswOut (tgt := 181) rfl (qI (by omega)) (by omega) (by decide) ?_
          have hp1 : sPlay1 X 0 cl (681 * t + 1 + 3 * i) (tl, D, L) = (true, (tl, D, L)) := by unfold sPlay1; rw [if_neg (by omega), if_neg (by omega), if_neg (by omega), if_neg (by omega)]
          have hEz : isK G kb fx fx2 X cl (sPlay1 X 0 cl (681 * t + 1 + 3 * i) (tl, D, L)).2 tl2 D2 L2 tp nt fs fp wp := by rw [hp1]; exact ⟨hEp, hKp⟩
          rw [show 1 = zb (sPlay1 X 0 cl (681 * t + 1 + 3 * i) (tl, D, L)).1 from by rw [hp1]; rfl]
          refine M.run 1 (pc' := 183) (lv' := [some (vr kb), some (vi ((t : Nat) : Int)), some (vr px), some (vi ((i : Nat) : Int)), some (vi (f3 (3 * i + 1))), some (vi (f3 (3 * i + 2))), some (vi (zb (sPlay1 X 0 cl (681 * t + 1 + 3 * i) (tl, D, L)).1))]) (st' := [vi (zb (sPlay1 X 0 cl (681 * t + 1 + 3 * i) (tl, D, L)).1)]) rfl ?_
          refine M.if_ne (tgt := 188) rfl (inI_zb _) (by decide) (fun h183 => ?_) (fun h183 => ?_)
          · skip
            replace h183 := zb_t h183
            refine M.run 2 (pc' := 18) (lv' := [some (vr kb), some (vi ((t : Nat) : Int)), some (vr px), some (vi (((i : Nat) : Int) + 1)), some (vi (f3 (3 * i + 1))), some (vi (f3 (3 * i + 2))), some (vi (zb (sPlay1 X 0 cl (681 * t + 1 + 3 * i) (tl, D, L)).1))]) (st' := []) rfl ?_
            refine M.fgt [false, false, false, false, true, true, true] ?_
            exact ih18 (i + 1) ((sPlay1 X 0 cl (681 * t + 1 + 3 * i) (tl, D, L)).2.1) ((sPlay1 X 0 cl (681 * t + 1 + 3 * i) (tl, D, L)).2.2.1) ((sPlay1 X 0 cl (681 * t + 1 + 3 * i) (tl, D, L)).2.2.2) wp hEz.1 hEz.2 (Sok_mono (by omega) (POk_play1 (fun z => (c1 z).1) hpk).2.1) (POk_mono (by omega) (POk_play1 (fun z => (c1 z).1) hpk)) (by rw [hI, sPlay_s (by omega) h183, show m - i - 1 = m - (i + 1) by omega]) (by omega) (by show ((t : Nat) : Int) < (sPlay1 X 0 cl (681 * t + 1 + 3 * i) (tl, D, L)).2.1 1; rw [sPlay1_12 hk03.1 (Or.inl rfl)]; exact ht) (by omega)
          · skip
            replace h183 := zb_f0 h183
            have hRe : R = (((i : Nat) : Int), (sPlay1 X 0 cl (681 * t + 1 + 3 * i) (tl, D, L)).2) := by rw [hI, sPlay_f (by omega) h183]
            refine M.run 1 (pc' := 187) (lv' := [some (vr kb), some (vi ((t : Nat) : Int)), some (vr px), some (vi ((i : Nat) : Int)), some (vi (f3 (3 * i + 1))), some (vi (f3 (3 * i + 2))), some (vi (zb (sPlay1 X 0 cl (681 * t + 1 + 3 * i) (tl, D, L)).1))]) (st' := [vi ((i : Nat) : Int)]) rfl ?_
            exact M.iret rfl (Nat.zero_le _) (Nat.zero_le _) ⟨reI (hRq1.trans (congrArg Prod.fst hRe)).symm, (by rw [hRq2, hRe]; exact ⟨hEz.1, hEz.2⟩)⟩
    exact Lp18 _ 0 tl D L w hP.1 hP.2 (Sok_mono (by omega) hs) (POk_mono (by omega) ⟨hT, hs, hZ, hru⟩) hR (Nat.zero_le _) htl (Nat.lt_succ_self _)
  · skip
    rw [if_neg hcx]
    refine M.run 2 (pc' := 10) (lv' := [some (vr kb), some (vi x), some (vn), none, none, none, none]) (st' := [vn]) rfl ?_
    refine M.ifnonnullN rfl ?_
    refine M.run 1 (pc' := 15) (lv' := [some (vr kb), some (vi x), some (vn), none, none, none, none]) (st' := [vi (-2)]) rfl ?_
    exact M.iret rfl (Nat.zero_le _) (Nat.zero_le _) ⟨reI (if_neg hcx).symm, (by rw [if_neg hcx]; exact ⟨hP.1, hP.2⟩)⟩
