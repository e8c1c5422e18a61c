theorem bEg_no {L : List (Nat × Nat)} {i z : Int} (h : ¬ (0 ≤ i ∧ i.toNat < L.length)) : bEg L i z = -1 := by
  unfold bEg
  by_cases h0 : 0 ≤ i
  · rw [if_pos h0, List.getElem?_eq_none (by omega)]
  · rw [if_neg h0]
set_option maxHeartbeats 4000000 in
set_option maxRecDepth 100000 in
theorem kX0_fits (l : Launch) (G : GT) (x : Int) (hx : inI x) : Ctr l G yX0_fits cX0_fits 1 ((Option.some Jvm.ClassFile.FieldType.boolean)) 1 0 0 [vi x] (fun w => True) (fun w r w' => r = some (vi (zb (decide (0 ≤ x ∧ x ≤ 1073741823)))) ∧ w' = w) := by
  refine Ctr.of (t := tX0_fits) (lv0 := [some (vi x)]) (by decide +kernel) tX0_fits_ok rfl rfl (fun w g hP M => ?_)
  refine M.run 1 (pc' := 1) (lv' := [some (vi x)]) (st' := [vi x]) rfl ?_
  refine M.if_lt (tgt := 14) rfl (qI (by have := hx.1; have := hx.2; omega)) (by decide) (fun h1 => ?_) (fun h1 => ?_)
  · skip
    refine M.run 1 (pc' := 15) (lv' := [some (vi x)]) (st' := [vi 0]) rfl ?_
    exact M.zret rfl (Or.inl rfl) (Nat.zero_le _) (Nat.zero_le _) ⟨by congr 2; first | (rw [decide_eq_true (by omega)]; rfl) | (rw [decide_eq_false (by omega)]; rfl), rfl⟩
  · skip
    refine M.run 1 (pc' := 5) (lv' := [some (vi x)]) (st' := [vi x]) rfl ?_
    refine M.ldc (x := 1073741823) kc_X0_9 rfl rfl ?_
    refine M.icmp_gt (tgt := 14) rfl (qI (by have := hx.1; have := hx.2; omega)) (qI (by decide)) (by decide) (fun h7 => ?_) (fun h7 => ?_)
    · skip
      refine M.run 1 (pc' := 15) (lv' := [some (vi x)]) (st' := [vi 0]) rfl ?_
      exact M.zret rfl (Or.inl rfl) (Nat.zero_le _) (Nat.zero_le _) ⟨by congr 2; first | (rw [decide_eq_true (by omega)]; rfl) | (rw [decide_eq_false (by omega)]; rfl), rfl⟩
    · skip
      refine M.run 2 (pc' := 15) (lv' := [some (vi x)]) (st' := [vi 1]) rfl ?_
      exact M.zret rfl (Or.inr rfl) (Nat.zero_le _) (Nat.zero_le _) ⟨by congr 2; first | (rw [decide_eq_true (by omega)]; rfl) | (rw [decide_eq_false (by omega)]; rfl), rfl⟩
set_option maxHeartbeats 4000000 in
set_option maxRecDepth 100000 in
theorem kX0_first (l : Launch) (G : GT) (n : Nat) (hn : n ≤ 30) : Ctr l G yX0_first cX0_first 1 ((Option.some Jvm.ClassFile.FieldType.int)) 1 0 0 [vi ((n : Nat) : Int)] (fun w => True) (fun w r w' => r = some (vi ((bFs n : Nat) : Int)) ∧ w' = w) := by
  refine Ctr.of (t := tX0_first) (lv0 := [some (vi ((n : Nat) : Int))]) (by decide +kernel) tX0_first_ok rfl rfl (fun w g hP M => ?_)
  refine M.run 1 (pc' := 1) (lv' := [some (vi ((n : Nat) : Int))]) (st' := [vi ((n : Nat) : Int)]) rfl ?_
  refine M.if_gt (tgt := 6) rfl (qI (by omega)) (by decide) (fun h1 => ?_) (fun h1 => ?_)
  · skip
    refine M.run 2 (pc' := 9) (lv' := [some (vi ((n : Nat) : Int))]) (st' := [vi 30, vi ((n : Nat) : Int)]) rfl ?_
    refine M.icmp_lt (tgt := 17) rfl (qI (by omega)) (qI (by decide)) (by decide) (fun h9 => ?_) (fun h9 => ?_)
    · skip
      refine M.run 2 (pc' := 19) (lv' := [some (vi ((n : Nat) : Int))]) (st' := [vi ((n : Nat) : Int), vi 1]) rfl ?_
      refine M.ishl (b1 := 1) (b2 := n) rfl (by omega) ?_
      refine M.run 2 (pc' := 22) (lv' := [some (vi ((n : Nat) : Int))]) (st' := [vi (((1 <<< n : Nat) : Int) - 1)]) rfl ?_
      exact M.iret rfl (Nat.zero_le _) (Nat.zero_le _) ⟨by first | (rw [show n = 30 by omega]; rfl) | (congr 2; unfold bFs; rw [Nat.one_shiftLeft]; have := Nat.one_le_two_pow (n := n); omega), rfl⟩
    · skip
      refine M.ldc (x := 1073741823) kc_X0_9 rfl rfl ?_
      refine M.run 1 (pc' := 22) (lv' := [some (vi ((n : Nat) : Int))]) (st' := [vi 1073741823]) rfl ?_
      exact M.iret rfl (Nat.zero_le _) (Nat.zero_le _) ⟨by first | (rw [show n = 30 by omega]; rfl) | (congr 2; unfold bFs; rw [Nat.one_shiftLeft]; have := Nat.one_le_two_pow (n := n); omega), rfl⟩
  · skip
    refine M.run 1 (pc' := 5) (lv' := [some (vi ((n : Nat) : Int))]) (st' := [vi 0]) rfl ?_
    exact M.iret rfl (Nat.zero_le _) (Nat.zero_le _) ⟨by rw [show n = 0 by omega]; rfl, rfl⟩
set_option maxHeartbeats 4000000 in
set_option maxRecDepth 100000 in
theorem kX0_between (l : Launch) (G : GT) (f t : Nat) (hf : f ≤ 30) (ht : t ≤ 30) : Ctr l G yX0_between cX0_between 2 ((Option.some Jvm.ClassFile.FieldType.int)) 2 0 0 [vi ((f : Nat) : Int), vi ((t : Nat) : Int)] (fun w => True) (fun w r w' => r = some (vi ((bIn f t : Nat) : Int)) ∧ w' = w) := by
  refine Ctr.of (t := tX0_between) (lv0 := [some (vi ((f : Nat) : Int)), some (vi ((t : Nat) : Int))]) (by decide +kernel) tX0_between_ok rfl rfl (fun w g hP M => ?_)
  have hf1 := bFs_lt hf
  have ht1 := bFs_lt ht
  refine M.run 1 (pc' := 1) (lv' := [some (vi ((f : Nat) : Int)), some (vi ((t : Nat) : Int))]) (st' := [vi ((t : Nat) : Int)]) rfl ?_
  refine M.callS (kX0_first l G t (by omega)) cs_X0_10 cd_X0_first rfl (st := []) rfl (by decide) (by decide) rfl (Nat.zero_le _) (Nat.zero_le _) trivial (fun r1 w2 q3 => ?_)
  rw [q3.1, q3.2]
  refine M.run 1 (pc' := 5) (lv' := [some (vi ((f : Nat) : Int)), some (vi ((t : Nat) : Int))]) (st' := [vi ((f : Nat) : Int), vi ((bFs t : Nat) : Int)]) rfl ?_
  refine M.callS (kX0_first l G f (by omega)) cs_X0_10 cd_X0_first rfl (st := [vi ((bFs t : Nat) : Int)]) rfl (by decide) (by decide) rfl (Nat.zero_le _) (Nat.zero_le _) trivial (fun r5 w6 q7 => ?_)
  rw [q7.1, q7.2]
  refine M.run 1 (pc' := 9) (lv' := [some (vi ((f : Nat) : Int)), some (vi ((t : Nat) : Int))]) (st' := [vi (-1), vi ((bFs f : Nat) : Int), vi ((bFs t : Nat) : Int)]) rfl ?_
  refine M.ixm1 (b1 := bFs f) rfl ?_
  refine M.iandn (b1 := bFs t) (b2 := bFs f) rfl (by omega) (by omega) ?_
  exact M.iret rfl (Nat.zero_le _) (Nat.zero_le _) ⟨rfl, rfl⟩
set_option maxHeartbeats 4000000 in
set_option maxRecDepth 100000 in
theorem kX0_nextFrom (l : Launch) (G : GT) (b : Nat) (hb : b < 1073741824) (s : Nat) (hs : s ≤ 30) : Ctr l G yX0_nextFrom cX0_nextFrom 3 ((Option.some Jvm.ClassFile.FieldType.int)) 2 0 0 [vi ((b : Nat) : Int), vi ((s : Nat) : Int)] (fun w => True) (fun w r w' => r = some (vi (if bNx b s < 30 then ((bNx b s : Nat) : Int) else -1)) ∧ w' = w) := by
  refine Ctr.of (t := tX0_nextFrom) (lv0 := [some (vi ((b : Nat) : Int)), some (vi ((s : Nat) : Int)), none]) (by decide +kernel) tX0_nextFrom_ok rfl rfl (fun w g hP M => ?_)
  refine M.run 2 (pc' := 2) (lv' := [some (vi ((b : Nat) : Int)), some (vi ((s : Nat) : Int)), none]) (st' := [vi ((s : Nat) : Int), vi 0]) rfl ?_
  refine M.mmax cs_X0_16 rfl (qI (by decide)) (qI (by omega)) (by decide) (Nat.zero_le _) (Nat.zero_le _) rfl ?_
  rw [show max (0 : Int) ((s : Nat) : Int) = ((s : Nat) : Int) by omega]
  refine M.run 1 (pc' := 6) (lv' := [some (vi ((b : Nat) : Int)), some (vi ((s : Nat) : Int)), some (vi ((s : Nat) : Int))]) (st' := []) rfl ?_
  have Lp6 : ∀ (N : Nat) (p : Nat), (p ≤ 30) → (bNx b p = bNx b s) → 30 - p < N → g 0 0 w 6 [some (vi ((b : Nat) : Int)), some (vi ((s : Nat) : Int)), some (vi ((p : Nat) : Int))] [] := by
    intro N
    induction N with
    | zero => intro p _ _ hN; exact absurd hN (Nat.not_lt_zero _)
    | succ N ih6 =>
      intro p h2 h3 hN
      refine M.run 2 (pc' := 9) (lv' := [some (vi ((b : Nat) : Int)), some (vi ((s : Nat) : Int)), some (vi ((p : Nat) : Int))]) (st' := [vi 30, vi ((p : Nat) : Int)]) rfl ?_
      refine M.icmp_ge (tgt := 29) rfl (qI (by omega)) (qI (by decide)) (by decide) (fun h9 => ?_) (fun h9 => ?_)
      · skip
        refine M.run 1 (pc' := 30) (lv' := [some (vi ((b : Nat) : Int)), some (vi ((s : Nat) : Int)), some (vi ((p : Nat) : Int))]) (st' := [vi (-1)]) rfl ?_
        exact M.iret rfl (Nat.zero_le _) (Nat.zero_le _) ⟨by rw [bNx_e (by omega)] at h3; rw [if_neg (by omega)], rfl⟩
      · skip
        refine M.run 2 (pc' := 14) (lv' := [some (vi ((b : Nat) : Int)), some (vi ((s : Nat) : Int)), some (vi ((p : Nat) : Int))]) (st' := [vi ((p : Nat) : Int), vi ((b : Nat) : Int)]) rfl ?_
        refine M.ishr (b1 := b) (b2 := p) rfl (by omega) (by omega) ?_
        have hs1 := Nat.shiftRight_le b p
        refine M.run 1 (pc' := 16) (lv' := [some (vi ((b : Nat) : Int)), some (vi ((s : Nat) : Int)), some (vi ((p : Nat) : Int))]) (st' := [vi 1, vi ((b >>> p : Nat) : Int)]) rfl ?_
        refine M.iand (b1 := b >>> p) (b2 := 1) rfl (by omega) (by omega) ?_
        have hl2 := Nat.and_le_left (n := b >>> p) (m := 1)
        have hr3 := Nat.and_le_right (n := b >>> p) (m := 1)
        refine M.run 1 (pc' := 18) (lv' := [some (vi ((b : Nat) : Int)), some (vi ((s : Nat) : Int)), some (vi ((p : Nat) : Int))]) (st' := [vi 1, vi (((b >>> p) &&& 1 : Nat) : Int)]) rfl ?_
        refine M.icmp_ne (tgt := 23) rfl (qI (by omega)) (qI (by decide)) (by decide) (fun h18 => ?_) (fun h18 => ?_)
        · skip
          refine M.run 2 (pc' := 6) (lv' := [some (vi ((b : Nat) : Int)), some (vi ((s : Nat) : Int)), some (vi (((p : Nat) : Int) + 1))]) (st' := []) rfl ?_
          exact ih6 (p + 1) (by omega) (by rw [← h3, bNx_s (b := b) (p := p) (by omega), if_neg (by rw [Bool.not_eq_true]; exact (bit_and1n b p).mp (by omega))]) (by omega)
        · skip
          refine M.run 1 (pc' := 22) (lv' := [some (vi ((b : Nat) : Int)), some (vi ((s : Nat) : Int)), some (vi ((p : Nat) : Int))]) (st' := [vi ((p : Nat) : Int)]) rfl ?_
          exact M.iret rfl (Nat.zero_le _) (Nat.zero_le _) ⟨by rw [bNx_s (by omega), if_pos ((bit_and1 b p).mp (by omega))] at h3; rw [← h3, if_pos (by omega)], rfl⟩
  exact Lp6 _ s (by omega) rfl (Nat.lt_succ_self _)
set_option maxHeartbeats 4000000 in
set_option maxRecDepth 100000 in
theorem kX0_pieceTo (l : Launch) (G : GT) (b : Nat) (hb : b < 1073741824) (sz : Nat) (hz0 : 0 < sz) (hz : sz ≤ 30) (s : Nat) (hs : s ≤ 30) : Ctr l G yX0_pieceTo cX0_pieceTo 4 ((Option.some Jvm.ClassFile.FieldType.int)) 2 0 0 [vi ((b : Nat) : Int), vi ((sz : Nat) : Int), vi ((s : Nat) : Int)] (fun w => True) (fun w r w' => r = some (vi ((bPt b sz s : Nat) : Int)) ∧ w' = w) := by
  refine Ctr.of (t := tX0_pieceTo) (lv0 := [some (vi ((b : Nat) : Int)), some (vi ((sz : Nat) : Int)), some (vi ((s : Nat) : Int)), none]) (by decide +kernel) tX0_pieceTo_ok rfl rfl (fun w g hP M => ?_)
  refine M.run 2 (pc' := 2) (lv' := [some (vi ((b : Nat) : Int)), some (vi ((sz : Nat) : Int)), some (vi ((s : Nat) : Int)), none]) (st' := [vi ((s : Nat) : Int), vi 0]) rfl ?_
  refine M.mmax cs_X0_16 rfl (qI (by decide)) (qI (by omega)) (by decide) (Nat.zero_le _) (Nat.zero_le _) rfl ?_
  rw [show max (0 : Int) ((s : Nat) : Int) = ((s : Nat) : Int) by omega]
  refine M.run 1 (pc' := 6) (lv' := [some (vi ((b : Nat) : Int)), some (vi ((sz : Nat) : Int)), some (vi ((s : Nat) : Int)), some (vi ((s : Nat) : Int))]) (st' := []) rfl ?_
  have Lp6 : ∀ (N : Nat) (p : Nat), (s ≤ p) → (p ≤ 30) → (bEd b p = bEd b s) → (p ≤ s + sz) → 30 - p < N → g 0 0 w 6 [some (vi ((b : Nat) : Int)), some (vi ((sz : Nat) : Int)), some (vi ((s : Nat) : Int)), some (vi ((p : Nat) : Int))] [] := by
    intro N
    induction N with
    | zero => intro p _ _ _ _ hN; exact absurd hN (Nat.not_lt_zero _)
    | succ N ih6 =>
      intro p h1 h2 h3 h4 hN
      refine M.run 2 (pc' := 9) (lv' := [some (vi ((b : Nat) : Int)), some (vi ((sz : Nat) : Int)), some (vi ((s : Nat) : Int)), some (vi ((p : Nat) : Int))]) (st' := [vi 30, vi ((p : Nat) : Int)]) rfl ?_
      refine M.icmp_ge (tgt := 35) rfl (qI (by omega)) (qI (by decide)) (by decide) (fun h9 => ?_) (fun h9 => ?_)
      · skip
        refine M.run 1 (pc' := 37) (lv' := [some (vi ((b : Nat) : Int)), some (vi ((sz : Nat) : Int)), some (vi ((s : Nat) : Int)), some (vi ((p : Nat) : Int))]) (st' := [vi 30]) rfl ?_
        exact M.iret rfl (Nat.zero_le _) (Nat.zero_le _) ⟨by rw [bEd_e (by omega)] at h3; congr 2; unfold bPt; omega, rfl⟩
      · skip
        refine M.run 4 (pc' := 16) (lv' := [some (vi ((b : Nat) : Int)), some (vi ((sz : Nat) : Int)), some (vi ((s : Nat) : Int)), some (vi ((p : Nat) : Int))]) (st' := [vi ((sz : Nat) : Int), vi (((p : Nat) : Int) - ((s : Nat) : Int))]) rfl ?_
        refine M.icmp_ge (tgt := 27) rfl (qI (by omega)) (qI (by omega)) (by decide) (fun h16 => ?_) (fun h16 => ?_)
        · skip
          have h5 := bEd_ge 30 b p (by omega)
          refine M.run 1 (pc' := 28) (lv' := [some (vi ((b : Nat) : Int)), some (vi ((sz : Nat) : Int)), some (vi ((s : Nat) : Int)), some (vi ((p : Nat) : Int))]) (st' := [vi ((p : Nat) : Int)]) rfl ?_
          exact M.iret rfl (Nat.zero_le _) (Nat.zero_le _) ⟨by congr 3; unfold bPt; omega, rfl⟩
        · skip
          refine M.run 2 (pc' := 21) (lv' := [some (vi ((b : Nat) : Int)), some (vi ((sz : Nat) : Int)), some (vi ((s : Nat) : Int)), some (vi ((p : Nat) : Int))]) (st' := [vi ((p : Nat) : Int), vi ((b : Nat) : Int)]) rfl ?_
          refine M.ishr (b1 := b) (b2 := p) rfl (by omega) (by omega) ?_
          have hs1 := Nat.shiftRight_le b p
          refine M.run 1 (pc' := 23) (lv' := [some (vi ((b : Nat) : Int)), some (vi ((sz : Nat) : Int)), some (vi ((s : Nat) : Int)), some (vi ((p : Nat) : Int))]) (st' := [vi 1, vi ((b >>> p : Nat) : Int)]) rfl ?_
          refine M.iand (b1 := b >>> p) (b2 := 1) rfl (by omega) (by omega) ?_
          have hl2 := Nat.and_le_left (n := b >>> p) (m := 1)
          have hr3 := Nat.and_le_right (n := b >>> p) (m := 1)
          refine M.if_ne (tgt := 29) rfl (qI (by omega)) (by decide) (fun h24 => ?_) (fun h24 => ?_)
          · skip
            have hbit : b.testBit p = true := (bit_and1 b p).mp (by omega)
            refine M.run 2 (pc' := 6) (lv' := [some (vi ((b : Nat) : Int)), some (vi ((sz : Nat) : Int)), some (vi ((s : Nat) : Int)), some (vi (((p : Nat) : Int) + 1))]) (st' := []) rfl ?_
            exact ih6 (p + 1) (by omega) (by omega) (by rw [← h3, bEd_s (b := b) (p := p) (by omega), if_pos hbit]) (by omega) (by omega)
          · skip
            have hbit : b.testBit p = false := (bit_and1n b p).mp (by omega)
            have h5 : bEd b p = p := by rw [bEd_s (by omega), hbit]; rfl
            refine M.run 1 (pc' := 28) (lv' := [some (vi ((b : Nat) : Int)), some (vi ((sz : Nat) : Int)), some (vi ((s : Nat) : Int)), some (vi ((p : Nat) : Int))]) (st' := [vi ((p : Nat) : Int)]) rfl ?_
            exact M.iret rfl (Nat.zero_le _) (Nat.zero_le _) ⟨by congr 3; unfold bPt; omega, rfl⟩
  exact Lp6 _ s (by omega) (by omega) rfl (by omega) (Nat.lt_succ_self _)
set_option maxHeartbeats 4000000 in
set_option maxRecDepth 100000 in
theorem kX0_pieceCount (l : Launch) (G : GT) (b : Nat) (hb : b < 1073741824) (sz : Nat) (hz0 : 0 < sz) (hz : sz ≤ 30) : Ctr l G yX0_pieceCount cX0_pieceCount 5 ((Option.some Jvm.ClassFile.FieldType.int)) 3 0 0 [vi ((b : Nat) : Int), vi ((sz : Nat) : Int)] (fun w => True) (fun w r w' => r = some (vi (((bPs b sz).length : Nat) : Int)) ∧ w' = w) := by
  refine Ctr.of (t := tX0_pieceCount) (lv0 := [some (vi ((b : Nat) : Int)), some (vi ((sz : Nat) : Int)), none, none, none]) (by decide +kernel) tX0_pieceCount_ok rfl rfl (fun w g hP M => ?_)
  have hlen : (bPs b sz).length ≤ 30 := bPsF_len b sz hz0 30 0 (by omega)
  refine M.run 4 (pc' := 4) (lv' := [some (vi ((b : Nat) : Int)), some (vi ((sz : Nat) : Int)), some (vi 0), some (vi 0), none]) (st' := []) rfl ?_
  have Lp4 : ∀ (N : Nat) (p : Nat) (n : Nat), (p ≤ 30) → (n + (bPsF b sz p).length = (bPs b sz).length) → (n ≤ 30) → 30 - n < N → g 0 0 w 4 [some (vi ((b : Nat) : Int)), some (vi ((sz : Nat) : Int)), some (vi ((p : Nat) : Int)), some (vi ((n : Nat) : Int)), none] [] := by
    intro N
    induction N with
    | zero => intro p n _ _ _ hN; exact absurd hN (Nat.not_lt_zero _)
    | succ N ih4 =>
      intro p n h2 h3 h4 hN
      refine M.run 2 (pc' := 7) (lv' := [some (vi ((b : Nat) : Int)), some (vi ((sz : Nat) : Int)), some (vi ((p : Nat) : Int)), some (vi ((n : Nat) : Int)), none]) (st' := [vi 30, vi ((n : Nat) : Int)]) rfl ?_
      refine M.icmp_ge (tgt := 39) rfl (qI (by omega)) (qI (by decide)) (by decide) (fun h7 => ?_) (fun h7 => ?_)
      · skip
        refine M.run 1 (pc' := 41) (lv' := [some (vi ((b : Nat) : Int)), some (vi ((sz : Nat) : Int)), some (vi ((p : Nat) : Int)), some (vi ((n : Nat) : Int)), none]) (st' := [vi 30]) rfl ?_
        exact M.iret rfl (Nat.zero_le _) (Nat.zero_le _) ⟨by congr 2; omega, rfl⟩
      · skip
        refine M.run 2 (pc' := 12) (lv' := [some (vi ((b : Nat) : Int)), some (vi ((sz : Nat) : Int)), some (vi ((p : Nat) : Int)), some (vi ((n : Nat) : Int)), none]) (st' := [vi ((p : Nat) : Int), vi ((b : Nat) : Int)]) rfl ?_
        refine M.callS (kX0_nextFrom l G b (by omega) p (by omega)) cs_X0_22 cd_X0_nextFrom rfl (st := []) rfl (by decide) (by decide) rfl (Nat.zero_le _) (Nat.zero_le _) trivial (fun r1 w2 q3 => ?_)
        rw [q3.1, q3.2]
        refine M.run 3 (pc' := 20) (lv' := [some (vi ((b : Nat) : Int)), some (vi ((sz : Nat) : Int)), some (vi ((p : Nat) : Int)), some (vi ((n : Nat) : Int)), some (vi (if bNx b p < 30 then ((bNx b p : Nat) : Int) else -1))]) (st' := [vi (-1), vi (if bNx b p < 30 then ((bNx b p : Nat) : Int) else -1)]) rfl ?_
        refine M.icmp_ne (tgt := 25) rfl (qI (by omega)) (qI (by decide)) (by decide) (fun h20 => ?_) (fun h20 => ?_)
        · skip
          have h5 : bNx b p < 30 := by by_cases z : bNx b p < 30; exact z; rw [if_neg z] at h20; omega
          rw [if_pos h5]
          rw [bPsF_s hz0 h5, List.length_cons] at h3
          refine M.run 3 (pc' := 29) (lv' := [some (vi ((b : Nat) : Int)), some (vi ((sz : Nat) : Int)), some (vi ((p : Nat) : Int)), some (vi ((n : Nat) : Int)), some (vi ((bNx b p : Nat) : Int))]) (st' := [vi ((bNx b p : Nat) : Int), vi ((sz : Nat) : Int), vi ((b : Nat) : Int)]) rfl ?_
          refine M.callS (kX0_pieceTo l G b (by omega) sz (by omega) (by omega) (bNx b p) (by omega)) cs_X0_25 cd_X0_pieceTo rfl (st := []) rfl (by decide) (by decide) rfl (Nat.zero_le _) (Nat.zero_le _) trivial (fun r5 w6 q7 => ?_)
          rw [q7.1, q7.2]
          refine M.run 3 (pc' := 4) (lv' := [some (vi ((b : Nat) : Int)), some (vi ((sz : Nat) : Int)), some (vi ((bPt b sz (bNx b p) : Nat) : Int)), some (vi (((n : Nat) : Int) + 1)), some (vi ((bNx b p : Nat) : Int))]) (st' := []) rfl ?_
          refine M.fgt [false, false, false, false, true] ?_
          exact ih4 (bPt b sz (bNx b p)) (n + 1) (bPt_le (by omega)) (by omega) (by omega) (by omega)
        · skip
          have h5 : ¬ bNx b p < 30 := fun z => by rw [if_pos z] at h20; omega
          rw [bPsF_e h5] at h3
          refine M.run 1 (pc' := 24) (lv' := [some (vi ((b : Nat) : Int)), some (vi ((sz : Nat) : Int)), some (vi ((p : Nat) : Int)), some (vi ((n : Nat) : Int)), some (vi (if bNx b p < 30 then ((bNx b p : Nat) : Int) else -1))]) (st' := [vi ((n : Nat) : Int)]) rfl ?_
          exact M.iret rfl (Nat.zero_le _) (Nat.zero_le _) ⟨by congr 3, rfl⟩
  exact Lp4 _ 0 0 (by omega) (Nat.zero_add _) (by omega) (Nat.lt_succ_self _)
set_option maxHeartbeats 4000000 in
set_option maxRecDepth 100000 in
theorem kX0_pieceEdge (l : Launch) (G : GT) (b : Nat) (hb : b < 1073741824) (sz : Nat) (hz0 : 0 < sz) (hz : sz ≤ 30) (i z : Int) (hi : inI i) (hzz : inI z) : Ctr l G yX0_pieceEdge cX0_pieceEdge 7 ((Option.some Jvm.ClassFile.FieldType.int)) 3 0 0 [vi ((b : Nat) : Int), vi ((sz : Nat) : Int), vi i, vi z] (fun w => True) (fun w r w' => r = some (vi (bEg (bPs b sz) i z)) ∧ w' = w) := by
  refine Ctr.of (t := tX0_pieceEdge) (lv0 := [some (vi ((b : Nat) : Int)), some (vi ((sz : Nat) : Int)), some (vi i), some (vi z), none, none, none]) (by decide +kernel) tX0_pieceEdge_ok rfl rfl (fun w g hP M => ?_)
  have hlen : (bPs b sz).length ≤ 30 := bPsF_len b sz hz0 30 0 (by omega)
  have hi1 := hi.1
  have hi2 := hi.2
  have hz1 := hzz.1
  have hz2 := hzz.2
  refine M.run 4 (pc' := 6) (lv' := [some (vi ((b : Nat) : Int)), some (vi ((sz : Nat) : Int)), some (vi i), some (vi z), some (vi 0), some (vi 0), none]) (st' := []) rfl ?_
  have Lp6 : ∀ (N : Nat) (p : Nat) (n : Nat), (p ≤ 30) → (bPsF b sz p = (bPs b sz).drop n) → (n ≤ 30) → (¬ (0 ≤ i ∧ i < n)) → 30 - n < N → g 0 0 w 6 [some (vi ((b : Nat) : Int)), some (vi ((sz : Nat) : Int)), some (vi i), some (vi z), some (vi ((p : Nat) : Int)), some (vi ((n : Nat) : Int)), none] [] := by
    intro N
    induction N with
    | zero => intro p n _ _ _ _ hN; exact absurd hN (Nat.not_lt_zero _)
    | succ N ih6 =>
      intro p n h2 h3 h4 h6 hN
      refine M.run 2 (pc' := 10) (lv' := [some (vi ((b : Nat) : Int)), some (vi ((sz : Nat) : Int)), some (vi i), some (vi z), some (vi ((p : Nat) : Int)), some (vi ((n : Nat) : Int)), none]) (st' := [vi 30, vi ((n : Nat) : Int)]) rfl ?_
      refine M.icmp_ge (tgt := 62) rfl (qI (by omega)) (qI (by decide)) (by decide) (fun h10 => ?_) (fun h10 => ?_)
      · skip
        refine M.run 1 (pc' := 63) (lv' := [some (vi ((b : Nat) : Int)), some (vi ((sz : Nat) : Int)), some (vi i), some (vi z), some (vi ((p : Nat) : Int)), some (vi ((n : Nat) : Int)), none]) (st' := [vi (-1)]) rfl ?_
        exact M.iret rfl (Nat.zero_le _) (Nat.zero_le _) ⟨by congr 2; symm; exact bEg_no (fun h => by omega), rfl⟩
      · skip
        refine M.run 2 (pc' := 16) (lv' := [some (vi ((b : Nat) : Int)), some (vi ((sz : Nat) : Int)), some (vi i), some (vi z), some (vi ((p : Nat) : Int)), some (vi ((n : Nat) : Int)), none]) (st' := [vi ((p : Nat) : Int), vi ((b : Nat) : Int)]) rfl ?_
        refine M.callS (kX0_nextFrom l G b (by omega) p (by omega)) cs_X0_22 cd_X0_nextFrom rfl (st := []) rfl (by decide) (by decide) rfl (Nat.zero_le _) (Nat.zero_le _) trivial (fun r1 w2 q3 => ?_)
        rw [q3.1, q3.2]
        refine M.run 3 (pc' := 24) (lv' := [some (vi ((b : Nat) : Int)), some (vi ((sz : Nat) : Int)), some (vi i), some (vi z), some (vi ((p : Nat) : Int)), some (vi ((n : Nat) : Int)), some (vi (if bNx b p < 30 then ((bNx b p : Nat) : Int) else -1))]) (st' := [vi (-1), vi (if bNx b p < 30 then ((bNx b p : Nat) : Int) else -1)]) rfl ?_
        refine M.icmp_ne (tgt := 29) rfl (qI (by omega)) (qI (by decide)) (by decide) (fun h24 => ?_) (fun h24 => ?_)
        · skip
          have h5 : bNx b p < 30 := by by_cases z : bNx b p < 30; exact z; rw [if_neg z] at h24; omega
          rw [if_pos h5]
          rw [bPsF_s hz0 h5] at h3
          refine M.run 3 (pc' := 33) (lv' := [some (vi ((b : Nat) : Int)), some (vi ((sz : Nat) : Int)), some (vi i), some (vi z), some (vi ((p : Nat) : Int)), some (vi ((n : Nat) : Int)), some (vi ((bNx b p : Nat) : Int))]) (st' := [vi ((bNx b p : Nat) : Int), vi ((sz : Nat) : Int), vi ((b : Nat) : Int)]) rfl ?_
          refine M.callS (kX0_pieceTo l G b (by omega) sz (by omega) (by omega) (bNx b p) (by omega)) cs_X0_25 cd_X0_pieceTo rfl (st := []) rfl (by decide) (by decide) rfl (Nat.zero_le _) (Nat.zero_le _) trivial (fun r5 w6 q7 => ?_)
          rw [q7.1, q7.2]
          refine M.run 3 (pc' := 41) (lv' := [some (vi ((b : Nat) : Int)), some (vi ((sz : Nat) : Int)), some (vi i), some (vi z), some (vi ((bPt b sz (bNx b p) : Nat) : Int)), some (vi ((n : Nat) : Int)), some (vi ((bNx b p : Nat) : Int))]) (st' := [vi i, vi ((n : Nat) : Int)]) rfl ?_
          refine M.icmp_ne (tgt := 56) rfl (qI (by omega)) (qI (by omega)) (by decide) (fun h41 => ?_) (fun h41 => ?_)
          · skip
            refine M.run 2 (pc' := 6) (lv' := [some (vi ((b : Nat) : Int)), some (vi ((sz : Nat) : Int)), some (vi i), some (vi z), some (vi ((bPt b sz (bNx b p) : Nat) : Int)), some (vi (((n : Nat) : Int) + 1)), some (vi ((bNx b p : Nat) : Int))]) (st' := []) rfl ?_
            refine M.fgt [false, false, false, false, false, false, true] ?_
            exact ih6 (bPt b sz (bNx b p)) (n + 1) (bPt_le (by omega)) (by rw [← List.drop_drop, ← h3]; rfl) (by omega) (by omega) (by omega)
          · skip
            have h7 : (bPs b sz)[n]? = some (bNx b p, bPt b sz (bNx b p)) := by rw [← List.head?_drop, ← h3]; rfl
            refine M.run 1 (pc' := 45) (lv' := [some (vi ((b : Nat) : Int)), some (vi ((sz : Nat) : Int)), some (vi i), some (vi z), some (vi ((bPt b sz (bNx b p) : Nat) : Int)), some (vi ((n : Nat) : Int)), some (vi ((bNx b p : Nat) : Int))]) (st' := [vi z]) rfl ?_
            refine M.if_eq (tgt := 53) rfl (qI (by omega)) (by decide) (fun h45 => ?_) (fun h45 => ?_)
            · skip
              refine M.run 1 (pc' := 55) (lv' := [some (vi ((b : Nat) : Int)), some (vi ((sz : Nat) : Int)), some (vi i), some (vi z), some (vi ((bPt b sz (bNx b p) : Nat) : Int)), some (vi ((n : Nat) : Int)), some (vi ((bNx b p : Nat) : Int))]) (st' := [vi ((bNx b p : Nat) : Int)]) rfl ?_
              exact M.iret rfl (Nat.zero_le _) (Nat.zero_le _) ⟨by congr 2; unfold bEg; rw [if_pos (by omega), show i.toNat = n by omega, h7]; first | (simp only []; rw [if_neg (by omega)]) | (simp only []; rw [if_pos (by omega)]), rfl⟩
            · skip
              refine M.run 2 (pc' := 55) (lv' := [some (vi ((b : Nat) : Int)), some (vi ((sz : Nat) : Int)), some (vi i), some (vi z), some (vi ((bPt b sz (bNx b p) : Nat) : Int)), some (vi ((n : Nat) : Int)), some (vi ((bNx b p : Nat) : Int))]) (st' := [vi ((bPt b sz (bNx b p) : Nat) : Int)]) rfl ?_
              exact M.iret rfl (Nat.zero_le _) (Nat.zero_le _) ⟨by congr 2; unfold bEg; rw [if_pos (by omega), show i.toNat = n by omega, h7]; first | (simp only []; rw [if_neg (by omega)]) | (simp only []; rw [if_pos (by omega)]), rfl⟩
        · skip
          have h5 : ¬ bNx b p < 30 := fun z => by rw [if_pos z] at h24; omega
          rw [bPsF_e h5] at h3
          refine M.run 1 (pc' := 28) (lv' := [some (vi ((b : Nat) : Int)), some (vi ((sz : Nat) : Int)), some (vi i), some (vi z), some (vi ((p : Nat) : Int)), some (vi ((n : Nat) : Int)), some (vi (if bNx b p < 30 then ((bNx b p : Nat) : Int) else -1))]) (st' := [vi (-1)]) rfl ?_
          exact M.iret rfl (Nat.zero_le _) (Nat.zero_le _) ⟨by congr 2; symm; exact bEg_no (fun h => by have h8 := (List.drop_eq_nil_iff.mp h3.symm); omega), rfl⟩
  exact Lp6 _ 0 0 (by omega) rfl (by omega) (by omega) (Nat.lt_succ_self _)
set_option maxHeartbeats 4000000 in
set_option maxRecDepth 100000 in
theorem kX11_has (l : Launch) (G : GT) (b : Nat) (hb : b < 1073741824) (p : Nat) (hp : p < 32) : Ctr l G yX11_has cX11_has 2 ((Option.some Jvm.ClassFile.FieldType.boolean)) 1 0 0 [vi ((b : Nat) : Int), vi ((p : Nat) : Int)] (fun w => True) (fun w r w' => r = some (vi (zb (Nat.testBit b p))) ∧ w' = w) := by
  refine Ctr.of (t := tX11_has) (lv0 := [some (vi ((b : Nat) : Int)), some (vi ((p : Nat) : Int))]) (by decide +kernel) tX11_has_ok rfl rfl (fun w g hP M => ?_)
  refine M.run 2 (pc' := 2) (lv' := [some (vi ((b : Nat) : Int)), some (vi ((p : Nat) : Int))]) (st' := [vi ((p : Nat) : Int), vi ((b : Nat) : Int)]) rfl ?_
  refine M.ishr (b1 := b) (b2 := p) rfl (by omega) (by omega) ?_
  have hs1 := Nat.shiftRight_le b p
  refine M.run 1 (pc' := 4) (lv' := [some (vi ((b : Nat) : Int)), some (vi ((p : Nat) : Int))]) (st' := [vi 1, vi ((b >>> p : Nat) : Int)]) rfl ?_
  refine M.iand (b1 := b >>> p) (b2 := 1) rfl (by omega) (by omega) ?_
  have hl2 := Nat.and_le_left (n := b >>> p) (m := 1)
  have hr3 := Nat.and_le_right (n := b >>> p) (m := 1)
  refine M.run 1 (pc' := 6) (lv' := [some (vi ((b : Nat) : Int)), some (vi ((p : Nat) : Int))]) (st' := [vi 1, vi (((b >>> p) &&& 1 : Nat) : Int)]) rfl ?_
  refine M.icmp_ne (tgt := 13) rfl (qI (by omega)) (qI (by decide)) (by decide) (fun h6 => ?_) (fun h6 => ?_)
  · skip
    refine M.run 1 (pc' := 14) (lv' := [some (vi ((b : Nat) : Int)), some (vi ((p : Nat) : Int))]) (st' := [vi 0]) rfl ?_
    exact M.zret rfl (Or.inl rfl) (Nat.zero_le _) (Nat.zero_le _) ⟨by congr 2; first | (rw [(bit_and1 b p).mp (by omega)]; rfl) | (rw [(bit_and1n b p).mp (by omega)]; rfl), rfl⟩
  · skip
    refine M.run 2 (pc' := 14) (lv' := [some (vi ((b : Nat) : Int)), some (vi ((p : Nat) : Int))]) (st' := [vi 1]) rfl ?_
    exact M.zret rfl (Or.inr rfl) (Nat.zero_le _) (Nat.zero_le _) ⟨by congr 2; first | (rw [(bit_and1 b p).mp (by omega)]; rfl) | (rw [(bit_and1n b p).mp (by omega)]; rfl), rfl⟩
set_option maxHeartbeats 4000000 in
set_option maxRecDepth 100000 in
theorem kX11_firstFrom (l : Launch) (G : GT) (b : Nat) (hb : b < 1073741824) (s : Nat) (hs : s ≤ 30) : Ctr l G yX11_firstFrom cX11_firstFrom 3 ((Option.some Jvm.ClassFile.FieldType.int)) 2 0 0 [vi ((b : Nat) : Int), vi ((s : Nat) : Int)] (fun w => True) (fun w r w' => r = some (vi ((bNx b s : Nat) : Int)) ∧ w' = w) := by
  refine Ctr.of (t := tX11_firstFrom) (lv0 := [some (vi ((b : Nat) : Int)), some (vi ((s : Nat) : Int)), none]) (by decide +kernel) tX11_firstFrom_ok rfl rfl (fun w g hP M => ?_)
  refine M.run 2 (pc' := 2) (lv' := [some (vi ((b : Nat) : Int)), some (vi ((s : Nat) : Int)), some (vi ((s : Nat) : Int))]) (st' := []) rfl ?_
  have Lp2 : ∀ (N : Nat) (p : Nat), (p ≤ 30) → (bNx b p = bNx b s) → 30 - p < N → g 0 0 w 2 [some (vi ((b : Nat) : Int)), some (vi ((s : Nat) : Int)), some (vi ((p : Nat) : Int))] [] := by
    intro N
    induction N with
    | zero => intro p _ _ hN; exact absurd hN (Nat.not_lt_zero _)
    | succ N ih2 =>
      intro p h2 h3 hN
      refine M.run 2 (pc' := 5) (lv' := [some (vi ((b : Nat) : Int)), some (vi ((s : Nat) : Int)), some (vi ((p : Nat) : Int))]) (st' := [vi 30, vi ((p : Nat) : Int)]) rfl ?_
      refine M.icmp_ge (tgt := 22) rfl (qI (by omega)) (qI (by decide)) (by decide) (fun h5 => ?_) (fun h5 => ?_)
      · skip
        refine M.run 1 (pc' := 23) (lv' := [some (vi ((b : Nat) : Int)), some (vi ((s : Nat) : Int)), some (vi ((p : Nat) : Int))]) (st' := [vi ((p : Nat) : Int)]) rfl ?_
        exact M.iret rfl (Nat.zero_le _) (Nat.zero_le _) ⟨by congr 3; first | (rw [bNx_e (by omega)] at h3; omega) | (rw [bNx_s (by omega), h13] at h3; simpa using h3), rfl⟩
      · skip
        refine M.run 2 (pc' := 10) (lv' := [some (vi ((b : Nat) : Int)), some (vi ((s : Nat) : Int)), some (vi ((p : Nat) : Int))]) (st' := [vi ((p : Nat) : Int), vi ((b : Nat) : Int)]) rfl ?_
        refine M.callS (kX11_has l G b (by omega) p (by omega)) cs_X11_62 cd_X11_has rfl (st := []) rfl (by decide) (by decide) rfl (Nat.zero_le _) (Nat.zero_le _) trivial (fun r1 w2 q3 => ?_)
        rw [q3.1, q3.2]
        refine M.if_ne (tgt := 22) rfl (inI_zb _) (by decide) (fun h13 => ?_) (fun h13 => ?_)
        · skip
          replace h13 := zb_t h13
          refine M.run 1 (pc' := 23) (lv' := [some (vi ((b : Nat) : Int)), some (vi ((s : Nat) : Int)), some (vi ((p : Nat) : Int))]) (st' := [vi ((p : Nat) : Int)]) rfl ?_
          exact M.iret rfl (Nat.zero_le _) (Nat.zero_le _) ⟨by congr 3; first | (rw [bNx_e (by omega)] at h3; omega) | (rw [bNx_s (by omega), h13] at h3; simpa using h3), rfl⟩
        · skip
          replace h13 := zb_f0 h13
          refine M.run 2 (pc' := 2) (lv' := [some (vi ((b : Nat) : Int)), some (vi ((s : Nat) : Int)), some (vi (((p : Nat) : Int) + 1))]) (st' := []) rfl ?_
          exact ih2 (p + 1) (by omega) (by rw [← h3, bNx_s (b := b) (p := p) (by omega), h13]; rfl) (by omega)
  exact Lp2 _ s (by omega) rfl (Nat.lt_succ_self _)
set_option maxHeartbeats 4000000 in
set_option maxRecDepth 100000 in
theorem kX11_endFrom (l : Launch) (G : GT) (b : Nat) (hb : b < 1073741824) (s : Nat) (hs : s ≤ 30) : Ctr l G yX11_endFrom cX11_endFrom 3 ((Option.some Jvm.ClassFile.FieldType.int)) 2 0 0 [vi ((b : Nat) : Int), vi ((s : Nat) : Int)] (fun w => True) (fun w r w' => r = some (vi ((bEd b s : Nat) : Int)) ∧ w' = w) := by
  refine Ctr.of (t := tX11_endFrom) (lv0 := [some (vi ((b : Nat) : Int)), some (vi ((s : Nat) : Int)), none]) (by decide +kernel) tX11_endFrom_ok rfl rfl (fun w g hP M => ?_)
  refine M.run 2 (pc' := 2) (lv' := [some (vi ((b : Nat) : Int)), some (vi ((s : Nat) : Int)), some (vi ((s : Nat) : Int))]) (st' := []) rfl ?_
  have Lp2 : ∀ (N : Nat) (p : Nat), (p ≤ 30) → (bEd b p = bEd b s) → 30 - p < N → g 0 0 w 2 [some (vi ((b : Nat) : Int)), some (vi ((s : Nat) : Int)), some (vi ((p : Nat) : Int))] [] := by
    intro N
    induction N with
    | zero => intro p _ _ hN; exact absurd hN (Nat.not_lt_zero _)
    | succ N ih2 =>
      intro p h2 h3 hN
      refine M.run 2 (pc' := 5) (lv' := [some (vi ((b : Nat) : Int)), some (vi ((s : Nat) : Int)), some (vi ((p : Nat) : Int))]) (st' := [vi 30, vi ((p : Nat) : Int)]) rfl ?_
      refine M.icmp_ge (tgt := 22) rfl (qI (by omega)) (qI (by decide)) (by decide) (fun h5 => ?_) (fun h5 => ?_)
      · skip
        refine M.run 1 (pc' := 23) (lv' := [some (vi ((b : Nat) : Int)), some (vi ((s : Nat) : Int)), some (vi ((p : Nat) : Int))]) (st' := [vi ((p : Nat) : Int)]) rfl ?_
        exact M.iret rfl (Nat.zero_le _) (Nat.zero_le _) ⟨by congr 3; first | (rw [bEd_e (by omega)] at h3; omega) | (rw [bEd_s (by omega), h13] at h3; simpa using h3), rfl⟩
      · skip
        refine M.run 2 (pc' := 10) (lv' := [some (vi ((b : Nat) : Int)), some (vi ((s : Nat) : Int)), some (vi ((p : Nat) : Int))]) (st' := [vi ((p : Nat) : Int), vi ((b : Nat) : Int)]) rfl ?_
        refine M.callS (kX11_has l G b (by omega) p (by omega)) cs_X11_62 cd_X11_has rfl (st := []) rfl (by decide) (by decide) rfl (Nat.zero_le _) (Nat.zero_le _) trivial (fun r1 w2 q3 => ?_)
        rw [q3.1, q3.2]
        refine M.if_eq (tgt := 22) rfl (inI_zb _) (by decide) (fun h13 => ?_) (fun h13 => ?_)
        · skip
          replace h13 := zb_f0 h13
          refine M.run 1 (pc' := 23) (lv' := [some (vi ((b : Nat) : Int)), some (vi ((s : Nat) : Int)), some (vi ((p : Nat) : Int))]) (st' := [vi ((p : Nat) : Int)]) rfl ?_
          exact M.iret rfl (Nat.zero_le _) (Nat.zero_le _) ⟨by congr 3; first | (rw [bEd_e (by omega)] at h3; omega) | (rw [bEd_s (by omega), h13] at h3; simpa using h3), rfl⟩
        · skip
          replace h13 := zb_t h13
          refine M.run 2 (pc' := 2) (lv' := [some (vi ((b : Nat) : Int)), some (vi ((s : Nat) : Int)), some (vi (((p : Nat) : Int) + 1))]) (st' := []) rfl ?_
          exact ih2 (p + 1) (by omega) (by rw [← h3, bEd_s (b := b) (p := p) (by omega), h13]; rfl) (by omega)
  exact Lp2 _ s (by omega) rfl (Nat.lt_succ_self _)
