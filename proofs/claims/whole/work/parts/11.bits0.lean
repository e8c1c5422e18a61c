set_option maxHeartbeats 4000000 in
set_option maxRecDepth 100000 in
theorem kX0_fits (l : Launch) (G : GT) (x : Int) (hx : inI x) : Ctr l G yX0_fits cX0_fits 1 ((Option.some Jvm.ClassFile.FieldType.boolean)) 1 0 0 [vi x] (fun w => True) (fun w r w' => r = some (vi (if 0 ≤ x ∧ x ≤ 1073741823 then 1 else 0)) ∧ w' = w) := by
  refine Ctr.of (t := tX0_fits) (lv0 := [some (vi x)]) (by decide +kernel) tX0_fits_ok rfl rfl (fun w g hP M => ?_)
  refine M.run 1 (pc' := 1) (lv' := [some (vi x)]) (st' := [vi x]) rfl ?_
  refine M.if_lt (tgt := 14) rfl (qI (by have := hx.1; have := hx.2; omega)) (by decide) (fun h1 => ?_) (fun h1 => ?_)
  · skip
    refine M.run 1 (pc' := 15) (lv' := [some (vi x)]) (st' := [vi 0]) rfl ?_
    exact M.zret rfl (Or.inl rfl) (Nat.zero_le _) (Nat.zero_le _) ⟨by congr 2; first | (rw [if_pos (by omega)]) | (rw [if_neg (by omega)]), rfl⟩
  · skip
    refine M.run 1 (pc' := 5) (lv' := [some (vi x)]) (st' := [vi x]) rfl ?_
    refine M.ldc (x := 1073741823) kc_X0_9 rfl rfl ?_
    refine M.icmp_gt (tgt := 14) rfl (qI (by have := hx.1; have := hx.2; omega)) (qI (by decide)) (by decide) (fun h7 => ?_) (fun h7 => ?_)
    · skip
      refine M.run 1 (pc' := 15) (lv' := [some (vi x)]) (st' := [vi 0]) rfl ?_
      exact M.zret rfl (Or.inl rfl) (Nat.zero_le _) (Nat.zero_le _) ⟨by congr 2; first | (rw [if_pos (by omega)]) | (rw [if_neg (by omega)]), rfl⟩
    · skip
      refine M.run 2 (pc' := 15) (lv' := [some (vi x)]) (st' := [vi 1]) rfl ?_
      exact M.zret rfl (Or.inr rfl) (Nat.zero_le _) (Nat.zero_le _) ⟨by congr 2; first | (rw [if_pos (by omega)]) | (rw [if_neg (by omega)]), rfl⟩
set_option maxHeartbeats 4000000 in
set_option maxRecDepth 100000 in
theorem kX0_first (l : Launch) (G : GT) (n : Nat) (hn : n ≤ 30) : Ctr l G yX0_first cX0_first 1 ((Option.some Jvm.ClassFile.FieldType.int)) 1 0 0 [vi ((n : Nat) : Int)] (fun w => True) (fun w r w' => r = some (vi ((bFs n : Nat) : Int)) ∧ w' = w) := by
  refine Ctr.of (t := tX0_first) (lv0 := [some (vi ((n : Nat) : Int))]) (by decide +kernel) tX0_first_ok rfl rfl (fun w g hP M => ?_)
  refine M.run 1 (pc' := 1) (lv' := [some (vi ((n : Nat) : Int))]) (st' := [vi ((n : Nat) : Int)]) rfl ?_
  refine M.if_gt (tgt := 6) rfl (qI (by omega)) (by decide) (fun h1 => ?_) (fun h1 => ?_)
  · skip
    refine M.run 2 (pc' := 9) (lv' := [some (vi ((n : Nat) : Int))]) (st' := [vi 30, vi ((n : Nat) : Int)]) rfl ?_
    refine M.icmp_lt (tgt := 17) rfl (qI (by omega)) (qI (by decide)) (by decide) (fun h9 => ?_) (fun h9 => ?_)
    · skip
      refine M.run 2 (pc' := 19) (lv' := [some (vi ((n : Nat) : Int))]) (st' := [vi ((n : Nat) : Int), vi 1]) rfl ?_
      refine M.ishl (b1 := 1) (b2 := n) rfl (by omega) ?_
      refine M.run 2 (pc' := 22) (lv' := [some (vi ((n : Nat) : Int))]) (st' := [vi (((1 <<< n : Nat) : Int) - 1)]) rfl ?_
      exact M.iret rfl (Nat.zero_le _) (Nat.zero_le _) ⟨by first | (rw [show n = 30 by omega]; rfl) | (congr 2; unfold bFs; rw [Nat.one_shiftLeft]; have := Nat.one_le_two_pow (n := n); omega), rfl⟩
    · skip
      refine M.ldc (x := 1073741823) kc_X0_9 rfl rfl ?_
      refine M.run 1 (pc' := 22) (lv' := [some (vi ((n : Nat) : Int))]) (st' := [vi 1073741823]) rfl ?_
      exact M.iret rfl (Nat.zero_le _) (Nat.zero_le _) ⟨by first | (rw [show n = 30 by omega]; rfl) | (congr 2; unfold bFs; rw [Nat.one_shiftLeft]; have := Nat.one_le_two_pow (n := n); omega), rfl⟩
  · skip
    refine M.run 1 (pc' := 5) (lv' := [some (vi ((n : Nat) : Int))]) (st' := [vi 0]) rfl ?_
    exact M.iret rfl (Nat.zero_le _) (Nat.zero_le _) ⟨by rw [show n = 0 by omega]; rfl, rfl⟩
set_option maxHeartbeats 4000000 in
set_option maxRecDepth 100000 in
theorem kX0_nextFrom (l : Launch) (G : GT) (b : Nat) (hb : b < 1073741824) (s : Nat) (hs : s ≤ 30) : Ctr l G yX0_nextFrom cX0_nextFrom 3 ((Option.some Jvm.ClassFile.FieldType.int)) 2 0 0 [vi ((b : Nat) : Int), vi ((s : Nat) : Int)] (fun w => True) (fun w r w' => r = some (vi (if bNx b s < 30 then ((bNx b s : Nat) : Int) else -1)) ∧ w' = w) := by
  refine Ctr.of (t := tX0_nextFrom) (lv0 := [some (vi ((b : Nat) : Int)), some (vi ((s : Nat) : Int)), none]) (by decide +kernel) tX0_nextFrom_ok rfl rfl (fun w g hP M => ?_)
  refine M.run 2 (pc' := 2) (lv' := [some (vi ((b : Nat) : Int)), some (vi ((s : Nat) : Int)), none]) (st' := [vi ((s : Nat) : Int), vi 0]) rfl ?_
  refine M.mmax cs_X0_16 rfl (qI (by decide)) (qI (by omega)) (by decide) (Nat.zero_le _) (Nat.zero_le _) rfl ?_
  rw [show max (0 : Int) ((s : Nat) : Int) = ((s : Nat) : Int) by omega]
  refine M.run 1 (pc' := 6) (lv' := [some (vi ((b : Nat) : Int)), some (vi ((s : Nat) : Int)), some (vi ((s : Nat) : Int))]) (st' := []) rfl ?_
  have Lp6 : ∀ (N : Nat) (p : Int), (0 ≤ p) → (p ≤ 30) → (bNx b p.toNat = bNx b s) → (30 - p).toNat < N → g 0 0 w 6 [some (vi ((b : Nat) : Int)), some (vi ((s : Nat) : Int)), some (vi p)] [] := by
    intro N
    induction N with
    | zero => intro p _ _ _ hN; exact absurd hN (Nat.not_lt_zero _)
    | succ N ih6 =>
      intro p h1 h2 h3 hN
      refine M.run 2 (pc' := 9) (lv' := [some (vi ((b : Nat) : Int)), some (vi ((s : Nat) : Int)), some (vi p)]) (st' := [vi 30, vi p]) rfl ?_
      refine M.icmp_ge (tgt := 29) rfl (qI (by omega)) (qI (by decide)) (by decide) (fun h9 => ?_) (fun h9 => ?_)
      · skip
        refine M.run 1 (pc' := 30) (lv' := [some (vi ((b : Nat) : Int)), some (vi ((s : Nat) : Int)), some (vi p)]) (st' := [vi (-1)]) rfl ?_
        exact M.iret rfl (Nat.zero_le _) (Nat.zero_le _) ⟨by rw [bNx_e (by omega)] at h3; rw [if_neg (by omega)], rfl⟩
      · skip
        obtain ⟨q, rfl⟩ := Int.eq_ofNat_of_zero_le (show (0 : Int) ≤ p from (by omega))
        refine M.run 2 (pc' := 14) (lv' := [some (vi ((b : Nat) : Int)), some (vi ((s : Nat) : Int)), some (vi ((q : Nat) : Int))]) (st' := [vi ((q : Nat) : Int), vi ((b : Nat) : Int)]) rfl ?_
        refine M.ishr (b1 := b) (b2 := q) rfl (by omega) (by omega) ?_
        have hs1 := Nat.shiftRight_le b q
        refine M.run 1 (pc' := 16) (lv' := [some (vi ((b : Nat) : Int)), some (vi ((s : Nat) : Int)), some (vi ((q : Nat) : Int))]) (st' := [vi 1, vi ((b >>> q : Nat) : Int)]) rfl ?_
        refine M.iand (b1 := b >>> q) (b2 := 1) rfl (by omega) (by omega) ?_
        have hl2 := Nat.and_le_left (n := b >>> q) (m := 1)
        have hr3 := Nat.and_le_right (n := b >>> q) (m := 1)
        refine M.run 1 (pc' := 18) (lv' := [some (vi ((b : Nat) : Int)), some (vi ((s : Nat) : Int)), some (vi ((q : Nat) : Int))]) (st' := [vi 1, vi (((b >>> q) &&& 1 : Nat) : Int)]) rfl ?_
        refine M.icmp_ne (tgt := 23) rfl (qI (by omega)) (qI (by decide)) (by decide) (fun h18 => ?_) (fun h18 => ?_)
        · skip
          refine M.run 2 (pc' := 6) (lv' := [some (vi ((b : Nat) : Int)), some (vi ((s : Nat) : Int)), some (vi (((q : Nat) : Int) + 1))]) (st' := []) rfl ?_
          exact ih6 (((q : Nat) : Int) + 1) (by omega) (by omega) (by rw [← h3, Int.toNat_natCast, show ((q : Int) + 1).toNat = q + 1 by omega]; rw [bNx_s (b := b) (p := q) (by omega), if_neg (by rw [Bool.not_eq_true]; exact (bit_and1n b q).mp (by omega))]) (by omega)
        · skip
          refine M.run 1 (pc' := 22) (lv' := [some (vi ((b : Nat) : Int)), some (vi ((s : Nat) : Int)), some (vi ((q : Nat) : Int))]) (st' := [vi ((q : Nat) : Int)]) rfl ?_
          exact M.iret rfl (Nat.zero_le _) (Nat.zero_le _) ⟨by rw [Int.toNat_natCast, bNx_s (by omega), if_pos ((bit_and1 b q).mp (by omega))] at h3; rw [← h3, if_pos (by omega)], rfl⟩
  exact Lp6 _ ((s : Nat) : Int) (by omega) (by omega) rfl (Nat.lt_succ_self _)
