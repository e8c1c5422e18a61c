def fd5 (f : Nat → Int) (t : Nat) (x1 x2 x3 x4 x5 : Int) : Nat → Int := fo4 (fo4 (fo4 (fo4 (fo4 f t x1) (t + 4) x2) (t + 8) x3) (t + 12) x4) (t + 16) x5
theorem uN_uN {f : Nat → Int} {k : Nat} {v w : Int} : uN (uN f k v) k w = uN f k w := by
  funext j
  unfold uN
  split <;> rfl
/-- the image tells what is told, a state and its steps -/
def Im (b : Nat → Nat → Int) (tl : Nat → Int) (D : Dy) (L : List Dy) : Prop := Rp (b 1) D ∧ TE tl (b 1) ∧ Rg (b 1) L
theorem Rg_ext2 {n : Int} {a b : Nat → Int} {L : List Dy} (hL : Lok n L) (h : ∀ k : Nat, k < 30042 → b k = a k) (hg : Rg a L) : Rg b L := by
  obtain ⟨g1, g2, g3, g4⟩ := hg
  refine ⟨by rw [h 3 (by decide)]; exact g1, g2, by rw [h 5 (by decide)]; exact g3, fun i hi => ?_⟩
  refine Rp_ext (hL _ (gY_mem hi)).1 (fun k k1 k2 => ?_) (g4 i hi)
  unfold svR
  rw [h 5 (by decide), h _ (by omega)]
theorem Im_of {n : Int} {a : Nat → Int} {b : Nat → Nat → Int} {tl : Nat → Int} {D : Dy} {L : List Dy} (hd : Dok n D) (hL : Lok n L) (h : ∀ k : Nat, k < 30042 → b 1 k = a k) (hR : Rp a D) (hT : TE tl a) (hg : Rg a L) : Im b tl D L :=
  ⟨Rp_ext hd (fun k k1 k2 => h k (by omega)) hR, ⟨fun k k1 k2 k3 => (h k (by omega)).trans (hT.1 k k1 k2 k3), fun k k1 k2 => (h k (by omega)).trans (hT.2 k k1 k2)⟩, Rg_ext2 hL h hg⟩
theorem TE_Fr {tl a0 a : Nat → Int} (h : TE tl a0) (hF : Fr a0 a) : TE tl a := ⟨fun k k1 k2 k3 => (hF k (Or.inl k1)).trans (h.1 k k1 k2 k3), fun k k1 k2 => (hF k (Or.inr k1)).trans (h.2 k k1 k2)⟩
theorem Rg_Fr {a0 a : Nat → Int} {L : List Dy} (h : Rg a0 L) (hF : Fr a0 a) : Rg a L := Rg_ext (fun k hk => hF k (by omega)) h

set_option maxHeartbeats 4000000 in
set_option maxRecDepth 100000 in
theorem kX11_feed (l : Launch) (G : GT) (o : Nat) (am : Nat → Nat) (u a : Nat → Int) (b : Nat → Nat → Int) (x1 : Int) (x2 : Int) (x3 : Int) (x4 : Int) (x5 : Int) (hx1 : -2147483648 ≤ x1 ∧ x1 ≤ 2147483647) (hx2 : -2147483648 ≤ x2 ∧ x2 ≤ 2147483647) (hx3 : -2147483648 ≤ x3 ∧ x3 ≤ 2147483647) (hx4 : -2147483648 ≤ x4 ∧ x4 ≤ 2147483647) (hx5 : -2147483648 ≤ x5 ∧ x5 ≤ 2147483647) (t : Nat) (hu4 : u 4 = ((t : Nat) : Int)) (ht : t ≤ 300) : Ctr l G yX11_feed cX11_feed 6 ((Option.some Jvm.ClassFile.FieldType.int)) 2 0 0 [vr o, vi x1, vi x2, vi x3, vi x4, vi x5] (fun w => isM o am u a b w) (fun w r w' => r = some (vi (if t + 20 ≤ 300 then ((t + 20 : Nat) : Int) else -1)) ∧ isM o am (if t + 20 ≤ 300 then uN u 4 ((t + 20 : Nat) : Int) else u) a (if t + 20 ≤ 300 then uB b 3 (fd5 (b 3) t x1 x2 x3 x4 x5) else b) w') := by
  refine Ctr.of (t := tX11_feed) (lv0 := [some (vr o), some (vi x1), some (vi x2), some (vi x3), some (vi x4), some (vi x5)]) (by decide +kernel) tX11_feed_ok rfl rfl (fun w g hP M => ?_)
  have hM := hP
  refine M.run 1 (pc' := 1) (lv' := [some (vr o), some (vi x1), some (vi x2), some (vi x3), some (vi x4), some (vi x5)]) (st' := [vr o]) rfl ?_
  refine M.get fl_X11_75 rfl (isM_o hM) (kf := 4) (v := vi (u 4)) rfl ?_
  refine M.run 3 (pc' := 10) (lv' := [some (vr o), some (vi x1), some (vi x2), some (vi x3), some (vi x4), some (vi x5)]) (st' := [vi 300, vi ((u 4) + 20)]) rfl ?_
  refine M.icmp_le (tgt := 15) rfl (qI (by omega)) (qI (by decide)) (by decide) (fun h10 => ?_) (fun h10 => ?_)
  · skip
    refine M.run 2 (pc' := 17) (lv' := [some (vr o), some (vi x1), some (vi x2), some (vi x3), some (vi x4), some (vi x5)]) (st' := [vi x1, vr o]) rfl ?_
    refine M.callV (kX11_four l G o am u a b x1 (by omega) t hu4 (by omega)) cv_X11_78 cd_X11_four rfl (st := []) rfl (isM_o hM) (by decide) (by decide) rfl (Nat.zero_le _) (Nat.zero_le _) hM (fun r2 w3 q4 => ?_)
    obtain ⟨q4r, hM1⟩ := q4
    rw [q4r]
    refine M.run 2 (pc' := 22) (lv' := [some (vr o), some (vi x1), some (vi x2), some (vi x3), some (vi x4), some (vi x5)]) (st' := [vi x2, vr o]) rfl ?_
    refine M.callV (kX11_four l G o am (uN u 4 (((t + 4 : Nat)) : Int)) a (uB b 3 (fo4 (b 3) t x1)) x2 (by omega) (t + 4) (uN_s _ _ _) (by omega)) cv_X11_78 cd_X11_four rfl (st := []) rfl (isM_o hM1) (by decide) (by decide) rfl (Nat.zero_le _) (Nat.zero_le _) hM1 (fun r7 w8 q9 => ?_)
    obtain ⟨q9r, hM6⟩ := q9
    rw [q9r]
    refine M.run 2 (pc' := 27) (lv' := [some (vr o), some (vi x1), some (vi x2), some (vi x3), some (vi x4), some (vi x5)]) (st' := [vi x3, vr o]) rfl ?_
    refine M.callV (kX11_four l G o am (uN (uN u 4 (((t + 4 : Nat)) : Int)) 4 ((((t + 4) + 4 : Nat)) : Int)) a (uB (uB b 3 (fo4 (b 3) t x1)) 3 (fo4 ((uB b 3 (fo4 (b 3) t x1)) 3) (t + 4) x2)) x3 (by omega) (t + 8) (uN_s _ _ _) (by omega)) cv_X11_78 cd_X11_four rfl (st := []) rfl (isM_o hM6) (by decide) (by decide) rfl (Nat.zero_le _) (Nat.zero_le _) hM6 (fun r12 w13 q14 => ?_)
    obtain ⟨q14r, hM11⟩ := q14
    rw [q14r]
    refine M.run 2 (pc' := 33) (lv' := [some (vr o), some (vi x1), some (vi x2), some (vi x3), some (vi x4), some (vi x5)]) (st' := [vi x4, vr o]) rfl ?_
    refine M.callV (kX11_four l G o am (uN (uN (uN u 4 (((t + 4 : Nat)) : Int)) 4 ((((t + 4) + 4 : Nat)) : Int)) 4 ((((t + 8) + 4 : Nat)) : Int)) a (uB (uB (uB b 3 (fo4 (b 3) t x1)) 3 (fo4 ((uB b 3 (fo4 (b 3) t x1)) 3) (t + 4) x2)) 3 (fo4 ((uB (uB b 3 (fo4 (b 3) t x1)) 3 (fo4 ((uB b 3 (fo4 (b 3) t x1)) 3) (t + 4) x2)) 3) (t + 8) x3)) x4 (by omega) (t + 12) (uN_s _ _ _) (by omega)) cv_X11_78 cd_X11_four rfl (st := []) rfl (isM_o hM11) (by decide) (by decide) rfl (Nat.zero_le _) (Nat.zero_le _) hM11 (fun r17 w18 q19 => ?_)
    obtain ⟨q19r, hM16⟩ := q19
    rw [q19r]
    refine M.run 2 (pc' := 39) (lv' := [some (vr o), some (vi x1), some (vi x2), some (vi x3), some (vi x4), some (vi x5)]) (st' := [vi x5, vr o]) rfl ?_
    refine M.callV (kX11_four l G o am (uN (uN (uN (uN u 4 (((t + 4 : Nat)) : Int)) 4 ((((t + 4) + 4 : Nat)) : Int)) 4 ((((t + 8) + 4 : Nat)) : Int)) 4 ((((t + 12) + 4 : Nat)) : Int)) a (uB (uB (uB (uB b 3 (fo4 (b 3) t x1)) 3 (fo4 ((uB b 3 (fo4 (b 3) t x1)) 3) (t + 4) x2)) 3 (fo4 ((uB (uB b 3 (fo4 (b 3) t x1)) 3 (fo4 ((uB b 3 (fo4 (b 3) t x1)) 3) (t + 4) x2)) 3) (t + 8) x3)) 3 (fo4 ((uB (uB (uB b 3 (fo4 (b 3) t x1)) 3 (fo4 ((uB b 3 (fo4 (b 3) t x1)) 3) (t + 4) x2)) 3 (fo4 ((uB (uB b 3 (fo4 (b 3) t x1)) 3 (fo4 ((uB b 3 (fo4 (b 3) t x1)) 3) (t + 4) x2)) 3) (t + 8) x3)) 3) (t + 12) x4)) x5 (by omega) (t + 16) (uN_s _ _ _) (by omega)) cv_X11_78 cd_X11_four rfl (st := []) rfl (isM_o hM16) (by decide) (by decide) rfl (Nat.zero_le _) (Nat.zero_le _) hM16 (fun r22 w23 q24 => ?_)
    obtain ⟨q24r, hM21⟩ := q24
    rw [q24r]
    refine M.run 1 (pc' := 43) (lv' := [some (vr o), some (vi x1), some (vi x2), some (vi x3), some (vi x4), some (vi x5)]) (st' := [vr o]) rfl ?_
    refine M.get fl_X11_75 rfl (isM_o hM21) (kf := 4) (v := vi ((((t + 16) + 4 : Nat)) : Int)) rfl ?_
    exact M.iret rfl (Nat.zero_le _) (Nat.zero_le _) ⟨reI (by rw [if_pos (by omega)]), by
        rw [if_pos (by omega), if_pos (by omega)]
        have hMu := hM21
        simp only [uN_uN, uB_uB] at hMu
        exact hMu⟩
  · skip
    refine M.run 1 (pc' := 14) (lv' := [some (vr o), some (vi x1), some (vi x2), some (vi x3), some (vi x4), some (vi x5)]) (st' := [vi (-1)]) rfl ?_
    exact M.iret rfl (Nat.zero_le _) (Nat.zero_le _) ⟨reI (if_neg (by omega)).symm, by rw [if_neg (by omega), if_neg (by omega)]; exact hM⟩
set_option maxHeartbeats 4000000 in
set_option maxRecDepth 100000 in
theorem kX11_end (l : Launch) (G : GT) (o : Nat) (am : Nat → Nat) (u a : Nat → Int) (b : Nat → Nat → Int) (x : Int) (hx : -2147483648 ≤ x ∧ x ≤ 2147483647) (t : Nat) (hu4 : u 4 = ((t : Nat) : Int)) (ht : t ≤ 300) : Ctr l G yX11_end cX11_end 2 ((Option.some Jvm.ClassFile.FieldType.int)) 2 0 0 [vr o, vi x] (fun w => isM o am u a b w) (fun w r w' => r = some (vi (if 0 ≤ x ∧ x ≤ ((t : Nat) : Int) then x else -1)) ∧ isM o am (if 0 ≤ x ∧ x ≤ ((t : Nat) : Int) then uN u 4 x else u) a b w') := by
  refine Ctr.of (t := tX11_end) (lv0 := [some (vr o), some (vi x)]) (by decide +kernel) tX11_end_ok rfl rfl (fun w g hP M => ?_)
  have hM := hP
  refine M.run 3 (pc' := 3) (lv' := [some (vr o), some (vi x)]) (st' := [vr o, vi 0, vi x]) rfl ?_
  refine M.get fl_X11_75 rfl (isM_o hM) (kf := 4) (v := vi (u 4)) rfl ?_
  rw [show u 4 = ((t : Nat) : Int) from hu4]
  refine M.callS (kX11_isIn l G x 0 ((t : Nat) : Int) (qI (by omega)) (qI (by omega)) (qI (by omega))) cs_X11_50 cd_X11_isIn rfl (st := []) rfl (by decide) (by decide) rfl (Nat.zero_le _) (Nat.zero_le _) trivial (fun r1 w2 q3 => ?_)
  rw [q3.1, q3.2]
  refine M.if_ne (tgt := 14) rfl (inI_zb _) (by decide) (fun h9 => ?_) (fun h9 => ?_)
  · skip
    replace h9 := zb_td h9
    refine M.run 2 (pc' := 16) (lv' := [some (vr o), some (vi x)]) (st' := [vi x, vr o]) rfl ?_
    refine M.put fl_X11_75 rfl (isM_o hM) rfl rfl (Nat.le_of_ble_eq_true rfl) ?_
    have hM6 := isM_setU (u' := uN u 4 x) (fs := (Mf am u).set 4 (vi x)) hM rfl
    generalize up w o (Ob 10 ((Mf am u).set 4 (vi x))) = w5 at hM6 ⊢
    refine M.run 1 (pc' := 20) (lv' := [some (vr o), some (vi x)]) (st' := [vi x]) rfl ?_
    exact M.iret rfl (Nat.zero_le _) (Nat.zero_le _) ⟨reI (if_pos h9).symm, by rw [if_pos h9]; exact hM6⟩
  · skip
    replace h9 := zb_fd h9
    refine M.run 1 (pc' := 13) (lv' := [some (vr o), some (vi x)]) (st' := [vi (-1)]) rfl ?_
    exact M.iret rfl (Nat.zero_le _) (Nat.zero_le _) ⟨reI (if_neg h9).symm, by rw [if_neg h9]; exact hM⟩
set_option maxHeartbeats 4000000 in
set_option maxRecDepth 100000 in
theorem kX11_copyI (l : Launch) (G : GT) (o : Nat) (am : Nat → Nat) (u a : Nat → Int) (b : Nat → Nat → Int)  : Ctr l G yX11_copy cX11_copy 3 ((Option.none : Option Jvm.ClassFile.FieldType)) 1 0 0 [vr (am 0), vr (am 1)] (fun w => isM o am u a b w) (fun w r w' => r = none ∧ ∃ f, isM o am u a (uB b 1 f) w' ∧ ∀ q : Nat, q < 30042 → f q = a q) := by
  refine Ctr.of (t := tX11_copy) (lv0 := [some (vr (am 0)), some (vr (am 1)), none]) (by decide +kernel) tX11_copy_ok rfl rfl (fun w g hP M => ?_)
  have hM := hP
  refine M.run 2 (pc' := 2) (lv' := [some (vr (am 0)), some (vr (am 1)), some (vi 0)]) (st' := []) rfl ?_
  have Lp2 : ∀ (N : Nat) (f : Nat → Int) (ww : Wo) (k : Nat), (isM o am u a (uB b 1 f) ww) → (∀ q : Nat, q < k → f q = a q) → (k ≤ 30042) → 30042 - k < N → g 0 0 ww 2 [some (vr (am 0)), some (vr (am 1)), some (vi ((k : Nat) : Int))] [] := by
    intro N
    induction N with
    | zero => intro f ww k _ _ _ hN; exact absurd hN (Nat.not_lt_zero _)
    | succ N ih2 =>
      intro f ww k hMf hcp hk hN
      refine M.run 2 (pc' := 6) (lv' := [some (vr (am 0)), some (vr (am 1)), some (vi ((k : Nat) : Int))]) (st' := [vi 30042, vi ((k : Nat) : Int)]) rfl ?_
      refine M.icmp_ge (tgt := 21) rfl (qI (by omega)) (qI (by decide)) (by decide) (fun h6 => ?_) (fun h6 => ?_)
      · skip
        exact M.vret rfl (Nat.zero_le _) (Nat.zero_le _) ⟨rfl, f, hMf, fun q hq => hcp q (by omega)⟩
      · skip
        refine M.run 4 (pc' := 13) (lv' := [some (vr (am 0)), some (vr (am 1)), some (vi ((k : Nat) : Int))]) (st' := [vi ((k : Nat) : Int), vr (am 0), vi ((k : Nat) : Int), vr (am 1)]) rfl ?_
        refine M.ialdN (k) rfl (isM_a hMf) (by omega) (by decide) ?_
        refine M.iastN (k) rfl (show lk ww (am 1) = some (Ar 0 30042 f) from isM_1 hMf) (by omega) (by decide) ?_
        have hM2 := isM_setB (k := 1) (t := 0) (n := 30042) hMf (by decide) (uN f k (a k))
        generalize up ww (am 1) (Ar 0 30042 (uN f k (a k))) = w1 at hM2 ⊢
        refine M.run 2 (pc' := 2) (lv' := [some (vr (am 0)), some (vr (am 1)), some (vi (((k : Nat) : Int) + 1))]) (st' := []) rfl ?_
        exact ih2 (uN f k (a k)) w1 (k + 1) (by rw [← uB_uB]; exact hM2) (fun q hq => by by_cases e : q = k; rw [e, uN_s]; rw [uN_o e]; exact hcp q (by omega)) (by omega) (by omega)
  exact Lp2 _ (b 1) w 0 (by rw [uB_id]; exact hM) (fun q hq => absurd hq (Nat.not_lt_zero _)) (by omega) (Nat.lt_succ_self _)
set_option maxHeartbeats 4000000 in
set_option maxRecDepth 100000 in
theorem kX11_copyB (l : Launch) (G : GT) (o : Nat) (am : Nat → Nat) (u a : Nat → Int) (b : Nat → Nat → Int)  : Ctr l G yX11_copy cX11_copy 3 ((Option.none : Option Jvm.ClassFile.FieldType)) 1 0 0 [vr (am 1), vr (am 0)] (fun w => isM o am u a b w) (fun w r w' => r = none ∧ ∃ f, isM o am u f b w' ∧ ∀ q : Nat, q < 30042 → f q = b 1 q) := by
  refine Ctr.of (t := tX11_copy) (lv0 := [some (vr (am 1)), some (vr (am 0)), none]) (by decide +kernel) tX11_copy_ok rfl rfl (fun w g hP M => ?_)
  have hM := hP
  refine M.run 2 (pc' := 2) (lv' := [some (vr (am 1)), some (vr (am 0)), some (vi 0)]) (st' := []) rfl ?_
  have Lp2 : ∀ (N : Nat) (f : Nat → Int) (ww : Wo) (k : Nat), (isM o am u f b ww) → (∀ q : Nat, q < k → f q = b 1 q) → (k ≤ 30042) → 30042 - k < N → g 0 0 ww 2 [some (vr (am 1)), some (vr (am 0)), some (vi ((k : Nat) : Int))] [] := by
    intro N
    induction N with
    | zero => intro f ww k _ _ _ hN; exact absurd hN (Nat.not_lt_zero _)
    | succ N ih2 =>
      intro f ww k hMf hcp hk hN
      refine M.run 2 (pc' := 6) (lv' := [some (vr (am 1)), some (vr (am 0)), some (vi ((k : Nat) : Int))]) (st' := [vi 30042, vi ((k : Nat) : Int)]) rfl ?_
      refine M.icmp_ge (tgt := 21) rfl (qI (by omega)) (qI (by decide)) (by decide) (fun h6 => ?_) (fun h6 => ?_)
      · skip
        exact M.vret rfl (Nat.zero_le _) (Nat.zero_le _) ⟨rfl, f, hMf, fun q hq => hcp q (by omega)⟩
      · skip
        refine M.run 4 (pc' := 13) (lv' := [some (vr (am 1)), some (vr (am 0)), some (vi ((k : Nat) : Int))]) (st' := [vi ((k : Nat) : Int), vr (am 1), vi ((k : Nat) : Int), vr (am 0)]) rfl ?_
        refine M.ialdN (k) rfl (isM_1 hMf) (by omega) (by decide) ?_
        refine M.iastN (k) rfl (isM_a hMf) (by omega) (by decide) ?_
        have hM2 := isM_setA hMf (uN f k ((b 1) k))
        generalize up ww (am 0) (Ar 0 30042 (uN f k ((b 1) k))) = w1 at hM2 ⊢
        refine M.run 2 (pc' := 2) (lv' := [some (vr (am 1)), some (vr (am 0)), some (vi (((k : Nat) : Int) + 1))]) (st' := []) rfl ?_
        exact ih2 ((uN f k ((b 1) k))) w1 (k + 1) hM2 (fun q hq => by by_cases e : q = k; rw [e, uN_s]; rw [uN_o e]; exact hcp q (by omega)) (by omega) (by omega)
  exact Lp2 _ a w 0 hM (fun q hq => absurd hq (Nat.not_lt_zero _)) (by omega) (Nat.lt_succ_self _)
set_option maxHeartbeats 4000000 in
set_option maxRecDepth 100000 in
theorem vX11_image (l : Launch) (G : GT) (o : Nat) (am : Nat → Nat) (u tl : Nat → Int) (b0 : Nat → Nat → Int) (D : Dy) (L : List Dy) (n : Int) (hT : Tok tl) (hd : Dok n D) (hi : Inv D) (hc9 : D.1 18 ≤ 9999) (hL : Lok n L) (hn : 0 ≤ n ∧ n ≤ 800000000) (hu : u 23 = 0 ∨ u 23 = 1) (X : Nat → Int → Option Gn) (hX : TxOk (b0 2) X (tl 1) ∧ tl 2 < tl 1)  : Ctr l G yX11_image cX11_image 1 ((Option.some Jvm.ClassFile.FieldType.int)) 3 0 0 [vr o] (fun w => isT o am u tl b0 D L w) (fun w r w' => r = some (vi (D.1 18)) ∧ ∃ b1, isT o am u tl b1 D L w' ∧ (∀ k : Nat, k ≠ 1 → b1 k = b0 k) ∧ Im b1 tl D L) := by
  refine Ctr.of (t := tX11_image) (lv0 := [some (vr o)]) (by decide +kernel) tX11_image_ok rfl rfl (fun w g hP M => ?_)
  obtain ⟨a0, ⟨a, b, hM, hR, hF, hB⟩, hTE, hRg⟩ := hP
  have ht : Tok a0 := Tok_R hT hTE hRg
  refine M.run 1 (pc' := 1) (lv' := [some (vr o)]) (st' := [vr o]) rfl ?_
  refine M.get fl_X11_7 rfl (isM_o hM) (kf := 0) (v := vr (am 0)) rfl ?_
  refine M.run 1 (pc' := 5) (lv' := [some (vr o)]) (st' := [vr o, vr (am 0)]) rfl ?_
  refine M.get fl_X11_13 rfl (isM_o hM) (kf := 1) (v := vr (am 1)) rfl ?_
  refine M.callS (kX11_copyI l G o am u a b) cs_X11_46 cd_X11_copy rfl (st := []) rfl (by decide) (by decide) rfl (Nat.zero_le _) (Nat.zero_le _) hM (fun r1 w2 q3 => ?_)
  obtain ⟨q3r, f, hMc, hcf⟩ := q3
  rw [q3r]
  refine M.run 1 (pc' := 12) (lv' := [some (vr o)]) (st' := [vr o]) rfl ?_
  refine M.get fl_X11_7 rfl (isM_o hMc) (kf := 0) (v := vr (am 0)) rfl ?_
  refine M.run 1 (pc' := 17) (lv' := [some (vr o)]) (st' := [vi 18, vr (am 0)]) rfl ?_
  refine M.ialdN (18) rfl (isM_a hMc) (by decide) (by decide) ?_
  rw [show a 18 = D.1 18 from Rp_s hR (k := 18) (by decide) (by decide) (by decide)]
  exact M.iret rfl (Nat.zero_le _) (Nat.zero_le _) ⟨rfl, uB b0 1 f, ⟨a0, ⟨a, _, hMc, hR, hF, fun k k1 k2 k3 => by unfold uB; split; rfl; exact hB k k1 k2 k3⟩, hTE, hRg⟩, fun k hk => if_neg hk, Im_of hd hL (fun k hk => hcf k hk) hR (TE_Fr hTE hF) (Rg_Fr hRg hF)⟩
set_option maxHeartbeats 4000000 in
set_option maxRecDepth 100000 in
theorem vX11_back (l : Launch) (G : GT) (o : Nat) (am : Nat → Nat) (u tl : Nat → Int) (b0 : Nat → Nat → Int) (D : Dy) (L : List Dy) (n : Int) (hT : Tok tl) (hd : Dok n D) (hi : Inv D) (hc9 : D.1 18 ≤ 9999) (hL : Lok n L) (hn : 0 ≤ n ∧ n ≤ 800000000) (hu : u 23 = 0 ∨ u 23 = 1) (X : Nat → Int → Option Gn) (hX : TxOk (b0 2) X (tl 1) ∧ tl 2 < tl 1) (tI : Nat → Int) (DI : Dy) (LI : List Dy) (hdI : Dok n DI) (hLI : Lok n LI) (hI : Im b0 tI DI LI) : Ctr l G yX11_back cX11_back 1 ((Option.some Jvm.ClassFile.FieldType.int)) 3 0 0 [vr o] (fun w => isT o am u tl b0 D L w) (fun w r w' => r = some (vi (DI.1 18)) ∧ isT o am u tI b0 DI LI w') := by
  refine Ctr.of (t := tX11_back) (lv0 := [some (vr o)]) (by decide +kernel) tX11_back_ok rfl rfl (fun w g hP M => ?_)
  obtain ⟨a0, ⟨a, b, hM, hR, hF, hB⟩, hTE, hRg⟩ := hP
  have ht : Tok a0 := Tok_R hT hTE hRg
  refine M.run 1 (pc' := 1) (lv' := [some (vr o)]) (st' := [vr o]) rfl ?_
  refine M.get fl_X11_13 rfl (isM_o hM) (kf := 1) (v := vr (am 1)) rfl ?_
  refine M.run 1 (pc' := 5) (lv' := [some (vr o)]) (st' := [vr o, vr (am 1)]) rfl ?_
  refine M.get fl_X11_7 rfl (isM_o hM) (kf := 0) (v := vr (am 0)) rfl ?_
  refine M.callS (kX11_copyB l G o am u a b) cs_X11_46 cd_X11_copy rfl (st := []) rfl (by decide) (by decide) rfl (Nat.zero_le _) (Nat.zero_le _) hM (fun r1 w2 q3 => ?_)
  obtain ⟨q3r, f, hMc, hcf⟩ := q3
  rw [q3r]
  refine M.run 1 (pc' := 12) (lv' := [some (vr o)]) (st' := [vr o]) rfl ?_
  refine M.get fl_X11_7 rfl (isM_o hMc) (kf := 0) (v := vr (am 0)) rfl ?_
  refine M.run 1 (pc' := 17) (lv' := [some (vr o)]) (st' := [vi 18, vr (am 0)]) rfl ?_
  refine M.ialdN (18) rfl (isM_a hMc) (by decide) (by decide) ?_
  rw [show f 18 = DI.1 18 from (show f 18 = DI.1 18 from by rw [hcf 18 (by decide), hB 1 (by decide) (by decide) (by decide)]; exact Rp_s hI.1 (k := 18) (by decide) (by decide) (by decide))]
  exact M.iret rfl (Nat.zero_le _) (Nat.zero_le _) (by
      have hcf2 : ∀ q : Nat, q < 30042 → f q = b0 1 q := fun q hq => by rw [hcf q hq, hB 1 (by decide) (by decide) (by decide)]
      refine ⟨rfl, f, ⟨f, b, hMc, Rp_ext hdI (fun k k1 k2 => hcf2 k (by omega)) hI.1, fun _ _ => rfl, hB⟩, ⟨fun k k1 k2 k3 => (hcf2 k (by omega)).trans (hI.2.1.1 k k1 k2 k3), fun k k1 k2 => (hcf2 k (by omega)).trans (hI.2.1.2 k k1 k2)⟩, Rg_ext2 hLI hcf2 hI.2.2⟩)
