section QPL
variable {X : Nat → Int → Option Gn} {sure : Int} {f : Nat → Int} {t m k : Nat} {S : TS}
theorem sPlay_s (hm : 0 < m) (h : (sPlay1 X sure f (681 * t + 1 + 3 * k) S).1 = true) : sPlay X sure f t m k S = sPlay X sure f t (m - 1) (k + 1) (sPlay1 X sure f (681 * t + 1 + 3 * k) S).2 := by
  cases m with
  | zero => omega
  | succ m => exact if_pos h
theorem sPlay_f (hm : 0 < m) (h : (sPlay1 X sure f (681 * t + 1 + 3 * k) S).1 = false) : sPlay X sure f t m k S = (((k : Nat) : Int), (sPlay1 X sure f (681 * t + 1 + 3 * k) S).2) := by
  cases m with
  | zero => omega
  | succ m => exact if_neg (by rw [h]; decide)
end QPL
theorem nd8 {x : Nat} : ((x : Nat) : Int).tdiv 8 = ((x / 8 : Nat) : Int) := by rw [Int.tdiv_eq_ediv_of_nonneg (by omega)]; omega
theorem nd16 {x : Nat} : ((x : Nat) : Int).tdiv 16 = ((x / 16 : Nat) : Int) := by rw [Int.tdiv_eq_ediv_of_nonneg (by omega)]; omega
theorem nm3 {x : Nat} : ((x : Nat) : Int).tmod 3 = ((x % 3 : Nat) : Int) := by rw [Int.tmod_eq_emod_of_nonneg (by omega)]; omega
theorem nm2 {x : Nat} : ((x : Nat) : Int).tmod 2 = ((x % 2 : Nat) : Int) := by rw [Int.tmod_eq_emod_of_nonneg (by omega)]; omega
theorem nm8 {x : Nat} : ((x : Nat) : Int).tmod 8 = ((x % 8 : Nat) : Int) := by rw [Int.tmod_eq_emod_of_nonneg (by omega)]; omega
/-- what a draw makes of a state -/
def mHap (X : Nat → Int → Option Gn) (tl : Nat → Int) (sure : Int) (x : Nat) (D : Dy) : Dy :=
  if x % 8 = 0 then if opC tl D ((x / 8 % 3 : Nat) : Int) then mOpen tl (x / 8 % 3) D else D
  else if x % 8 = 1 then if x % 3 = 0 ∧ ((x / 8 % 3 : Nat) : Int) < tl 0 ∧ mCan (x / 8 % 3) (x / 16 % 2) D then mCancel (x / 8 % 3) (x / 16 % 2) D else D
  else if D.1 18 < 9999 then mTick X tl sure D else D
def mYr (X : Nat → Int → Option Gn) (tl : Nat → Int) (sure : Int) : Nat → Dy → Dy
  | 0, D => D
  | k + 1, D => mYr X tl sure k (mHap X tl sure (D.1 19).toNat (mAnew D))
theorem mYr_s {X : Nat → Int → Option Gn} {tl : Nat → Int} {sure : Int} {k : Nat} {D : Dy} (hk : 0 < k) : mYr X tl sure k D = mYr X tl sure (k - 1) (mHap X tl sure (D.1 19).toNat (mAnew D)) := by
  cases k with
  | zero => omega
  | succ k => rfl
section QHP
variable {X : Nat → Int → Option Gn} {tl : Nat → Int} {n sure : Int} {x : Nat} {D : Dy}
theorem mHap_ok (hT : Tok tl) (hd : Dok n D) (hi : Inv D) (h9 : D.1 18 ≤ 9999) : Dok (n + 110) (mHap X tl sure x D) ∧ Inv (mHap X tl sure x D) ∧ (mHap X tl sure x D).1 18 ≤ 9999 := by
  unfold mHap
  split
  · split
    · exact ⟨Dok_mono (by omega) (Dok_open hT hd (by omega)), Inv_open hi, by rw [mOpen_k (by decide)]; exact h9⟩
    · exact ⟨Dok_mono (by omega) hd, hi, h9⟩
  · split
    · split
      · exact ⟨Dok_mono (by omega) (Dok_cancel hd (by omega) (by omega)), Inv_cancel hi, by rw [Kp_cancel.2 18 (by decide)]; exact h9⟩
      · exact ⟨Dok_mono (by omega) hd, hi, h9⟩
    · split
      · have q := hi.1
        exact ⟨Dok_tick hT hd (Inv_38 hi) (by omega) (by omega), Inv_tick hT hi, by rw [mTick_18]; omega⟩
      · exact ⟨Dok_mono (by omega) hd, hi, h9⟩
theorem mAnew_ok (hd : Dok n D) (hi : Inv D) (h9 : D.1 18 ≤ 9999) : Dok n (mAnew D) ∧ Inv (mAnew D) ∧ (mAnew D).1 18 ≤ 9999 := ⟨Dok_anew hd, Inv_S (by decide) hi, by rw [mAn_18]; exact h9⟩
end QHP
abbrev yrC (x y : Int) : Prop := (0 ≤ x ∧ x ≤ 9999) ∧ 1 ≤ y ∧ y ≤ 40
def sYears (X : Nat → Int → Option Gn) (sure x y : Int) (S : TS) : TS := if yrC x y then (S.1, mYr X S.1 sure y.toNat (mS 19 (x * 2 + 491) S.2.1), pushL S.2.2 S.2.1) else S
theorem mYr_ok {X : Nat → Int → Option Gn} {tl : Nat → Int} {sure : Int} (hT : Tok tl) : ∀ (k : Nat) {n : Int} {D : Dy}, Dok n D → Inv D → D.1 18 ≤ 9999 → Dok (n + 110 * k) (mYr X tl sure k D) ∧ Inv (mYr X tl sure k D) ∧ (mYr X tl sure k D).1 18 ≤ 9999
  | 0, n, D, h1, h2, h3 => ⟨Dok_mono (by omega) h1, h2, h3⟩
  | k + 1, n, D, h1, h2, h3 => by
    obtain ⟨g1, g2, g3⟩ := mAnew_ok h1 h2 h3
    obtain ⟨q1, q2, q3⟩ := mHap_ok (X := X) (sure := sure) (x := (D.1 19).toNat) hT g1 g2 g3
    obtain ⟨z1, z2, z3⟩ := mYr_ok (X := X) (sure := sure) hT k q1 q2 q3
    exact ⟨Dok_mono (by omega) z1, z2, z3⟩
theorem TSok_years {X : Nat → Int → Option Gn} {n sure x y : Int} {S : TS} (hs : TSok n S) : TSok (n + 4400) (sYears X sure x y S) := by
  unfold sYears
  split
  · rename_i h
    obtain ⟨h1, h2, h3, h4, h5⟩ := hs
    obtain ⟨z1, z2, z3⟩ := mYr_ok (X := X) (sure := sure) h1 y.toNat (Dok_S (k := 19) (v := x * 2 + 491) h2 (fun _ _ _ => by unfold Shi; (repeat' split) <;> omega)) (Inv_S (by decide) h3) (by rw [mS_o (by decide)]; exact h4)
    exact ⟨h1, Dok_mono (by omega) z1, z2, z3, Lok_mono (by omega) (Lok_push h5 h2 h3 h4)⟩
  · exact TSok_mono (by omega) hs
theorem TSok_play {X : Nat → Int → Option Gn} {sure : Int} {f : Nat → Int} {t : Nat} (hv : ∀ k : Nat, (k : Int) < f (681 * t) → 2 ≤ f (681 * t + 1 + 3 * k) → 0 ≤ f (681 * t + 1 + 3 * k + 1) ∧ f (681 * t + 1 + 3 * k + 1) ≤ 30) : ∀ (m k : Nat) {n : Int} {S : TS}, (m : Int) + k ≤ f (681 * t) → TSok n S → TSok (n + 3400 * m) (sPlay X sure f t m k S).2
  | 0, k, n, S, _, hs => TSok_mono (by omega) hs
  | m + 1, k, n, S, hm, hs => by
    have h1 := TSok_play1 (X := X) (sure := sure) (hv k (by omega)) hs
    unfold sPlay
    split
    · exact TSok_mono (by omega) (TSok_play hv m (k + 1) (by omega) h1)
    · exact TSok_mono (by omega) h1

set_option maxHeartbeats 4000000 in
set_option maxRecDepth 100000 in
theorem vX11_played (l : Launch) (G : GT) (o : Nat) (am : Nat → Nat) (u tl : Nat → Int) (b0 : Nat → Nat → Int) (D : Dy) (L : List Dy) (n : Int) (hT : Tok tl) (hd : Dok n D) (hi : Inv D) (hc9 : D.1 18 ≤ 9999) (hL : Lok n L) (hn : 0 ≤ n ∧ n ≤ 700000000) (hu : u 23 = 0 ∨ u 23 = 1) (X : Nat → Int → Option Gn) (hX : TxOk (b0 2) X (tl 1) ∧ tl 2 < tl 1) (x : Int) (hx : -2147483648 ≤ x ∧ x ≤ 2147483647) : Ctr l G yX11_played cX11_played 3 ((Option.some Jvm.ClassFile.FieldType.int)) 11 0 0 [vr o, vi x] (fun w => isT o am u tl b0 D L w) (fun w r w' => r = some (vi (if 0 ≤ x ∧ x < tl 1 then (sPlay X (u 23) (b0 2) x.toNat (b0 2 (681 * x.toNat)).toNat 0 (tl, D, L)).1 else -2)) ∧ isTS o am u b0 (if 0 ≤ x ∧ x < tl 1 then (sPlay X (u 23) (b0 2) x.toNat (b0 2 (681 * x.toNat)).toNat 0 (tl, D, L)).2 else (tl, D, L)) w') := by
  refine Ctr.of (t := tX11_played) (lv0 := [some (vr o), some (vi x), none]) (by decide +kernel) tX11_played_ok rfl rfl (fun w g hP M => ?_)
  obtain ⟨a0, ⟨a, b, hM, hR, hF, hB⟩, hTE, hRg⟩ := hP
  have ht : Tok a0 := Tok_R hT hTE hRg
  have hk1 : 0 ≤ tl 1 ∧ tl 1 ≤ 4 := hT.1 1 (by decide)
  refine M.run 3 (pc' := 3) (lv' := [some (vr o), some (vi x), none]) (st' := [vr o, vi 0, vi x]) rfl ?_
  refine M.get fl_X11_7 rfl (isM_o hM) (kf := 0) (v := vr (am 0)) rfl ?_
  refine M.run 1 (pc' := 7) (lv' := [some (vr o), some (vi x), none]) (st' := [vi 1, vr (am 0), vi 0, vi x]) rfl ?_
  refine M.ialdN (1) rfl (isM_a hM) (by decide) (by decide) ?_
  rw [show a 1 = tl 1 from (hF 1 (Or.inl (by decide))).trans (hTE.1 1 (by decide) (by decide) (by decide))]
  refine M.run 2 (pc' := 10) (lv' := [some (vr o), some (vi x), none]) (st' := [vi ((tl 1) - 1), vi 0, vi x]) rfl ?_
  refine M.callS (kX11_isIn l G x 0 ((tl 1) - 1) (qI (by omega)) (qI (by omega)) (qI (by omega))) cs_X11_50 cd_X11_isIn rfl (st := []) rfl (by decide) (by decide) rfl (Nat.zero_le _) (Nat.zero_le _) trivial (fun r1 w2 q3 => ?_)
  rw [q3.1, q3.2]
  refine M.if_ne (tgt := 19) rfl (inI_zb _) (by decide) (fun h13 => ?_) (fun h13 => ?_)
  · skip
    replace h13 := zb_td h13
    obtain ⟨t, rfl⟩ := Int.eq_ofNat_of_zero_le (show (0 : Int) ≤ x from h13.1)
    have hcx : 0 ≤ ((t : Nat) : Int) ∧ ((t : Nat) : Int) < tl 1 := by omega
    obtain ⟨hc1, hc2⟩ := (hX.1 t (by omega)).1
    refine M.run 2 (pc' := 21) (lv' := [some (vr o), some (vi ((t : Nat) : Int)), some (vi 0)]) (st' := []) rfl ?_
    have Lp21 : ∀ (N : Nat) (Sx : TS) (k : Nat) (a0 : Nat → Int) (ax : Nat → Int) (bx : Nat → Nat → Int) (wx : Wo), (isM o am u ax bx wx) → (Rp ax Sx.2.1) → (Fr a0 ax) → (Fb b0 bx) → (TE Sx.1 a0) → (Rg a0 Sx.2.2) → (Tok a0) → (Dok (n + 3400 * ((k : Nat) : Int)) Sx.2.1) → (Inv Sx.2.1) → (Sx.2.1.1 18 ≤ 9999) → (Lok (n + 3400 * ((k : Nat) : Int)) Sx.2.2) → (Tok Sx.1) → (sPlay X (u 23) (b0 2) t (b0 2 (681 * t)).toNat 0 (tl, D, L) = sPlay X (u 23) (b0 2) t ((b0 2 (681 * t)).toNat - k) k Sx) → (((k : Nat) : Int) ≤ b0 2 (681 * t)) → (TxOk (b0 2) X (Sx.1 1) ∧ Sx.1 2 < Sx.1 1) → (b0 2 (681 * t)).toNat - k < N → g 0 0 wx 21 [some (vr o), some (vi ((t : Nat) : Int)), some (vi ((k : Nat) : Int))] [] := by
      intro N
      induction N with
      | zero => intro Sx k a0 ax bx wx _ _ _ _ _ _ _ _ _ _ _ _ _ _ _ hN; exact absurd hN (Nat.not_lt_zero _)
      | succ N ih21 =>
        intro Sx k a0 ax bx wx hMx hRx hFx hBx hTE hRg ht hdx hix h9x hLx hTx hI hk hXx hN
        refine M.run 2 (pc' := 23) (lv' := [some (vr o), some (vi ((t : Nat) : Int)), some (vi ((k : Nat) : Int))]) (st' := [vr o, vi ((k : Nat) : Int)]) rfl ?_
        refine M.get fl_X11_16 rfl (isM_o hMx) (kf := 2) (v := vr (am 2)) rfl ?_
        refine M.run 3 (pc' := 31) (lv' := [some (vr o), some (vi ((t : Nat) : Int)), some (vi ((k : Nat) : Int))]) (st' := [vi (681 * ((t : Nat) : Int)), vr (am 2), vi ((k : Nat) : Int)]) rfl ?_
        refine M.ialdN (681 * t) rfl ((isM_2 hMx).trans (congrArg (fun z => some (Ar 0 2724 z)) (hBx 2 (by decide) (by decide) (by decide)))) (by omega) (by decide) ?_
        refine M.icmp_ge (tgt := 61) rfl (qI (by omega)) (qI (by omega)) (by decide) (fun h32 => ?_) (fun h32 => ?_)
        · skip
          refine M.run 1 (pc' := 62) (lv' := [some (vr o), some (vi ((t : Nat) : Int)), some (vi ((k : Nat) : Int))]) (st' := [vi (-1)]) rfl ?_
          exact M.iret rfl (Nat.zero_le _) (Nat.zero_le _) ⟨reI (by rw [if_pos hcx]; show _ = (sPlay X (u 23) (b0 2) t (b0 2 (681 * t)).toNat 0 (tl, D, L)).1; rw [hI, show (b0 2 (681 * t)).toNat - k = 0 by omega]; rfl), by rw [if_pos hcx]; show isTS o am u b0 (sPlay X (u 23) (b0 2) t (b0 2 (681 * t)).toNat 0 (tl, D, L)).2 _; rw [hI, show (b0 2 (681 * t)).toNat - k = 0 by omega]; exact ⟨a0, ⟨_, _, hMx, hRx, hFx, hBx⟩, hTE, hRg⟩⟩
        · skip
          obtain ⟨hps, hpw⟩ := hc2 k (by omega)
          have hpv := fun z => (hpw z).1
          refine M.run 10 (pc' := 47) (lv' := [some (vr o), some (vi ((t : Nat) : Int)), some (vi ((k : Nat) : Int))]) (st' := [vi (((681 * ((t : Nat) : Int)) + 1) + (3 * ((k : Nat) : Int))), vr o]) rfl ?_
          refine M.callV (vX11_isPlayed l G o am u Sx.1 b0 Sx.2.1 Sx.2.2 (n + 3400 * ((k : Nat) : Int)) hTx hdx hix h9x (Lok_mono (by omega) hLx) (by omega) hu X hXx (681 * t + 1 + (3 * k)) (by omega) hps hpw) cv_X11_425 cd_X11_isPlayed rfl (st := []) rfl (isM_o hMx) (by decide) (by decide) rfl (Nat.zero_le _) (Nat.zero_le _) ⟨a0, ⟨_, _, hMx, hRx, hFx, hBx⟩, hTE, hRg⟩ (fun r6 w7 q8 => ?_)
          obtain ⟨q8r, a0, ⟨a5, b5, hM5, hR5, hF5, hB5⟩, hTE, hRg⟩ := q8
          rw [q8r]
          have hS5 : TSok ((n + 3400 * ((k : Nat) : Int)) + 3400) ((sPlay1 X (u 23) (b0 2) (681 * t + 1 + (3 * k)) (Sx.1, Sx.2.1, Sx.2.2)).2) := TSok_play1 hpv ⟨hTx, hdx, hix, h9x, Lok_mono (by omega) hLx⟩
          obtain ⟨hT5, hd5, hi5, h95, hL5⟩ := hS5
          have ht : Tok a0 := Tok_R hT5 hTE hRg
          refine M.if_ne (tgt := 55) rfl (inI_zb _) (by decide) (fun h50 => ?_) (fun h50 => ?_)
          · skip
            replace h50 := zb_t h50
            have h012 : 0 ≤ Sx.1 0 := (hTx.1 0 (by decide)).1
            refine M.run 2 (pc' := 21) (lv' := [some (vr o), some (vi ((t : Nat) : Int)), some (vi (((k : Nat) : Int) + 1))]) (st' := []) rfl ?_
            exact ih21 ((((sPlay1 X (u 23) (b0 2) (681 * t + 1 + (3 * k)) (Sx.1, Sx.2.1, Sx.2.2)).2).1), (((sPlay1 X (u 23) (b0 2) (681 * t + 1 + (3 * k)) (Sx.1, Sx.2.1, Sx.2.2)).2).2.1), (((sPlay1 X (u 23) (b0 2) (681 * t + 1 + (3 * k)) (Sx.1, Sx.2.1, Sx.2.2)).2).2.2)) (k + 1) a0 a5 b5 w7 hM5 hR5 hF5 hB5 hTE hRg ht (Dok_mono (by omega) hd5) hi5 h95 (Lok_mono (by omega) hL5) hT5 (by rw [hI, sPlay_s (by omega) h50, show (b0 2 (681 * t)).toNat - k - 1 = (b0 2 (681 * t)).toNat - (k + 1) by omega]) (by omega) (by show TxOk (b0 2) X ((sPlay1 X (u 23) (b0 2) (681 * t + 1 + 3 * k) Sx).2.1 1) ∧ (sPlay1 X (u 23) (b0 2) (681 * t + 1 + 3 * k) Sx).2.1 2 < (sPlay1 X (u 23) (b0 2) (681 * t + 1 + 3 * k) Sx).2.1 1; rw [sPlay1_12 h012 (Or.inl rfl), sPlay1_12 h012 (Or.inr rfl)]; exact hXx) (by omega)
          · skip
            replace h50 := zb_f0 h50
            refine M.run 1 (pc' := 54) (lv' := [some (vr o), some (vi ((t : Nat) : Int)), some (vi ((k : Nat) : Int))]) (st' := [vi ((k : Nat) : Int)]) rfl ?_
            exact M.iret rfl (Nat.zero_le _) (Nat.zero_le _) ⟨reI (by rw [if_pos hcx]; show _ = (sPlay X (u 23) (b0 2) t (b0 2 (681 * t)).toNat 0 (tl, D, L)).1; rw [hI, sPlay_f (by omega) h50]), by rw [if_pos hcx]; show isTS o am u b0 (sPlay X (u 23) (b0 2) t (b0 2 (681 * t)).toNat 0 (tl, D, L)).2 _; rw [hI, sPlay_f (by omega) h50]; exact ⟨a0, ⟨_, _, hM5, hR5, hF5, hB5⟩, hTE, hRg⟩⟩
    exact Lp21 _ (tl, D, L) 0 a0 a b w hM hR hF hB hTE hRg ht (Dok_mono (by omega) hd) hi hc9 (Lok_mono (by omega) hL) hT rfl (by omega) hX (Nat.lt_succ_self _)
  · skip
    replace h13 := zb_fd h13
    refine M.run 1 (pc' := 18) (lv' := [some (vr o), some (vi x), none]) (st' := [vi (-2)]) rfl ?_
    exact M.iret rfl (Nat.zero_le _) (Nat.zero_le _) ⟨reI (if_neg (by omega)).symm, by rw [if_neg (by omega)]; exact ⟨a0, ⟨_, _, hM, hR, hF, hB⟩, hTE, hRg⟩⟩
set_option maxHeartbeats 4000000 in
set_option maxRecDepth 100000 in
theorem vX11_happens (l : Launch) (G : GT) (o : Nat) (am : Nat → Nat) (u tl : Nat → Int) (b0 : Nat → Nat → Int) (D : Dy) (L : List Dy) (n : Int) (hT : Tok tl) (hd : Dok n D) (hi : Inv D) (hc9 : D.1 18 ≤ 9999) (hL : Lok n L) (hn : 0 ≤ n ∧ n ≤ 800000000) (hu : u 23 = 0 ∨ u 23 = 1) (X : Nat → Int → Option Gn) (hX : TxOk (b0 2) X (tl 1) ∧ tl 2 < tl 1) (x : Nat) (hx : x < 100000) : Ctr l G yX11_happens cX11_happens 3 ((Option.none : Option Jvm.ClassFile.FieldType)) 9 0 0 [vr o, vi ((x : Nat) : Int)] (fun w => isT o am u tl b0 D L w) (fun w r w' => r = none ∧ isT o am u tl b0 (mHap X tl (u 23) x D) L w') := by
  refine Ctr.of (t := tX11_happens) (lv0 := [some (vr o), some (vi ((x : Nat) : Int)), none]) (by decide +kernel) tX11_happens_ok rfl rfl (fun w g hP M => ?_)
  obtain ⟨a0, ⟨a, b, hM, hR, hF, hB⟩, hTE, hRg⟩ := hP
  have ht : Tok a0 := Tok_R hT hTE hRg
  have hk0 : 0 ≤ tl 0 ∧ tl 0 ≤ 3 := hT.1 0 (by decide)
  have hk18 := Dok_clk hd
  refine M.run 2 (pc' := 3) (lv' := [some (vr o), some (vi ((x : Nat) : Int)), none]) (st' := [vi 8, vi ((x : Nat) : Int)]) rfl ?_
  refine M.idiv rfl (qI (by omega)) (qI (by decide)) (by omega) ?_
  rw [show ((x : Nat) : Int).tdiv 8 = ((x / 8 : Nat) : Int) from nd8]
  refine M.run 1 (pc' := 5) (lv' := [some (vr o), some (vi ((x : Nat) : Int)), none]) (st' := [vi 3, vi ((x / 8 : Nat) : Int)]) rfl ?_
  refine M.irem rfl (qI (by omega)) (qI (by decide)) (by omega) ?_
  rw [show ((x / 8 : Nat) : Int).tmod 3 = ((x / 8 % 3 : Nat) : Int) from nm3]
  refine M.run 3 (pc' := 10) (lv' := [some (vr o), some (vi ((x : Nat) : Int)), some (vi ((x / 8 % 3 : Nat) : Int))]) (st' := [vi 8, vi ((x : Nat) : Int)]) rfl ?_
  refine M.irem rfl (qI (by omega)) (qI (by decide)) (by omega) ?_
  rw [show ((x : Nat) : Int).tmod 8 = ((x % 8 : Nat) : Int) from nm8]
  refine M.if_ne (tgt := 31) rfl (qI (by omega)) (by decide) (fun h11 => ?_) (fun h11 => ?_)
  · skip
    refine M.run 2 (pc' := 34) (lv' := [some (vr o), some (vi ((x : Nat) : Int)), some (vi ((x / 8 % 3 : Nat) : Int))]) (st' := [vi 8, vi ((x : Nat) : Int)]) rfl ?_
    refine M.irem rfl (qI (by omega)) (qI (by decide)) (by omega) ?_
    rw [show ((x : Nat) : Int).tmod 8 = ((x % 8 : Nat) : Int) from nm8]
    refine M.run 1 (pc' := 36) (lv' := [some (vr o), some (vi ((x : Nat) : Int)), some (vi ((x / 8 % 3 : Nat) : Int))]) (st' := [vi 1, vi ((x % 8 : Nat) : Int)]) rfl ?_
    refine M.icmp_ne (tgt := 81) rfl (qI (by omega)) (qI (by decide)) (by decide) (fun h36 => ?_) (fun h36 => ?_)
    · skip
      refine M.run 1 (pc' := 82) (lv' := [some (vr o), some (vi ((x : Nat) : Int)), some (vi ((x / 8 % 3 : Nat) : Int))]) (st' := [vr o]) rfl ?_
      refine M.get fl_X11_7 rfl (isM_o hM) (kf := 0) (v := vr (am 0)) rfl ?_
      refine M.run 1 (pc' := 87) (lv' := [some (vr o), some (vi ((x : Nat) : Int)), some (vi ((x / 8 % 3 : Nat) : Int))]) (st' := [vi 18, vr (am 0)]) rfl ?_
      refine M.ialdN (18) rfl (isM_a hM) (by decide) (by decide) ?_
      rw [show a 18 = D.1 18 from Rp_s hR (k := 18) (by decide) (by decide) (by decide)]
      refine M.run 1 (pc' := 91) (lv' := [some (vr o), some (vi ((x : Nat) : Int)), some (vi ((x / 8 % 3 : Nat) : Int))]) (st' := [vi 9999, vi (D.1 18)]) rfl ?_
      refine M.icmp_ge (tgt := 98) rfl (qI (by omega)) (qI (by decide)) (by decide) (fun h91 => ?_) (fun h91 => ?_)
      · skip
        have heq : mHap X tl (u 23) x D = D := (if_neg (by omega)).trans ((if_neg (by omega)).trans (if_neg (by omega)))
        exact M.vret rfl (Nat.zero_le _) (Nat.zero_le _) ⟨rfl, by rw [heq]; exact ⟨a0, ⟨_, _, hM, hR, hF, hB⟩, hTE, hRg⟩⟩
      · skip
        refine M.run 1 (pc' := 95) (lv' := [some (vr o), some (vi ((x : Nat) : Int)), some (vi ((x / 8 % 3 : Nat) : Int))]) (st' := [vr o]) rfl ?_
        refine M.callV (eX11_tick l G o am u a0 b0 D _ ht hd (by omega) hu X (hXof hTE hX) (Inv_38 hi) (by have q := (hi).1; omega)) cv_X11_410 cd_X11_tick rfl (st := []) rfl (isM_o hM) (by decide) (by decide) rfl (Nat.zero_le _) (Nat.zero_le _) ⟨_, _, hM, hR, hF, hB⟩ (fun r2 w3 q4 => ?_)
        rw [c_tick hTE hT hd] at q4
        obtain ⟨q4r, a1, b1, hM1, hR1, hF1, hB1⟩ := q4
        rw [q4r]
        have hd1 : Dok (n + 110) (mTick X tl (u 23) D) := Dok_tick hT hd (Inv_38 hi) (by omega) (by have q := (hi).1; omega)
        have hi1 : Inv (mTick X tl (u 23) D) := Inv_tick hT hi
        have h91 : (mTick X tl (u 23) D).1 18 ≤ 9999 := (by rw [mTick_18]; omega)
        have heq : mHap X tl (u 23) x D = (mTick X tl (u 23) D) := (if_neg (by omega)).trans ((if_neg (by omega)).trans (if_pos (by omega)))
        exact M.vret rfl (Nat.zero_le _) (Nat.zero_le _) ⟨rfl, by rw [heq]; exact ⟨a0, ⟨_, _, hM1, hR1, hF1, hB1⟩, hTE, hRg⟩⟩
    · skip
      refine M.run 2 (pc' := 41) (lv' := [some (vr o), some (vi ((x : Nat) : Int)), some (vi ((x / 8 % 3 : Nat) : Int))]) (st' := [vi 3, vi ((x : Nat) : Int)]) rfl ?_
      refine M.irem rfl (qI (by omega)) (qI (by decide)) (by omega) ?_
      rw [show ((x : Nat) : Int).tmod 3 = ((x % 3 : Nat) : Int) from nm3]
      refine M.if_ne (tgt := 98) rfl (qI (by omega)) (by decide) (fun h42 => ?_) (fun h42 => ?_)
      · skip
        have heq : mHap X tl (u 23) x D = D := (if_neg (by omega)).trans ((if_pos (by omega)).trans (if_neg (fun q => absurd q.1 (by omega))))
        exact M.vret rfl (Nat.zero_le _) (Nat.zero_le _) ⟨rfl, by rw [heq]; exact ⟨a0, ⟨_, _, hM, hR, hF, hB⟩, hTE, hRg⟩⟩
      · skip
        refine M.run 2 (pc' := 47) (lv' := [some (vr o), some (vi ((x : Nat) : Int)), some (vi ((x / 8 % 3 : Nat) : Int))]) (st' := [vi ((x / 8 % 3 : Nat) : Int), vr o]) rfl ?_
        refine M.callV (kX11_isBlock l G o am u a b ((x / 8 % 3 : Nat) : Int) (by omega) (Mok_of ht hd (by omega) hR hF)) cv_X11_331 cd_X11_isBlock rfl (st := []) rfl (isM_o hM) (by decide) (by decide) rfl (Nat.zero_le _) (Nat.zero_le _) hM (fun r6 w7 q8 => ?_)
        rw [q8.1, q8.2]
        rw [hF 0 (Or.inl (by decide)), hTE.1 0 (by decide) (by decide) (by decide)]
        refine M.if_eq (tgt := 98) rfl (inI_zb _) (by decide) (fun h50 => ?_) (fun h50 => ?_)
        · skip
          replace h50 := zb_fd h50
          have heq : mHap X tl (u 23) x D = D := (if_neg (by omega)).trans ((if_pos (by omega)).trans (if_neg (fun q => h50 (And.intro (by omega) q.2.1))))
          exact M.vret rfl (Nat.zero_le _) (Nat.zero_le _) ⟨rfl, by rw [heq]; exact ⟨a0, ⟨_, _, hM, hR, hF, hB⟩, hTE, hRg⟩⟩
        · skip
          replace h50 := zb_td h50
          refine M.run 4 (pc' := 58) (lv' := [some (vr o), some (vi ((x : Nat) : Int)), some (vi ((x / 8 % 3 : Nat) : Int))]) (st' := [vi 16, vi ((x : Nat) : Int), vi ((x / 8 % 3 : Nat) : Int), vr o]) rfl ?_
          refine M.idiv rfl (qI (by omega)) (qI (by decide)) (by omega) ?_
          rw [show ((x : Nat) : Int).tdiv 16 = ((x / 16 : Nat) : Int) from nd16]
          refine M.run 1 (pc' := 60) (lv' := [some (vr o), some (vi ((x : Nat) : Int)), some (vi ((x / 8 % 3 : Nat) : Int))]) (st' := [vi 2, vi ((x / 16 : Nat) : Int), vi ((x / 8 % 3 : Nat) : Int), vr o]) rfl ?_
          refine M.irem rfl (qI (by omega)) (qI (by decide)) (by omega) ?_
          rw [show ((x / 16 : Nat) : Int).tmod 2 = ((x / 16 % 2 : Nat) : Int) from nm2]
          refine M.callV (eX11_canCancel l G o am u a0 b0 D _ ht hd (by omega) (x / 8 % 3) (by omega) (x / 16 % 2) (by omega)) cv_X11_378 cd_X11_canCancel rfl (st := []) rfl (isM_o hM) (by decide) (by decide) rfl (Nat.zero_le _) (Nat.zero_le _) ⟨_, _, hM, hR, hF, hB⟩ (fun r10 w11 q12 => ?_)
          rw [q12.1, q12.2]
          refine M.if_eq (tgt := 98) rfl (inI_zb _) (by decide) (fun h64 => ?_) (fun h64 => ?_)
          · skip
            replace h64 := zb_fd h64
            have heq : mHap X tl (u 23) x D = D := (if_neg (by omega)).trans ((if_pos (by omega)).trans (if_neg (fun q => h64 q.2.2)))
            exact M.vret rfl (Nat.zero_le _) (Nat.zero_le _) ⟨rfl, by rw [heq]; exact ⟨a0, ⟨_, _, hM, hR, hF, hB⟩, hTE, hRg⟩⟩
          · skip
            replace h64 := zb_td h64
            refine M.run 4 (pc' := 72) (lv' := [some (vr o), some (vi ((x : Nat) : Int)), some (vi ((x / 8 % 3 : Nat) : Int))]) (st' := [vi 16, vi ((x : Nat) : Int), vi ((x / 8 % 3 : Nat) : Int), vr o]) rfl ?_
            refine M.idiv rfl (qI (by omega)) (qI (by decide)) (by omega) ?_
            rw [show ((x : Nat) : Int).tdiv 16 = ((x / 16 : Nat) : Int) from nd16]
            refine M.run 1 (pc' := 74) (lv' := [some (vr o), some (vi ((x : Nat) : Int)), some (vi ((x / 8 % 3 : Nat) : Int))]) (st' := [vi 2, vi ((x / 16 : Nat) : Int), vi ((x / 8 % 3 : Nat) : Int), vr o]) rfl ?_
            refine M.irem rfl (qI (by omega)) (qI (by decide)) (by omega) ?_
            rw [show ((x / 16 : Nat) : Int).tmod 2 = ((x / 16 % 2 : Nat) : Int) from nm2]
            refine M.callV (eX11_cancelNow l G o am u a0 b0 D _ ht hd (by omega) (x / 8 % 3) (by omega) (x / 16 % 2) (by omega)) cv_X11_381 cd_X11_cancelNow rfl (st := []) rfl (isM_o hM) (by decide) (by decide) rfl (Nat.zero_le _) (Nat.zero_le _) ⟨_, _, hM, hR, hF, hB⟩ (fun r15 w16 q17 => ?_)
            obtain ⟨q17r, a14, b14, hM14, hR14, hF14, hB14⟩ := q17
            rw [q17r]
            have hd14 : Dok n (mCancel (x / 8 % 3) (x / 16 % 2) D) := Dok_cancel hd (by omega) (by omega)
            have hi14 : Inv (mCancel (x / 8 % 3) (x / 16 % 2) D) := Inv_cancel hi
            have h914 : (mCancel (x / 8 % 3) (x / 16 % 2) D).1 18 ≤ 9999 := (by rw [Kp_cancel.2 18 (by decide)]; omega)
            refine M.run 1 (pc' := 98) (lv' := [some (vr o), some (vi ((x : Nat) : Int)), some (vi ((x / 8 % 3 : Nat) : Int))]) (st' := []) rfl ?_
            have heq : mHap X tl (u 23) x D = (mCancel (x / 8 % 3) (x / 16 % 2) D) := (if_neg (by omega)).trans ((if_pos (by omega)).trans (if_pos (And.intro (by omega) (And.intro h50.2 h64))))
            exact M.vret rfl (Nat.zero_le _) (Nat.zero_le _) ⟨rfl, by rw [heq]; exact ⟨a0, ⟨_, _, hM14, hR14, hF14, hB14⟩, hTE, hRg⟩⟩
  · skip
    refine M.run 2 (pc' := 16) (lv' := [some (vr o), some (vi ((x : Nat) : Int)), some (vi ((x / 8 % 3 : Nat) : Int))]) (st' := [vi ((x / 8 % 3 : Nat) : Int), vr o]) rfl ?_
    refine M.callV (eX11_canOpen l G o am u a0 b0 D _ ht hd (by omega) ((x / 8 % 3 : Nat) : Int) (by omega)) cv_X11_402 cd_X11_canOpen rfl (st := []) rfl (isM_o hM) (by decide) (by decide) rfl (Nat.zero_le _) (Nat.zero_le _) ⟨_, _, hM, hR, hF, hB⟩ (fun r19 w20 q21 => ?_)
    rw [q21.1, q21.2]
    rw [show zb (decide ((0 ≤ ((x / 8 % 3 : Nat) : Int) ∧ ((x / 8 % 3 : Nat) : Int) < a0 0) ∧ D.1 (28 + (((x / 8 % 3 : Nat) : Int)).toNat) = 0)) = zb (decide (opC tl D ((x / 8 % 3 : Nat) : Int))) from by rw [hTE.1 0 (by decide) (by decide) (by decide)]]
    refine M.if_eq (tgt := 98) rfl (inI_zb _) (by decide) (fun h19 => ?_) (fun h19 => ?_)
    · skip
      replace h19 := zb_fd h19
      have heq : mHap X tl (u 23) x D = D := (if_pos (by omega)).trans (if_neg h19)
      exact M.vret rfl (Nat.zero_le _) (Nat.zero_le _) ⟨rfl, by rw [heq]; exact ⟨a0, ⟨_, _, hM, hR, hF, hB⟩, hTE, hRg⟩⟩
    · skip
      replace h19 := zb_td h19
      refine M.run 2 (pc' := 24) (lv' := [some (vr o), some (vi ((x : Nat) : Int)), some (vi ((x / 8 % 3 : Nat) : Int))]) (st' := [vi ((x / 8 % 3 : Nat) : Int), vr o]) rfl ?_
      refine M.callV (eX11_openNow_ l G o am u a0 b0 D _ ht hd (by omega) (x / 8 % 3) (by omega)) cv_X11_408 cd_X11_openNow_ rfl (st := []) rfl (isM_o hM) (by decide) (by decide) rfl (Nat.zero_le _) (Nat.zero_le _) ⟨_, _, hM, hR, hF, hB⟩ (fun r24 w25 q26 => ?_)
      rw [c_open hTE (by omega)] at q26
      obtain ⟨q26r, a23, b23, hM23, hR23, hF23, hB23⟩ := q26
      rw [q26r]
      have hd23 : Dok (n + 1) (mOpen tl (x / 8 % 3) D) := Dok_open hT hd (by omega)
      have hi23 : Inv (mOpen tl (x / 8 % 3) D) := Inv_open hi
      have h923 : (mOpen tl (x / 8 % 3) D).1 18 ≤ 9999 := (by rw [mOpen_k (by decide)]; omega)
      refine M.run 2 (pc' := 98) (lv' := [some (vr o), some (vi ((x : Nat) : Int)), some (vi ((x / 8 % 3 : Nat) : Int))]) (st' := []) rfl ?_
      have heq : mHap X tl (u 23) x D = (mOpen tl (x / 8 % 3) D) := (if_pos (by omega)).trans (if_pos h19)
      exact M.vret rfl (Nat.zero_le _) (Nat.zero_le _) ⟨rfl, by rw [heq]; exact ⟨a0, ⟨_, _, hM23, hR23, hF23, hB23⟩, hTE, hRg⟩⟩
set_option maxHeartbeats 4000000 in
set_option maxRecDepth 100000 in
theorem vX11_years (l : Launch) (G : GT) (o : Nat) (am : Nat → Nat) (u tl : Nat → Int) (b0 : Nat → Nat → Int) (D : Dy) (L : List Dy) (n : Int) (hT : Tok tl) (hd : Dok n D) (hi : Inv D) (hc9 : D.1 18 ≤ 9999) (hL : Lok n L) (hn : 0 ≤ n ∧ n ≤ 700000000) (hu : u 23 = 0 ∨ u 23 = 1) (X : Nat → Int → Option Gn) (hX : TxOk (b0 2) X (tl 1) ∧ tl 2 < tl 1) (x y : Int) (hx : -2147483648 ≤ x ∧ x ≤ 2147483647) (hy : -2147483648 ≤ y ∧ y ≤ 2147483647) : Ctr l G yX11_years cX11_years 5 ((Option.some Jvm.ClassFile.FieldType.int)) 10 0 0 [vr o, vi x, vi y] (fun w => isT o am u tl b0 D L w) (fun w r w' => r = some (vi (if yrC x y then (sYears X (u 23) x y (tl, D, L)).2.1.1 18 else -1)) ∧ isTS o am u b0 (sYears X (u 23) x y (tl, D, L)) w') := by
  refine Ctr.of (t := tX11_years) (lv0 := [some (vr o), some (vi x), some (vi y), none, none]) (by decide +kernel) tX11_years_ok rfl rfl (fun w g hP M => ?_)
  obtain ⟨a0, ⟨a, b, hM, hR, hF, hB⟩, hTE, hRg⟩ := hP
  have ht : Tok a0 := Tok_R hT hTE hRg
  have hk18 := Dok_clk hd
  have hk19 := Dok_x hd
  refine M.run 3 (pc' := 5) (lv' := [some (vr o), some (vi x), some (vi y), none, none]) (st' := [vi 9999, vi 0, vi x]) rfl ?_
  refine M.callS (kX11_isIn l G x 0 9999 (qI (by omega)) (qI (by omega)) (qI (by omega))) cs_X11_50 cd_X11_isIn rfl (st := []) rfl (by decide) (by decide) rfl (Nat.zero_le _) (Nat.zero_le _) trivial (fun r1 w2 q3 => ?_)
  rw [q3.1, q3.2]
  refine M.if_eq (tgt := 21) rfl (inI_zb _) (by decide) (fun h8 => ?_) (fun h8 => ?_)
  · skip
    replace h8 := zb_fd h8
    have hno : ¬ yrC x y := fun q => h8 q.1
    refine M.run 1 (pc' := 22) (lv' := [some (vr o), some (vi x), some (vi y), none, none]) (st' := [vi (-1)]) rfl ?_
    exact M.iret rfl (Nat.zero_le _) (Nat.zero_le _) ⟨reI (if_neg hno).symm, by unfold sYears; rw [if_neg hno]; exact ⟨a0, ⟨_, _, hM, hR, hF, hB⟩, hTE, hRg⟩⟩
  · skip
    replace h8 := zb_td h8
    refine M.run 3 (pc' := 15) (lv' := [some (vr o), some (vi x), some (vi y), none, none]) (st' := [vi 40, vi 1, vi y]) rfl ?_
    refine M.callS (kX11_isIn l G y 1 40 (qI (by omega)) (qI (by omega)) (qI (by omega))) cs_X11_50 cd_X11_isIn rfl (st := []) rfl (by decide) (by decide) rfl (Nat.zero_le _) (Nat.zero_le _) trivial (fun r5 w6 q7 => ?_)
    rw [q7.1, q7.2]
    refine M.if_ne (tgt := 23) rfl (inI_zb _) (by decide) (fun h18 => ?_) (fun h18 => ?_)
    · skip
      replace h18 := zb_td h18
      have hyc : yrC x y := ⟨h8, h18⟩
      obtain ⟨m, rfl⟩ := Int.eq_ofNat_of_zero_le (show (0 : Int) ≤ y from (by omega))
      refine M.run 1 (pc' := 24) (lv' := [some (vr o), some (vi x), some (vi ((m : Nat) : Int)), none, none]) (st' := [vr o]) rfl ?_
      refine M.callV (eX11_keep l G o am u a0 b0 D n ht hd (by omega) L hRg (Lok_mono (by omega) hL)) cv_X11_405 cd_X11_keep rfl (st := []) rfl (isM_o hM) (by decide) (by decide) rfl (Nat.zero_le _) (Nat.zero_le _) ⟨_, _, hM, hR, hF, hB⟩ (fun r10 w11 q12 => ?_)
      obtain ⟨q12r, a0, ⟨a9, b9, hM9, hR9, hF9, hB9⟩, hTE1, hRg⟩ := q12
      rw [q12r]
      have hL9 : Lok n (pushL L D) := Lok_push (Lok_mono (by omega) hL) hd hi hc9
      have hTE := TE.tr hTE hTE1
      have ht : Tok a0 := Tok_R hT hTE hRg
      refine M.run 1 (pc' := 28) (lv' := [some (vr o), some (vi x), some (vi ((m : Nat) : Int)), none, none]) (st' := [vr o]) rfl ?_
      refine M.get fl_X11_7 rfl (isM_o hM9) (kf := 0) (v := vr (am 0)) rfl ?_
      refine M.run 6 (pc' := 40) (lv' := [some (vr o), some (vi x), some (vi ((m : Nat) : Int)), none, none]) (st' := [vi ((x * 2) + 491), vi 19, vr (am 0)]) rfl ?_
      refine M.iastN (19) rfl (isM_a hM9) (by decide) (by decide) ?_
      have hM15 := isM_setA hM9 (uN a9 19 ((x * 2) + 491))
      generalize up w11 (am 0) (Ar 0 30042 (uN a9 19 ((x * 2) + 491))) = w14 at hM15 ⊢
      have hR16 : Rp _ (mS 19 ((x * 2) + 491) D) := Rp_us hR9 ((x * 2) + 491) (k := 19) (by omega) (by omega) (by omega)
      have hF16 := Fr_u (k := 19) (v := (x * 2) + 491) hF9 (by omega) (by omega)
      have hd16 := Dok_S (k := 19) (v := (x * 2) + 491) hd (fun _ _ _ => by unfold Shi; (repeat' split) <;> omega)
      have es16 : (mS 19 ((x * 2) + 491) D).1 = uN D.1 19 ((x * 2) + 491) := rfl
      have hi17 : Inv (mS 19 ((x * 2) + 491) D) := Inv_S (by omega) hi
      have h917 : (mS 19 ((x * 2) + 491) D).1 18 ≤ 9999 := by rw [mS_o (by omega)]; exact hc9
      refine M.run 2 (pc' := 43) (lv' := [some (vr o), some (vi x), some (vi ((m : Nat) : Int)), some (vi 0), none]) (st' := []) rfl ?_
      have Lp43 : ∀ (N : Nat) (Dx : Dy) (Lx : List Dy) (k : Nat) (a0 : Nat → Int) (ax : Nat → Int) (bx : Nat → Nat → Int) (wx : Wo), (isM o am u ax bx wx) → (Rp ax Dx) → (Fr a0 ax) → (Fb b0 bx) → (TE tl a0) → (Rg a0 Lx) → (Tok a0) → (Dok (n + 110 * ((k : Nat) : Int)) Dx) → (Inv Dx) → (Dx.1 18 ≤ 9999) → (Lok (n + 110 * ((k : Nat) : Int)) Lx) → (mYr X tl (u 23) m (mS 19 (x * 2 + 491) D) = mYr X tl (u 23) (m - k) Dx) → (k ≤ m) → (Lx = pushL L D) → m - k < N → g 0 0 wx 43 [some (vr o), some (vi x), some (vi ((m : Nat) : Int)), some (vi ((k : Nat) : Int)), none] [] := by
        intro N
        induction N with
        | zero => intro Dx Lx k a0 ax bx wx _ _ _ _ _ _ _ _ _ _ _ _ _ _ hN; exact absurd hN (Nat.not_lt_zero _)
        | succ N ih43 =>
          intro Dx Lx k a0 ax bx wx hMx hRx hFx hBx hTE hRg ht hdx hix h9x hLx hI hk hLx2 hN
          refine M.run 2 (pc' := 45) (lv' := [some (vr o), some (vi x), some (vi ((m : Nat) : Int)), some (vi ((k : Nat) : Int)), none]) (st' := [vi ((m : Nat) : Int), vi ((k : Nat) : Int)]) rfl ?_
          refine M.icmp_ge (tgt := 73) rfl (qI (by omega)) (qI (by omega)) (by decide) (fun h45 => ?_) (fun h45 => ?_)
          · skip
            refine M.run 1 (pc' := 74) (lv' := [some (vr o), some (vi x), some (vi ((m : Nat) : Int)), some (vi ((k : Nat) : Int)), none]) (st' := [vr o]) rfl ?_
            refine M.get fl_X11_7 rfl (isM_o hMx) (kf := 0) (v := vr (am 0)) rfl ?_
            refine M.run 1 (pc' := 79) (lv' := [some (vr o), some (vi x), some (vi ((m : Nat) : Int)), some (vi ((k : Nat) : Int)), none]) (st' := [vi 18, vr (am 0)]) rfl ?_
            refine M.ialdN (18) rfl (isM_a hMx) (by decide) (by decide) ?_
            rw [show ax 18 = Dx.1 18 from Rp_s hRx (k := 18) (by decide) (by decide) (by decide)]
            exact M.iret rfl (Nat.zero_le _) (Nat.zero_le _) (by
                have e1 : sYears X (u 23) x ((m : Nat) : Int) (tl, D, L) = (tl, Dx, Lx) := by
                  unfold sYears
                  rw [if_pos hyc]
                  show (tl, mYr X tl (u 23) m (mS 19 (x * 2 + 491) D), pushL L D) = _
                  rw [hI, show m - k = 0 by omega, hLx2]
                  rfl
                rw [e1]
                exact ⟨reI (if_pos hyc).symm, ⟨a0, ⟨_, _, hMx, hRx, hFx, hBx⟩, hTE, hRg⟩⟩)
          · skip
            have hcx := Dok_x hdx
            refine M.run 1 (pc' := 49) (lv' := [some (vr o), some (vi x), some (vi ((m : Nat) : Int)), some (vi ((k : Nat) : Int)), none]) (st' := [vr o]) rfl ?_
            refine M.get fl_X11_7 rfl (isM_o hMx) (kf := 0) (v := vr (am 0)) rfl ?_
            refine M.run 1 (pc' := 54) (lv' := [some (vr o), some (vi x), some (vi ((m : Nat) : Int)), some (vi ((k : Nat) : Int)), none]) (st' := [vi 19, vr (am 0)]) rfl ?_
            refine M.ialdN (19) rfl (isM_a hMx) (by decide) (by decide) ?_
            rw [show ax 19 = Dx.1 19 from Rp_s hRx (k := 19) (by decide) (by decide) (by decide)]
            rw [show Dx.1 19 = (((Dx.1 19).toNat : Nat) : Int) from (Int.toNat_of_nonneg (by omega)).symm]
            refine M.run 2 (pc' := 58) (lv' := [some (vr o), some (vi x), some (vi ((m : Nat) : Int)), some (vi ((k : Nat) : Int)), some (vi (((Dx.1 19).toNat : Nat) : Int))]) (st' := [vr o]) rfl ?_
            refine M.callV (eX11_anew l G o am u a0 b0 Dx _ ht hdx (by omega) ) cv_X11_283 cd_X11_anew rfl (st := []) rfl (isM_o hMx) (by decide) (by decide) rfl (Nat.zero_le _) (Nat.zero_le _) ⟨_, _, hMx, hRx, hFx, hBx⟩ (fun r19 w20 q21 => ?_)
            obtain ⟨q21r, a18, b18, hM18, hR18, hF18, hB18⟩ := q21
            rw [q21r]
            have hd18 : Dok (n + 110 * ((k : Nat) : Int)) (mAnew Dx) := Dok_anew hdx
            have hi18 : Inv (mAnew Dx) := Inv_S (by decide) hix
            have h918 : (mAnew Dx).1 18 ≤ 9999 := (by rw [mAn_18]; omega)
            refine M.run 2 (pc' := 64) (lv' := [some (vr o), some (vi x), some (vi ((m : Nat) : Int)), some (vi ((k : Nat) : Int)), some (vi (((Dx.1 19).toNat : Nat) : Int))]) (st' := [vi (((Dx.1 19).toNat : Nat) : Int), vr o]) rfl ?_
            refine M.callV (vX11_happens l G o am u tl b0 (mAnew Dx) Lx (n + 110 * ((k : Nat) : Int)) hT hd18 hi18 h918 (Lok_mono (by omega) hLx) (by omega) hu X hX ((Dx.1 19).toNat) (by omega)) cv_X11_428 cd_X11_happens rfl (st := []) rfl (isM_o hM18) (by decide) (by decide) rfl (Nat.zero_le _) (Nat.zero_le _) ⟨a0, ⟨_, _, hM18, hR18, hF18, hB18⟩, hTE, hRg⟩ (fun r24 w25 q26 => ?_)
            obtain ⟨q26r, a0, ⟨a23, b23, hM23, hR23, hF23, hB23⟩, hTE, hRg⟩ := q26
            rw [q26r]
            obtain ⟨hd23, hi23, h923⟩ := mHap_ok (X := X) (sure := u 23) (x := ((Dx.1 19).toNat)) hT hd18 hi18 h918
            have ht : Tok a0 := Tok_R hT hTE hRg
            refine M.run 2 (pc' := 43) (lv' := [some (vr o), some (vi x), some (vi ((m : Nat) : Int)), some (vi (((k : Nat) : Int) + 1)), some (vi (((Dx.1 19).toNat : Nat) : Int))]) (st' := []) rfl ?_
            refine M.fgt [false, false, false, false, true] ?_
            exact ih43 ((mHap X tl (u 23) ((Dx.1 19).toNat) (mAnew Dx))) Lx (k + 1) a0 a23 b23 w25 hM23 hR23 hF23 hB23 hTE hRg ht (Dok_mono (by omega) hd23) hi23 h923 (Lok_mono (by omega) hLx) (by rw [hI, mYr_s (by omega), show m - k - 1 = m - (k + 1) by omega]) (by omega) hLx2 (by omega)
      exact Lp43 _ ((mS 19 ((x * 2) + 491) D)) ((pushL L D)) 0 a0 ((uN a9 19 ((x * 2) + 491))) b9 w14 hM15 hR16 hF16 hB9 hTE hRg ht (Dok_mono (by omega) hd16) hi17 h917 (Lok_mono (by omega) hL9) rfl (by omega) rfl (Nat.lt_succ_self _)
    · skip
      replace h18 := zb_fd h18
      have hno : ¬ yrC x y := fun q => h18 q.2
      refine M.run 1 (pc' := 22) (lv' := [some (vr o), some (vi x), some (vi y), none, none]) (st' := [vi (-1)]) rfl ?_
      exact M.iret rfl (Nat.zero_le _) (Nat.zero_le _) ⟨reI (if_neg hno).symm, by unfold sYears; rw [if_neg hno]; exact ⟨a0, ⟨_, _, hM, hR, hF, hB⟩, hTE, hRg⟩⟩
