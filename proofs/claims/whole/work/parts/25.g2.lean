/-- the reference with what is told as in tl, a state, and the steps that can be taken back -/
def isT (o : Nat) (am : Nat → Nat) (u tl : Nat → Int) (b0 : Nat → Nat → Int) (D : Dy) (L : List Dy) (w : Wo) : Prop := ∃ a0, isE o am u a0 b0 D w ∧ TE tl a0 ∧ Rg a0 L
theorem Tok_R {tl a0 : Nat → Int} {L : List Dy} (hT : Tok tl) (h : TE tl a0) (hg : Rg a0 L) : Tok a0 := by
  obtain ⟨g1, g2, g3, g4⟩ := hg
  exact Tok_c h hT (by omega) (by omega)
theorem hXof {X : Nat → Int → Option Gn} {tl a0 : Nat → Int} {f : Nat → Int} (h : TE tl a0) (hX : TxOk f X (tl 1) ∧ tl 2 < tl 1) : TxOk f X (a0 1) ∧ a0 2 < a0 1 := by
  rw [h.1 1 (by decide) (by decide) (by decide), h.1 2 (by decide) (by decide) (by decide)]
  exact hX
abbrev opC (tl : Nat → Int) (D : Dy) (x : Int) : Prop := (0 ≤ x ∧ x < tl 0) ∧ D.1 (28 + x.toNat) = 0
abbrev cnC (tl : Nat → Int) (D : Dy) (x y : Int) : Prop := (0 ≤ x ∧ x < tl 0) ∧ (0 ≤ y ∧ y ≤ 1) ∧ mCan x.toNat y.toNat D
theorem Kp_open {a0 : Nat → Int} {b : Nat} {D : Dy} : Kp D (mOpen a0 b D) := by
  have h1 : Kp D (mPieces b 0 (bPs (bIn (a0 (15 + b)).toNat (a0 (12 + b)).toNat) (a0 7).toNat) (mRed a0 b (mRedOf a0 b) (mNote (rwB (D.1 18) 0 b 0) (mS (28 + b) 1 D)))) := Kp.tr (Kp.tr (Kp.tr (Kp_S (by omega)) Kp_note) Kp_red) (Kp_pieces _)
  unfold mOpen
  simp only []
  split
  · exact Kp.tr h1 Kp_end
  · exact h1
theorem mOpen_k {a0 : Nat → Int} {b k : Nat} {D : Dy} (h : k < 28) : (mOpen a0 b D).1 k = D.1 k := Kp_open.2 k h
theorem mAn_18 {D : Dy} : (mAnew D).1 18 = D.1 18 := mS_o (k := 19) (v := (D.1 19 * 757 + 617).tmod 31091) (D := D) (by decide)
abbrev TS : Type := (Nat → Int) × Dy × List Dy
abbrev isTS (o : Nat) (am : Nat → Nat) (u : Nat → Int) (b0 : Nat → Nat → Int) (S : TS) (w : Wo) : Prop := isT o am u S.1 b0 S.2.1 S.2.2 w
def sOpen (x : Int) (S : TS) : TS := if opC S.1 S.2.1 x then (S.1, mOpen S.1 x.toNat S.2.1, pushL S.2.2 S.2.1) else S
def sCancel (x y : Int) (S : TS) : TS := if cnC S.1 S.2.1 x y then (S.1, mCancel x.toNat y.toNat S.2.1, pushL S.2.2 S.2.1) else S
def sDays (X : Nat → Int → Option Gn) (sure : Int) : Nat → TS → Bool × TS
  | 0, S => (true, S)
  | k + 1, S => if S.2.1.1 18 = 9999 then (false, S) else sDays X sure k (S.1, mTick X S.1 sure S.2.1, pushL S.2.2 S.2.1)
theorem sDays_s {X : Nat → Int → Option Gn} {sure : Int} {k : Nat} {S : TS} (hk : 0 < k) (h : ¬ S.2.1.1 18 = 9999) : sDays X sure k S = sDays X sure (k - 1) (S.1, mTick X S.1 sure S.2.1, pushL S.2.2 S.2.1) := by
  cases k with
  | zero => omega
  | succ k => exact if_neg h
theorem sDays_f {X : Nat → Int → Option Gn} {sure : Int} {k : Nat} {S : TS} (hk : 0 < k) (h : S.2.1.1 18 = 9999) : sDays X sure k S = (false, S) := by
  cases k with
  | zero => omega
  | succ k => exact if_pos h
/-- what the calls keep -/
def TSok (n : Int) (S : TS) : Prop := Tok S.1 ∧ Dok n S.2.1 ∧ Inv S.2.1 ∧ S.2.1.1 18 ≤ 9999 ∧ Lok n S.2.2
theorem TSok_mono {n m : Int} {S : TS} (h : n ≤ m) (hs : TSok n S) : TSok m S := ⟨hs.1, Dok_mono h hs.2.1, hs.2.2.1, hs.2.2.2.1, Lok_mono h hs.2.2.2.2⟩
theorem TSok_open {n x : Int} {S : TS} (hs : TSok n S) : TSok (n + 1) (sOpen x S) := by
  unfold sOpen
  split
  · rename_i h
    have h0 : 0 ≤ S.1 0 ∧ S.1 0 ≤ 3 := hs.1.1 0 (by decide)
    exact ⟨hs.1, Dok_open hs.1 hs.2.1 (by omega), Inv_open hs.2.2.1, by show (mOpen S.1 x.toNat S.2.1).1 18 ≤ 9999; rw [mOpen_k (by decide)]; exact hs.2.2.2.1, Lok_mono (by omega) (Lok_push hs.2.2.2.2 hs.2.1 hs.2.2.1 hs.2.2.2.1)⟩
  · exact TSok_mono (by omega) hs
theorem TSok_cancel {n x y : Int} {S : TS} (hs : TSok n S) : TSok n (sCancel x y S) := by
  unfold sCancel
  split
  · rename_i h
    have h0 : 0 ≤ S.1 0 ∧ S.1 0 ≤ 3 := hs.1.1 0 (by decide)
    exact ⟨hs.1, Dok_cancel hs.2.1 (by omega) (by omega), Inv_cancel hs.2.2.1, by show (mCancel x.toNat y.toNat S.2.1).1 18 ≤ 9999; rw [Kp_cancel.2 18 (by decide)]; exact hs.2.2.2.1, Lok_push hs.2.2.2.2 hs.2.1 hs.2.2.1 hs.2.2.2.1⟩
  · exact hs
theorem TSok_tick {X : Nat → Int → Option Gn} {n sure : Int} {S : TS} (hs : TSok n S) (h : ¬ S.2.1.1 18 = 9999) : TSok (n + 110) (S.1, mTick X S.1 sure S.2.1, pushL S.2.2 S.2.1) := by
  obtain ⟨h1, h2, h3, h4, h5⟩ := hs
  have hq := h3.1
  exact ⟨h1, Dok_tick h1 h2 (Inv_38 h3) (by omega) (by omega), Inv_tick h1 h3, by show (mTick X S.1 sure S.2.1).1 18 ≤ 9999; rw [mTick_18]; omega, Lok_mono (by omega) (Lok_push h5 h2 h3 h4)⟩
theorem TSok_days {X : Nat → Int → Option Gn} {sure : Int} : ∀ (k : Nat) {n : Int} {S : TS}, TSok n S → TSok (n + 110 * k) (sDays X sure k S).2
  | 0, n, S, hs => TSok_mono (by omega) hs
  | k + 1, n, S, hs => by
    unfold sDays
    split
    · exact TSok_mono (by omega) hs
    · rename_i h
      exact TSok_mono (by omega) (TSok_days k (TSok_tick hs h))
theorem sDays_1 {X : Nat → Int → Option Gn} {sure : Int} : ∀ (k : Nat) {S : TS}, (sDays X sure k S).2.1 = S.1
  | 0, S => rfl
  | k + 1, S => by
    unfold sDays
    split
    · rfl
    · exact sDays_1 k

set_option maxHeartbeats 4000000 in
set_option maxRecDepth 100000 in
theorem vX11_open (l : Launch) (G : GT) (o : Nat) (am : Nat → Nat) (u tl : Nat → Int) (b0 : Nat → Nat → Int) (D : Dy) (L : List Dy) (n : Int) (hT : Tok tl) (hd : Dok n D) (hi : Inv D) (hc9 : D.1 18 ≤ 9999) (hL : Lok n L) (hn : 0 ≤ n ∧ n ≤ 800000000) (hu : u 23 = 0 ∨ u 23 = 1) (X : Nat → Int → Option Gn) (hX : TxOk (b0 2) X (tl 1) ∧ tl 2 < tl 1) (x : Int) (hx : -2147483648 ≤ x ∧ x ≤ 2147483647) : Ctr l G yX11_open cX11_open 2 ((Option.some Jvm.ClassFile.FieldType.int)) 7 0 0 [vr o, vi x] (fun w => isT o am u tl b0 D L w) (fun w r w' => r = some (vi (if opC tl D x then ((((mOpen tl x.toNat D).2.1 0).length : Nat) : Int) - (((D.2.1 0).length : Nat) : Int) else -1)) ∧ isTS o am u b0 (sOpen x (tl, D, L)) w') := by
  refine Ctr.of (t := tX11_open) (lv0 := [some (vr o), some (vi x)]) (by decide +kernel) tX11_open_ok rfl rfl (fun w g hP M => ?_)
  obtain ⟨a0, ⟨a, b, hM, hR, hF, hB⟩, hTE, hRg⟩ := hP
  have ht : Tok a0 := Tok_R hT hTE hRg
  have hk0 : 0 ≤ tl 0 ∧ tl 0 ≤ 3 := hT.1 0 (by decide)
  refine M.run 2 (pc' := 2) (lv' := [some (vr o), some (vi x)]) (st' := [vi x, vr o]) rfl ?_
  refine M.callV (eX11_canOpen l G o am u a0 b0 D _ ht hd (by omega) x (by omega)) cv_X11_402 cd_X11_canOpen rfl (st := []) rfl (isM_o hM) (by decide) (by decide) rfl (Nat.zero_le _) (Nat.zero_le _) ⟨_, _, hM, hR, hF, hB⟩ (fun r1 w2 q3 => ?_)
  rw [q3.1, q3.2]
  rw [show zb (decide ((0 ≤ x ∧ x < a0 0) ∧ D.1 (28 + (x).toNat) = 0)) = zb (decide (opC tl D x)) from by rw [hTE.1 0 (by decide) (by decide) (by decide)]]
  refine M.if_ne (tgt := 10) rfl (inI_zb _) (by decide) (fun h5 => ?_) (fun h5 => ?_)
  · skip
    replace h5 := zb_td h5
    have hop := h5
    obtain ⟨c, rfl⟩ := Int.eq_ofNat_of_zero_le (show (0 : Int) ≤ x from h5.1.1)
    refine M.run 1 (pc' := 11) (lv' := [some (vr o), some (vi ((c : Nat) : Int))]) (st' := [vr o]) rfl ?_
    refine M.callV (eX11_keep l G o am u a0 b0 D n ht hd (by omega) L hRg (Lok_mono (by omega) hL)) cv_X11_405 cd_X11_keep rfl (st := []) rfl (isM_o hM) (by decide) (by decide) rfl (Nat.zero_le _) (Nat.zero_le _) ⟨_, _, hM, hR, hF, hB⟩ (fun r6 w7 q8 => ?_)
    obtain ⟨q8r, a0, ⟨a5, b5, hM5, hR5, hF5, hB5⟩, hTE1, hRg⟩ := q8
    rw [q8r]
    have hL5 : Lok n (pushL L D) := Lok_push (Lok_mono (by omega) hL) hd hi hc9
    have hTE := TE.tr hTE hTE1
    have ht : Tok a0 := Tok_R hT hTE hRg
    refine M.run 2 (pc' := 16) (lv' := [some (vr o), some (vi ((c : Nat) : Int))]) (st' := [vi ((c : Nat) : Int), vr o]) rfl ?_
    refine M.callV (eX11_openNow_ l G o am u a0 b0 D _ ht hd (by omega) c (by omega)) cv_X11_408 cd_X11_openNow_ rfl (st := []) rfl (isM_o hM5) (by decide) (by decide) rfl (Nat.zero_le _) (Nat.zero_le _) ⟨_, _, hM5, hR5, hF5, hB5⟩ (fun r11 w12 q13 => ?_)
    rw [c_open hTE (by omega)] at q13
    obtain ⟨q13r, a10, b10, hM10, hR10, hF10, hB10⟩ := q13
    rw [q13r]
    have hd10 : Dok (n + 1) (mOpen tl c D) := Dok_open hT hd (by omega)
    have hi10 : Inv (mOpen tl c D) := Inv_open hi
    have h910 : (mOpen tl c D).1 18 ≤ 9999 := (by rw [mOpen_k (by decide)]; omega)
    exact M.iret rfl (Nat.zero_le _) (Nat.zero_le _) ⟨reI (if_pos hop).symm, by unfold sOpen; rw [if_pos hop]; exact ⟨a0, ⟨_, _, hM10, hR10, hF10, hB10⟩, hTE, hRg⟩⟩
  · skip
    replace h5 := zb_fd h5
    refine M.run 1 (pc' := 9) (lv' := [some (vr o), some (vi x)]) (st' := [vi (-1)]) rfl ?_
    exact M.iret rfl (Nat.zero_le _) (Nat.zero_le _) ⟨reI (if_neg h5).symm, by unfold sOpen; rw [if_neg h5]; exact ⟨a0, ⟨_, _, hM, hR, hF, hB⟩, hTE, hRg⟩⟩
set_option maxHeartbeats 4000000 in
set_option maxRecDepth 100000 in
theorem vX11_cancel (l : Launch) (G : GT) (o : Nat) (am : Nat → Nat) (u tl : Nat → Int) (b0 : Nat → Nat → Int) (D : Dy) (L : List Dy) (n : Int) (hT : Tok tl) (hd : Dok n D) (hi : Inv D) (hc9 : D.1 18 ≤ 9999) (hL : Lok n L) (hn : 0 ≤ n ∧ n ≤ 800000000) (hu : u 23 = 0 ∨ u 23 = 1) (X : Nat → Int → Option Gn) (hX : TxOk (b0 2) X (tl 1) ∧ tl 2 < tl 1) (x y : Int) (hx : -2147483648 ≤ x ∧ x ≤ 2147483647) (hy : -2147483648 ≤ y ∧ y ≤ 2147483647) : Ctr l G yX11_cancel cX11_cancel 3 ((Option.some Jvm.ClassFile.FieldType.boolean)) 5 0 0 [vr o, vi x, vi y] (fun w => isT o am u tl b0 D L w) (fun w r w' => r = some (vi (zb (decide (cnC tl D x y)))) ∧ isTS o am u b0 (sCancel x y (tl, D, L)) w') := by
  refine Ctr.of (t := tX11_cancel) (lv0 := [some (vr o), some (vi x), some (vi y)]) (by decide +kernel) tX11_cancel_ok rfl rfl (fun w g hP M => ?_)
  obtain ⟨a0, ⟨a, b, hM, hR, hF, hB⟩, hTE, hRg⟩ := hP
  have ht : Tok a0 := Tok_R hT hTE hRg
  have hk0 : 0 ≤ tl 0 ∧ tl 0 ≤ 3 := hT.1 0 (by decide)
  refine M.run 2 (pc' := 2) (lv' := [some (vr o), some (vi x), some (vi y)]) (st' := [vi x, vr o]) rfl ?_
  refine M.callV (kX11_isBlock l G o am u a b x (by omega) (Mok_of ht hd (by omega) hR hF)) cv_X11_331 cd_X11_isBlock rfl (st := []) rfl (isM_o hM) (by decide) (by decide) rfl (Nat.zero_le _) (Nat.zero_le _) hM (fun r1 w2 q3 => ?_)
  rw [q3.1, q3.2]
  rw [hF 0 (Or.inl (by decide)), hTE.1 0 (by decide) (by decide) (by decide)]
  refine M.if_eq (tgt := 26) rfl (inI_zb _) (by decide) (fun h5 => ?_) (fun h5 => ?_)
  · skip
    replace h5 := zb_fd h5
    have hno : ¬ cnC tl D x y := fun q => h5 q.1
    refine M.run 1 (pc' := 27) (lv' := [some (vr o), some (vi x), some (vi y)]) (st' := [vi 0]) rfl ?_
    exact M.zret rfl (Or.inl rfl) (Nat.zero_le _) (Nat.zero_le _) ⟨reI (by rw [decide_eq_false hno]; rfl), by unfold sCancel; rw [if_neg hno]; exact ⟨a0, ⟨_, _, hM, hR, hF, hB⟩, hTE, hRg⟩⟩
  · skip
    replace h5 := zb_td h5
    refine M.run 3 (pc' := 11) (lv' := [some (vr o), some (vi x), some (vi y)]) (st' := [vi 1, vi 0, vi y]) rfl ?_
    refine M.callS (kX11_isIn l G y 0 1 (qI (by omega)) (qI (by omega)) (qI (by omega))) cs_X11_50 cd_X11_isIn rfl (st := []) rfl (by decide) (by decide) rfl (Nat.zero_le _) (Nat.zero_le _) trivial (fun r5 w6 q7 => ?_)
    rw [q7.1, q7.2]
    refine M.if_eq (tgt := 26) rfl (inI_zb _) (by decide) (fun h14 => ?_) (fun h14 => ?_)
    · skip
      replace h14 := zb_fd h14
      have hno : ¬ cnC tl D x y := fun q => h14 q.2.1
      refine M.run 1 (pc' := 27) (lv' := [some (vr o), some (vi x), some (vi y)]) (st' := [vi 0]) rfl ?_
      exact M.zret rfl (Or.inl rfl) (Nat.zero_le _) (Nat.zero_le _) ⟨reI (by rw [decide_eq_false hno]; rfl), by unfold sCancel; rw [if_neg hno]; exact ⟨a0, ⟨_, _, hM, hR, hF, hB⟩, hTE, hRg⟩⟩
    · skip
      replace h14 := zb_td h14
      have h05 := h5
      have h014 := h14
      obtain ⟨c, rfl⟩ := Int.eq_ofNat_of_zero_le (show (0 : Int) ≤ x from h5.1)
      obtain ⟨e, rfl⟩ := Int.eq_ofNat_of_zero_le (show (0 : Int) ≤ y from h14.1)
      refine M.run 3 (pc' := 20) (lv' := [some (vr o), some (vi ((c : Nat) : Int)), some (vi ((e : Nat) : Int))]) (st' := [vi ((e : Nat) : Int), vi ((c : Nat) : Int), vr o]) rfl ?_
      refine M.callV (eX11_canCancel l G o am u a0 b0 D _ ht hd (by omega) c (by omega) e (by omega)) cv_X11_378 cd_X11_canCancel rfl (st := []) rfl (isM_o hM) (by decide) (by decide) rfl (Nat.zero_le _) (Nat.zero_le _) ⟨_, _, hM, hR, hF, hB⟩ (fun r9 w10 q11 => ?_)
      rw [q11.1, q11.2]
      refine M.if_ne (tgt := 28) rfl (inI_zb _) (by decide) (fun h23 => ?_) (fun h23 => ?_)
      · skip
        replace h23 := zb_td h23
        have hcn : cnC tl D ((c : Nat) : Int) ((e : Nat) : Int) := ⟨h05, h014, h23⟩
        refine M.run 1 (pc' := 29) (lv' := [some (vr o), some (vi ((c : Nat) : Int)), some (vi ((e : Nat) : Int))]) (st' := [vr o]) rfl ?_
        refine M.callV (eX11_keep l G o am u a0 b0 D n ht hd (by omega) L hRg (Lok_mono (by omega) hL)) cv_X11_405 cd_X11_keep rfl (st := []) rfl (isM_o hM) (by decide) (by decide) rfl (Nat.zero_le _) (Nat.zero_le _) ⟨_, _, hM, hR, hF, hB⟩ (fun r14 w15 q16 => ?_)
        obtain ⟨q16r, a0, ⟨a13, b13, hM13, hR13, hF13, hB13⟩, hTE1, hRg⟩ := q16
        rw [q16r]
        have hL13 : Lok n (pushL L D) := Lok_push (Lok_mono (by omega) hL) hd hi hc9
        have hTE := TE.tr hTE hTE1
        have ht : Tok a0 := Tok_R hT hTE hRg
        refine M.run 3 (pc' := 35) (lv' := [some (vr o), some (vi ((c : Nat) : Int)), some (vi ((e : Nat) : Int))]) (st' := [vi ((e : Nat) : Int), vi ((c : Nat) : Int), vr o]) rfl ?_
        refine M.callV (eX11_cancelNow l G o am u a0 b0 D _ ht hd (by omega) c (by omega) e (by omega)) cv_X11_381 cd_X11_cancelNow rfl (st := []) rfl (isM_o hM13) (by decide) (by decide) rfl (Nat.zero_le _) (Nat.zero_le _) ⟨_, _, hM13, hR13, hF13, hB13⟩ (fun r19 w20 q21 => ?_)
        obtain ⟨q21r, a18, b18, hM18, hR18, hF18, hB18⟩ := q21
        rw [q21r]
        have hd18 : Dok n (mCancel c e D) := Dok_cancel hd (by omega) (by omega)
        have hi18 : Inv (mCancel c e D) := Inv_cancel hi
        have h918 : (mCancel c e D).1 18 ≤ 9999 := (by rw [Kp_cancel.2 18 (by decide)]; omega)
        refine M.run 1 (pc' := 39) (lv' := [some (vr o), some (vi ((c : Nat) : Int)), some (vi ((e : Nat) : Int))]) (st' := [vi 1]) rfl ?_
        exact M.zret rfl (Or.inr rfl) (Nat.zero_le _) (Nat.zero_le _) ⟨reI (by rw [decide_eq_true hcn]; rfl), by unfold sCancel; rw [if_pos hcn]; exact ⟨a0, ⟨_, _, hM18, hR18, hF18, hB18⟩, hTE, hRg⟩⟩
      · skip
        replace h23 := zb_fd h23
        have hno : ¬ cnC tl D ((c : Nat) : Int) ((e : Nat) : Int) := fun q => h23 q.2.2
        refine M.run 1 (pc' := 27) (lv' := [some (vr o), some (vi ((c : Nat) : Int)), some (vi ((e : Nat) : Int))]) (st' := [vi 0]) rfl ?_
        exact M.zret rfl (Or.inl rfl) (Nat.zero_le _) (Nat.zero_le _) ⟨reI (by rw [decide_eq_false hno]; rfl), by unfold sCancel; rw [if_neg hno]; exact ⟨a0, ⟨_, _, hM, hR, hF, hB⟩, hTE, hRg⟩⟩
set_option maxHeartbeats 4000000 in
set_option maxRecDepth 100000 in
theorem vX11_arePassed (l : Launch) (G : GT) (o : Nat) (am : Nat → Nat) (u tl : Nat → Int) (b0 : Nat → Nat → Int) (D : Dy) (L : List Dy) (n : Int) (hT : Tok tl) (hd : Dok n D) (hi : Inv D) (hc9 : D.1 18 ≤ 9999) (hL : Lok n L) (hn : 0 ≤ n ∧ n ≤ 800000000) (hu : u 23 = 0 ∨ u 23 = 1) (X : Nat → Int → Option Gn) (hX : TxOk (b0 2) X (tl 1) ∧ tl 2 < tl 1) (m : Nat) (hm : m ≤ 30) : Ctr l G yX11_arePassed cX11_arePassed 3 ((Option.some Jvm.ClassFile.FieldType.boolean)) 9 0 0 [vr o, vi ((m : Nat) : Int)] (fun w => isT o am u tl b0 D L w) (fun w r w' => r = some (vi (zb (sDays X (u 23) m (tl, D, L)).1)) ∧ isTS o am u b0 (sDays X (u 23) m (tl, D, L)).2 w') := by
  refine Ctr.of (t := tX11_arePassed) (lv0 := [some (vr o), some (vi ((m : Nat) : Int)), none]) (by decide +kernel) tX11_arePassed_ok rfl rfl (fun w g hP M => ?_)
  obtain ⟨a0, ⟨a, b, hM, hR, hF, hB⟩, hTE, hRg⟩ := hP
  have ht : Tok a0 := Tok_R hT hTE hRg
  refine M.run 2 (pc' := 2) (lv' := [some (vr o), some (vi ((m : Nat) : Int)), some (vi 0)]) (st' := []) rfl ?_
  have Lp2 : ∀ (N : Nat) (Dx : Dy) (Lx : List Dy) (k : Nat) (a0 : Nat → Int) (ax : Nat → Int) (bx : Nat → Nat → Int) (wx : Wo), (isM o am u ax bx wx) → (Rp ax Dx) → (Fr a0 ax) → (Fb b0 bx) → (TE tl a0) → (Rg a0 Lx) → (Tok a0) → (Dok (n + 110 * ((k : Nat) : Int)) Dx) → (Inv Dx) → (Dx.1 18 ≤ 9999) → (Lok (n + 110 * ((k : Nat) : Int)) Lx) → (sDays X (u 23) m (tl, D, L) = sDays X (u 23) (m - k) (tl, Dx, Lx)) → (k ≤ m) → m - k < N → g 0 0 wx 2 [some (vr o), some (vi ((m : Nat) : Int)), some (vi ((k : Nat) : Int))] [] := by
    intro N
    induction N with
    | zero => intro Dx Lx k a0 ax bx wx _ _ _ _ _ _ _ _ _ _ _ _ _ hN; exact absurd hN (Nat.not_lt_zero _)
    | succ N ih2 =>
      intro Dx Lx k a0 ax bx wx hMx hRx hFx hBx hTE hRg ht hdx hix h9x hLx hI hk hN
      refine M.run 2 (pc' := 4) (lv' := [some (vr o), some (vi ((m : Nat) : Int)), some (vi ((k : Nat) : Int))]) (st' := [vi ((m : Nat) : Int), vi ((k : Nat) : Int)]) rfl ?_
      refine M.icmp_ge (tgt := 36) rfl (qI (by omega)) (qI (by omega)) (by decide) (fun h4 => ?_) (fun h4 => ?_)
      · skip
        refine M.run 1 (pc' := 37) (lv' := [some (vr o), some (vi ((m : Nat) : Int)), some (vi ((k : Nat) : Int))]) (st' := [vi 1]) rfl ?_
        exact M.zret rfl (Or.inr rfl) (Nat.zero_le _) (Nat.zero_le _) ⟨reI (by rw [hI, show m - k = 0 by omega]; rfl), by rw [hI, show m - k = 0 by omega]; exact ⟨a0, ⟨_, _, hMx, hRx, hFx, hBx⟩, hTE, hRg⟩⟩
      · skip
        have hcx := Dok_clk hdx
        refine M.run 1 (pc' := 8) (lv' := [some (vr o), some (vi ((m : Nat) : Int)), some (vi ((k : Nat) : Int))]) (st' := [vr o]) rfl ?_
        refine M.get fl_X11_7 rfl (isM_o hMx) (kf := 0) (v := vr (am 0)) rfl ?_
        refine M.run 1 (pc' := 13) (lv' := [some (vr o), some (vi ((m : Nat) : Int)), some (vi ((k : Nat) : Int))]) (st' := [vi 18, vr (am 0)]) rfl ?_
        refine M.ialdN (18) rfl (isM_a hMx) (by decide) (by decide) ?_
        rw [show ax 18 = Dx.1 18 from Rp_s hRx (k := 18) (by decide) (by decide) (by decide)]
        refine M.run 1 (pc' := 17) (lv' := [some (vr o), some (vi ((m : Nat) : Int)), some (vi ((k : Nat) : Int))]) (st' := [vi 9999, vi (Dx.1 18)]) rfl ?_
        refine M.icmp_ne (tgt := 22) rfl (qI (by omega)) (qI (by decide)) (by decide) (fun h17 => ?_) (fun h17 => ?_)
        · skip
          refine M.run 1 (pc' := 23) (lv' := [some (vr o), some (vi ((m : Nat) : Int)), some (vi ((k : Nat) : Int))]) (st' := [vr o]) rfl ?_
          refine M.callV (eX11_keep l G o am u a0 b0 Dx (n + 110 * ((k : Nat) : Int)) ht hdx (by omega) Lx hRg (Lok_mono (by omega) hLx)) cv_X11_405 cd_X11_keep rfl (st := []) rfl (isM_o hMx) (by decide) (by decide) rfl (Nat.zero_le _) (Nat.zero_le _) ⟨_, _, hMx, hRx, hFx, hBx⟩ (fun r2 w3 q4 => ?_)
          obtain ⟨q4r, a0, ⟨a1, b1, hM1, hR1, hF1, hB1⟩, hTE1, hRg⟩ := q4
          rw [q4r]
          have hL1 : Lok (n + 110 * ((k : Nat) : Int)) (pushL Lx Dx) := Lok_push (Lok_mono (by omega) hLx) hdx hix h9x
          have hTE := TE.tr hTE hTE1
          have ht : Tok a0 := Tok_R hT hTE hRg
          refine M.run 1 (pc' := 27) (lv' := [some (vr o), some (vi ((m : Nat) : Int)), some (vi ((k : Nat) : Int))]) (st' := [vr o]) rfl ?_
          refine M.callV (eX11_tick l G o am u a0 b0 Dx _ ht hdx (by omega) hu X (hXof hTE hX) (Inv_38 hix) (by have q := (hix).1; omega)) cv_X11_410 cd_X11_tick rfl (st := []) rfl (isM_o hM1) (by decide) (by decide) rfl (Nat.zero_le _) (Nat.zero_le _) ⟨_, _, hM1, hR1, hF1, hB1⟩ (fun r7 w8 q9 => ?_)
          rw [c_tick hTE hT hdx] at q9
          obtain ⟨q9r, a6, b6, hM6, hR6, hF6, hB6⟩ := q9
          rw [q9r]
          have hd6 : Dok ((n + 110 * ((k : Nat) : Int)) + 110) (mTick X tl (u 23) Dx) := Dok_tick hT hdx (Inv_38 hix) (by omega) (by have q := (hix).1; omega)
          have hi6 : Inv (mTick X tl (u 23) Dx) := Inv_tick hT hix
          have h96 : (mTick X tl (u 23) Dx).1 18 ≤ 9999 := (by rw [mTick_18]; omega)
          refine M.run 2 (pc' := 2) (lv' := [some (vr o), some (vi ((m : Nat) : Int)), some (vi (((k : Nat) : Int) + 1))]) (st' := []) rfl ?_
          exact ih2 ((mTick X tl (u 23) Dx)) ((pushL Lx Dx)) (k + 1) a0 a6 b6 w8 hM6 hR6 hF6 hB6 hTE hRg ht (Dok_mono (by omega) hd6) hi6 h96 (Lok_mono (by omega) hL1) (by rw [hI, sDays_s (by omega) h17, show m - k - 1 = m - (k + 1) by omega]) (by omega) (by omega)
        · skip
          refine M.run 1 (pc' := 21) (lv' := [some (vr o), some (vi ((m : Nat) : Int)), some (vi ((k : Nat) : Int))]) (st' := [vi 0]) rfl ?_
          exact M.zret rfl (Or.inl rfl) (Nat.zero_le _) (Nat.zero_le _) ⟨reI (by rw [hI, sDays_f (by omega) h17]; rfl), by rw [hI, sDays_f (by omega) h17]; exact ⟨a0, ⟨_, _, hMx, hRx, hFx, hBx⟩, hTE, hRg⟩⟩
  exact Lp2 _ D L 0 a0 a b w hM hR hF hB hTE hRg ht (Dok_mono (by omega) hd) hi hc9 (Lok_mono (by omega) hL) rfl (by omega) (Nat.lt_succ_self _)
