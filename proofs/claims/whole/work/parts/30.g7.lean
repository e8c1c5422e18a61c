/-- a product of the first so many -/
def mOds (f : Nat → Nat) : Nat → Nat
  | 0 => 1
  | k + 1 => mOds f k * f k
theorem mOds_le {f : Nat → Nat} : ∀ k : Nat, (∀ i : Nat, i < k → f i ≤ 10) → mOds f k ≤ 10 ^ k
  | 0, _ => Nat.le_refl _
  | k + 1, h => by
    rw [Nat.pow_succ]
    exact Nat.mul_le_mul (mOds_le k (fun i hi => h i (by omega))) (h k (by omega))
theorem mOds_10 : ∀ k : Nat, mOds (fun _ => 10) k = 10 ^ k
  | 0 => rfl
  | k + 1 => by
    rw [Nat.pow_succ]
    show mOds (fun _ => 10) k * 10 = _
    rw [mOds_10 k]
theorem p18 {k : Nat} (h : k ≤ 18) : 10 ^ k ≤ 1000000000000000000 := Nat.pow_le_pow_right (n := 10) (by decide) h
/-- of ten how many of a piece come -/
def odF (X : Nat → Int → Option Gn) (tl : Nat → Int) (D : Dy) (c : Nat) (i : Nat) : Nat :=
  (10 - mLossA X (stA tl D) (tl 2) 0 ((c : Nat) : Int) (((gP (bPs (mRedOf tl c) (tl 7).toNat) i).2 : Int) - ((gP (bPs (mRedOf tl c) (tl 7).toNat) i).1 : Int))).toNat
theorem isT_up2 {o : Nat} {am : Nat → Nat} {u tl t2 : Nat → Int} {b0 b : Nat → Nat → Int} {D : Dy} {L : List Dy} {w : Wo} {n : Int} {a0 a c : Nat → Int} (hd : Dok n D) (hM : isM o am u c b w) (hR : Rp a D) (hF : Fr a0 a) (hB : Fb b0 b) (hTE : TE tl a0) (hRg : Rg a0 L)
    (h1 : ∀ k : Nat, ((18 ≤ k ∧ k < 986) ∨ 1002 ≤ k ∨ k = 3 ∨ k = 5) → c k = a k) (h2 : ∀ k : Nat, k < 18 → k ≠ 3 → k ≠ 5 → c k = t2 k) (h3 : ∀ k : Nat, 986 ≤ k → k < 1002 → c k = t2 k) : isT o am u t2 b0 D L w :=
  ⟨c, ⟨c, b, hM, Rp_ext hd (fun k k1 k2 => h1 k (by omega)) hR, fun _ _ => rfl, hB⟩, ⟨h2, h3⟩,
    Rg_ext (fun k hk => by rw [h1 k (by omega)]; exact hF k (by omega)) hRg⟩
abbrev sdC (tl : Nat → Int) (x y : Int) : Prop := (0 ≤ x ∧ x ≤ 4) ∧ (0 ≤ y ∧ y ≤ 10) ∧ ¬ tl 4 = 8
def sSaid (x y : Int) (S : TS) : TS := if x = -1 then (uN S.1 4 0, S.2) else if sdC S.1 x y then (uN (uN (uN S.1 (986 + 2 * (S.1 4).toNat) x) (986 + 2 * (S.1 4).toNat + 1) y) 4 (S.1 4 + 1), S.2) else S
def sBy (x : Int) (S : TS) : TS := if -1 ≤ x ∧ x ≤ S.1 1 - 1 then (uN S.1 2 x, S.2) else S
/-- what was said is within its bounds -/
def Sdk (tl : Nat → Int) : Prop := ∀ j : Nat, (j : Int) < tl 4 → (0 ≤ tl (986 + 2 * j) ∧ tl (986 + 2 * j) ≤ 4) ∧ 0 ≤ tl (986 + 2 * j + 1) ∧ tl (986 + 2 * j + 1) ≤ 10
def whoP (X : Nat → Int → Option Gn) (tl : Nat → Int) (D : Dy) (t : Nat) (j : Nat) : Bool := decide (mLossA X (stA tl D) ((t : Nat) : Int) (tl (986 + 2 * j)) 0 0 = tl (986 + 2 * j + 1))

set_option maxHeartbeats 4000000 in
set_option maxRecDepth 100000 in
theorem vX11_spans (l : Launch) (G : GT) (o : Nat) (am : Nat → Nat) (u tl : Nat → Int) (b0 : Nat → Nat → Int) (D : Dy) (L : List Dy) (n : Int) (hT : Tok tl) (hd : Dok n D) (hi : Inv D) (hc9 : D.1 18 ≤ 9999) (hL : Lok n L) (hn : 0 ≤ n ∧ n ≤ 800000000) (hu : u 23 = 0 ∨ u 23 = 1) (X : Nat → Int → Option Gn) (hX : TxOk (b0 2) X (tl 1) ∧ tl 2 < tl 1) (x : Int) (hx : -2147483648 ≤ x ∧ x ≤ 2147483647) : Ctr l G yX11_spans cX11_spans 2 ((Option.some Jvm.ClassFile.FieldType.int)) 6 0 0 [vr o, vi x] (fun w => isT o am u tl b0 D L w) (fun w r w' => r = some (vi (if 0 ≤ x ∧ x ≤ 1073741823 then (((bPs x.toNat 30).length : Nat) : Int) else -1)) ∧ w' = w) := by
  refine Ctr.of (t := tX11_spans) (lv0 := [some (vr o), some (vi x)]) (by decide +kernel) tX11_spans_ok rfl rfl (fun w g hP M => ?_)
  obtain ⟨a0, ⟨a, b, hM, hR, hF, hB⟩, hTE, hRg⟩ := hP
  have ht : Tok a0 := Tok_R hT hTE hRg
  refine M.run 1 (pc' := 1) (lv' := [some (vr o), some (vi x)]) (st' := [vi x]) rfl ?_
  refine M.callS (kX11_isBits l G x (qI (by omega))) cs_X11_470 cd_X11_isBits rfl (st := []) rfl (by decide) (by decide) rfl (Nat.zero_le _) (Nat.zero_le _) trivial (fun r1 w2 q3 => ?_)
  rw [q3.1, q3.2]
  refine M.if_eq (tgt := 14) rfl (inI_zb _) (by decide) (fun h4 => ?_) (fun h4 => ?_)
  · skip
    replace h4 := zb_fd h4
    refine M.run 1 (pc' := 15) (lv' := [some (vr o), some (vi x)]) (st' := [vi (-1)]) rfl ?_
    exact M.iret rfl (Nat.zero_le _) (Nat.zero_le _) ⟨reI (if_neg h4).symm, rfl⟩
  · skip
    replace h4 := zb_td h4
    have h04 := h4
    obtain ⟨c, rfl⟩ := Int.eq_ofNat_of_zero_le (show (0 : Int) ≤ x from h4.1)
    refine M.run 1 (pc' := 8) (lv' := [some (vr o), some (vi ((c : Nat) : Int))]) (st' := [vi ((c : Nat) : Int)]) rfl ?_
    refine M.callS (kX11_spansOf l G c (by omega)) cs_X11_434 cd_X11_spansOf rfl (st := []) rfl (by decide) (by decide) rfl (Nat.zero_le _) (Nat.zero_le _) trivial (fun r5 w6 q7 => ?_)
    rw [q7.1, q7.2]
    refine M.run 1 (pc' := 15) (lv' := [some (vr o), some (vi ((c : Nat) : Int))]) (st' := [vi (((bPs c 30).length : Nat) : Int)]) rfl ?_
    exact M.iret rfl (Nat.zero_le _) (Nat.zero_le _) ⟨reI (if_pos h04).symm, rfl⟩
set_option maxHeartbeats 4000000 in
set_option maxRecDepth 100000 in
theorem vX11_span (l : Launch) (G : GT) (o : Nat) (am : Nat → Nat) (u tl : Nat → Int) (b0 : Nat → Nat → Int) (D : Dy) (L : List Dy) (n : Int) (hT : Tok tl) (hd : Dok n D) (hi : Inv D) (hc9 : D.1 18 ≤ 9999) (hL : Lok n L) (hn : 0 ≤ n ∧ n ≤ 800000000) (hu : u 23 = 0 ∨ u 23 = 1) (X : Nat → Int → Option Gn) (hX : TxOk (b0 2) X (tl 1) ∧ tl 2 < tl 1) (x : Int) (y : Int) (z : Int) (hx : -2147483648 ≤ x ∧ x ≤ 2147483647) (hy : -2147483648 ≤ y ∧ y ≤ 2147483647) (hz : -2147483648 ≤ z ∧ z ≤ 2147483647) : Ctr l G yX11_span cX11_span 4 ((Option.some Jvm.ClassFile.FieldType.int)) 6 0 0 [vr o, vi x, vi y, vi z] (fun w => isT o am u tl b0 D L w) (fun w r w' => r = some (vi (if (0 ≤ x ∧ x ≤ 1073741823) ∧ 0 ≤ y ∧ y < (((bPs x.toNat 30).length : Nat) : Int) then bEg (bPs x.toNat 30) y.toNat z else -1)) ∧ w' = w) := by
  refine Ctr.of (t := tX11_span) (lv0 := [some (vr o), some (vi x), some (vi y), some (vi z)]) (by decide +kernel) tX11_span_ok rfl rfl (fun w g hP M => ?_)
  obtain ⟨a0, ⟨a, b, hM, hR, hF, hB⟩, hTE, hRg⟩ := hP
  have ht : Tok a0 := Tok_R hT hTE hRg
  refine M.run 1 (pc' := 1) (lv' := [some (vr o), some (vi x), some (vi y), some (vi z)]) (st' := [vi x]) rfl ?_
  refine M.callS (kX11_isBits l G x (qI (by omega))) cs_X11_470 cd_X11_isBits rfl (st := []) rfl (by decide) (by decide) rfl (Nat.zero_le _) (Nat.zero_le _) trivial (fun r1 w2 q3 => ?_)
  rw [q3.1, q3.2]
  refine M.if_eq (tgt := 30) rfl (inI_zb _) (by decide) (fun h4 => ?_) (fun h4 => ?_)
  · skip
    replace h4 := zb_fd h4
    refine M.run 1 (pc' := 31) (lv' := [some (vr o), some (vi x), some (vi y), some (vi z)]) (st' := [vi (-1)]) rfl ?_
    exact M.iret rfl (Nat.zero_le _) (Nat.zero_le _) ⟨reI (if_neg (fun q => h4 q.1)).symm, rfl⟩
  · skip
    replace h4 := zb_td h4
    have h04 := h4
    obtain ⟨c, rfl⟩ := Int.eq_ofNat_of_zero_le (show (0 : Int) ≤ x from h4.1)
    have hlen : (bPs c 30).length ≤ 30 := bPsF_len c 30 (by decide) 30 0 (by omega)
    refine M.run 3 (pc' := 10) (lv' := [some (vr o), some (vi ((c : Nat) : Int)), some (vi y), some (vi z)]) (st' := [vi ((c : Nat) : Int), vi 0, vi y]) rfl ?_
    refine M.callS (kX11_spansOf l G c (by omega)) cs_X11_434 cd_X11_spansOf rfl (st := [vi 0, vi y]) rfl (by decide) (by decide) rfl (Nat.zero_le _) (Nat.zero_le _) trivial (fun r5 w6 q7 => ?_)
    rw [q7.1, q7.2]
    refine M.run 2 (pc' := 15) (lv' := [some (vr o), some (vi ((c : Nat) : Int)), some (vi y), some (vi z)]) (st' := [vi ((((bPs c 30).length : Nat) : Int) - 1), vi 0, vi y]) rfl ?_
    refine M.callS (kX11_isIn l G y 0 ((((bPs c 30).length : Nat) : Int) - 1) (qI (by omega)) (qI (by omega)) (qI (by omega))) cs_X11_50 cd_X11_isIn rfl (st := []) rfl (by decide) (by decide) rfl (Nat.zero_le _) (Nat.zero_le _) trivial (fun r9 w10 q11 => ?_)
    rw [q11.1, q11.2]
    refine M.if_eq (tgt := 30) rfl (inI_zb _) (by decide) (fun h18 => ?_) (fun h18 => ?_)
    · skip
      replace h18 := zb_fd h18
      refine M.run 1 (pc' := 31) (lv' := [some (vr o), some (vi ((c : Nat) : Int)), some (vi y), some (vi z)]) (st' := [vi (-1)]) rfl ?_
      exact M.iret rfl (Nat.zero_le _) (Nat.zero_le _) ⟨reI (if_neg (fun q => h18 (by have q2 := q.2; have q3 : 0 ≤ y ∧ y < (((bPs c 30).length : Nat) : Int) := q2; omega))).symm, rfl⟩
    · skip
      replace h18 := zb_td h18
      have h018 := h18
      obtain ⟨i, rfl⟩ := Int.eq_ofNat_of_zero_le (show (0 : Int) ≤ y from h18.1)
      refine M.run 3 (pc' := 24) (lv' := [some (vr o), some (vi ((c : Nat) : Int)), some (vi ((i : Nat) : Int)), some (vi z)]) (st' := [vi z, vi ((i : Nat) : Int), vi ((c : Nat) : Int)]) rfl ?_
      refine M.callS (kX11_spanOf l G c (by omega) i (by omega) z (by omega)) cs_X11_437 cd_X11_spanOf rfl (st := []) rfl (by decide) (by decide) rfl (Nat.zero_le _) (Nat.zero_le _) trivial (fun r13 w14 q15 => ?_)
      rw [q15.1, q15.2]
      refine M.run 1 (pc' := 31) (lv' := [some (vr o), some (vi ((c : Nat) : Int)), some (vi ((i : Nat) : Int)), some (vi z)]) (st' := [vi (bEg (bPs c 30) i z)]) rfl ?_
      exact M.iret rfl (Nat.zero_le _) (Nat.zero_le _) ⟨reI (if_pos (And.intro h04 (by show 0 ≤ ((i : Nat) : Int) ∧ ((i : Nat) : Int) < (((bPs c 30).length : Nat) : Int); omega))).symm, rfl⟩
set_option maxHeartbeats 4000000 in
set_option maxRecDepth 100000 in
theorem vX11_within (l : Launch) (G : GT) (o : Nat) (am : Nat → Nat) (u tl : Nat → Int) (b0 : Nat → Nat → Int) (D : Dy) (L : List Dy) (n : Int) (hT : Tok tl) (hd : Dok n D) (hi : Inv D) (hc9 : D.1 18 ≤ 9999) (hL : Lok n L) (hn : 0 ≤ n ∧ n ≤ 800000000) (hu : u 23 = 0 ∨ u 23 = 1) (X : Nat → Int → Option Gn) (hX : TxOk (b0 2) X (tl 1) ∧ tl 2 < tl 1) (x : Int) (y : Int) (z : Int) (hx : -2147483648 ≤ x ∧ x ≤ 2147483647) (hy : -2147483648 ≤ y ∧ y ≤ 2147483647) (hz : -2147483648 ≤ z ∧ z ≤ 2147483647) : Ctr l G yX11_within cX11_within 4 ((Option.some Jvm.ClassFile.FieldType.int)) 6 0 0 [vr o, vi x, vi y, vi z] (fun w => isT o am u tl b0 D L w) (fun w r w' => r = some (vi (if (0 ≤ x ∧ x ≤ 1073741823) ∧ (0 ≤ z ∧ z ≤ 30) ∧ 0 ≤ y ∧ y ≤ z then ((x.toNat &&& bIn y.toNat z.toNat : Nat) : Int) else -1)) ∧ w' = w) := by
  refine Ctr.of (t := tX11_within) (lv0 := [some (vr o), some (vi x), some (vi y), some (vi z)]) (by decide +kernel) tX11_within_ok rfl rfl (fun w g hP M => ?_)
  obtain ⟨a0, ⟨a, b, hM, hR, hF, hB⟩, hTE, hRg⟩ := hP
  have ht : Tok a0 := Tok_R hT hTE hRg
  refine M.run 1 (pc' := 1) (lv' := [some (vr o), some (vi x), some (vi y), some (vi z)]) (st' := [vi x]) rfl ?_
  refine M.callS (kX11_isBits l G x (qI (by omega))) cs_X11_470 cd_X11_isBits rfl (st := []) rfl (by decide) (by decide) rfl (Nat.zero_le _) (Nat.zero_le _) trivial (fun r1 w2 q3 => ?_)
  rw [q3.1, q3.2]
  refine M.if_eq (tgt := 36) rfl (inI_zb _) (by decide) (fun h4 => ?_) (fun h4 => ?_)
  · skip
    replace h4 := zb_fd h4
    refine M.run 1 (pc' := 37) (lv' := [some (vr o), some (vi x), some (vi y), some (vi z)]) (st' := [vi (-1)]) rfl ?_
    exact M.iret rfl (Nat.zero_le _) (Nat.zero_le _) ⟨reI (if_neg (by omega)).symm, rfl⟩
  · skip
    replace h4 := zb_td h4
    refine M.run 3 (pc' := 11) (lv' := [some (vr o), some (vi x), some (vi y), some (vi z)]) (st' := [vi 30, vi 0, vi z]) rfl ?_
    refine M.callS (kX11_isIn l G z 0 30 (qI (by omega)) (qI (by omega)) (qI (by omega))) cs_X11_50 cd_X11_isIn rfl (st := []) rfl (by decide) (by decide) rfl (Nat.zero_le _) (Nat.zero_le _) trivial (fun r5 w6 q7 => ?_)
    rw [q7.1, q7.2]
    refine M.if_eq (tgt := 36) rfl (inI_zb _) (by decide) (fun h14 => ?_) (fun h14 => ?_)
    · skip
      replace h14 := zb_fd h14
      refine M.run 1 (pc' := 37) (lv' := [some (vr o), some (vi x), some (vi y), some (vi z)]) (st' := [vi (-1)]) rfl ?_
      exact M.iret rfl (Nat.zero_le _) (Nat.zero_le _) ⟨reI (if_neg (by omega)).symm, rfl⟩
    · skip
      replace h14 := zb_td h14
      refine M.run 3 (pc' := 20) (lv' := [some (vr o), some (vi x), some (vi y), some (vi z)]) (st' := [vi z, vi 0, vi y]) rfl ?_
      refine M.callS (kX11_isIn l G y 0 z (qI (by omega)) (qI (by omega)) (qI (by omega))) cs_X11_50 cd_X11_isIn rfl (st := []) rfl (by decide) (by decide) rfl (Nat.zero_le _) (Nat.zero_le _) trivial (fun r9 w10 q11 => ?_)
      rw [q11.1, q11.2]
      refine M.if_eq (tgt := 36) rfl (inI_zb _) (by decide) (fun h23 => ?_) (fun h23 => ?_)
      · skip
        replace h23 := zb_fd h23
        refine M.run 1 (pc' := 37) (lv' := [some (vr o), some (vi x), some (vi y), some (vi z)]) (st' := [vi (-1)]) rfl ?_
        exact M.iret rfl (Nat.zero_le _) (Nat.zero_le _) ⟨reI (if_neg (by omega)).symm, rfl⟩
      · skip
        replace h23 := zb_td h23
        have hall : (0 ≤ x ∧ x ≤ 1073741823) ∧ (0 ≤ z ∧ z ≤ 30) ∧ 0 ≤ y ∧ y ≤ z := And.intro h4 (And.intro h14 h23)
        obtain ⟨c, rfl⟩ := Int.eq_ofNat_of_zero_le (show (0 : Int) ≤ x from h4.1)
        obtain ⟨f, rfl⟩ := Int.eq_ofNat_of_zero_le (show (0 : Int) ≤ y from h23.1)
        obtain ⟨t, rfl⟩ := Int.eq_ofNat_of_zero_le (show (0 : Int) ≤ z from h14.1)
        have hbi := bIn_lt (f := f) (t := t) (by omega)
        refine M.run 3 (pc' := 29) (lv' := [some (vr o), some (vi ((c : Nat) : Int)), some (vi ((f : Nat) : Int)), some (vi ((t : Nat) : Int))]) (st' := [vi ((t : Nat) : Int), vi ((f : Nat) : Int), vi ((c : Nat) : Int)]) rfl ?_
        refine M.callS (kX11_bytesIn l G f t (by omega) (by omega)) cs_X11_54 cd_X11_bytesIn rfl (st := [vi ((c : Nat) : Int)]) rfl (by decide) (by decide) rfl (Nat.zero_le _) (Nat.zero_le _) trivial (fun r13 w14 q15 => ?_)
        rw [q15.1, q15.2]
        refine M.iand (b1 := c) (b2 := bIn f t) rfl (by omega) (by omega) ?_
        have hl17 := Nat.and_le_left (n := c) (m := bIn f t)
        have hr18 := Nat.and_le_right (n := c) (m := bIn f t)
        refine M.run 1 (pc' := 37) (lv' := [some (vr o), some (vi ((c : Nat) : Int)), some (vi ((f : Nat) : Int)), some (vi ((t : Nat) : Int))]) (st' := [vi ((c &&& (bIn f t) : Nat) : Int)]) rfl ?_
        exact M.iret rfl (Nat.zero_le _) (Nat.zero_le _) ⟨reI (if_pos hall).symm, rfl⟩
set_option maxHeartbeats 4000000 in
set_option maxRecDepth 100000 in
theorem vX11_pieces (l : Launch) (G : GT) (o : Nat) (am : Nat → Nat) (u tl : Nat → Int) (b0 : Nat → Nat → Int) (D : Dy) (L : List Dy) (n : Int) (hT : Tok tl) (hd : Dok n D) (hi : Inv D) (hc9 : D.1 18 ≤ 9999) (hL : Lok n L) (hn : 0 ≤ n ∧ n ≤ 800000000) (hu : u 23 = 0 ∨ u 23 = 1) (X : Nat → Int → Option Gn) (hX : TxOk (b0 2) X (tl 1) ∧ tl 2 < tl 1) (x : Int) (hx : -2147483648 ≤ x ∧ x ≤ 2147483647) : Ctr l G yX11_pieces cX11_pieces 2 ((Option.some Jvm.ClassFile.FieldType.int)) 6 0 0 [vr o, vi x] (fun w => isT o am u tl b0 D L w) (fun w r w' => r = some (vi (if 0 ≤ x ∧ x ≤ 1073741823 then (((bPs x.toNat (tl 7).toNat).length : Nat) : Int) else -1)) ∧ w' = w) := by
  refine Ctr.of (t := tX11_pieces) (lv0 := [some (vr o), some (vi x)]) (by decide +kernel) tX11_pieces_ok rfl rfl (fun w g hP M => ?_)
  obtain ⟨a0, ⟨a, b, hM, hR, hF, hB⟩, hTE, hRg⟩ := hP
  have ht : Tok a0 := Tok_R hT hTE hRg
  have hk7 : 1 ≤ tl 7 ∧ tl 7 ≤ 9 := hT.1 7 (by decide)
  refine M.run 1 (pc' := 1) (lv' := [some (vr o), some (vi x)]) (st' := [vi x]) rfl ?_
  refine M.callS (kX11_isBits l G x (qI (by omega))) cs_X11_470 cd_X11_isBits rfl (st := []) rfl (by decide) (by decide) rfl (Nat.zero_le _) (Nat.zero_le _) trivial (fun r1 w2 q3 => ?_)
  rw [q3.1, q3.2]
  refine M.if_eq (tgt := 15) rfl (inI_zb _) (by decide) (fun h4 => ?_) (fun h4 => ?_)
  · skip
    replace h4 := zb_fd h4
    refine M.run 1 (pc' := 16) (lv' := [some (vr o), some (vi x)]) (st' := [vi (-1)]) rfl ?_
    exact M.iret rfl (Nat.zero_le _) (Nat.zero_le _) (by first | assumption | omega | simp_all)
  · skip
    replace h4 := zb_td h4
    have h04 := h4
    obtain ⟨c, rfl⟩ := Int.eq_ofNat_of_zero_le (show (0 : Int) ≤ x from h4.1)
    refine M.run 2 (pc' := 9) (lv' := [some (vr o), some (vi ((c : Nat) : Int))]) (st' := [vi ((c : Nat) : Int), vr o]) rfl ?_
    refine M.callV (kX11_piecesOf l G o am u a b c (by omega) (Mok_of ht hd (by omega) hR hF)) cv_X11_307 cd_X11_piecesOf rfl (st := []) rfl (isM_o hM) (by decide) (by decide) rfl (Nat.zero_le _) (Nat.zero_le _) hM (fun r5 w6 q7 => ?_)
    rw [q7.1, q7.2]
    rw [show a 7 = tl 7 from (hF 7 (Or.inl (by decide))).trans (hTE.1 7 (by decide) (by decide) (by decide))]
    have hpl : (bPs c (tl 7).toNat).length ≤ 30 := bPsF_len c (tl 7).toNat (by have := hT.1 7 (by decide); have h71 : 1 ≤ tl 7 := (hT.1 7 (by decide)).1; omega) 30 0 (by omega)
    refine M.run 1 (pc' := 16) (lv' := [some (vr o), some (vi ((c : Nat) : Int))]) (st' := [vi (((bPs c (tl 7).toNat).length : Nat) : Int)]) rfl ?_
    exact M.iret rfl (Nat.zero_le _) (Nat.zero_le _) (by first | assumption | omega | simp_all)
set_option maxHeartbeats 4000000 in
set_option maxRecDepth 100000 in
theorem vX11_piece (l : Launch) (G : GT) (o : Nat) (am : Nat → Nat) (u tl : Nat → Int) (b0 : Nat → Nat → Int) (D : Dy) (L : List Dy) (n : Int) (hT : Tok tl) (hd : Dok n D) (hi : Inv D) (hc9 : D.1 18 ≤ 9999) (hL : Lok n L) (hn : 0 ≤ n ∧ n ≤ 800000000) (hu : u 23 = 0 ∨ u 23 = 1) (X : Nat → Int → Option Gn) (hX : TxOk (b0 2) X (tl 1) ∧ tl 2 < tl 1) (x : Int) (y : Int) (z : Int) (hx : -2147483648 ≤ x ∧ x ≤ 2147483647) (hy : -2147483648 ≤ y ∧ y ≤ 2147483647) (hz : -2147483648 ≤ z ∧ z ≤ 2147483647) : Ctr l G yX11_piece cX11_piece 4 ((Option.some Jvm.ClassFile.FieldType.int)) 6 0 0 [vr o, vi x, vi y, vi z] (fun w => isT o am u tl b0 D L w) (fun w r w' => r = some (vi (if (0 ≤ x ∧ x ≤ 1073741823) ∧ 0 ≤ y ∧ y < (((bPs x.toNat (tl 7).toNat).length : Nat) : Int) then bEg (bPs x.toNat (tl 7).toNat) y.toNat z else -1)) ∧ w' = w) := by
  refine Ctr.of (t := tX11_piece) (lv0 := [some (vr o), some (vi x), some (vi y), some (vi z)]) (by decide +kernel) tX11_piece_ok rfl rfl (fun w g hP M => ?_)
  obtain ⟨a0, ⟨a, b, hM, hR, hF, hB⟩, hTE, hRg⟩ := hP
  have ht : Tok a0 := Tok_R hT hTE hRg
  have hk7 : 1 ≤ tl 7 ∧ tl 7 ≤ 9 := hT.1 7 (by decide)
  refine M.run 1 (pc' := 1) (lv' := [some (vr o), some (vi x), some (vi y), some (vi z)]) (st' := [vi x]) rfl ?_
  refine M.callS (kX11_isBits l G x (qI (by omega))) cs_X11_470 cd_X11_isBits rfl (st := []) rfl (by decide) (by decide) rfl (Nat.zero_le _) (Nat.zero_le _) trivial (fun r1 w2 q3 => ?_)
  rw [q3.1, q3.2]
  refine M.if_eq (tgt := 32) rfl (inI_zb _) (by decide) (fun h4 => ?_) (fun h4 => ?_)
  · skip
    replace h4 := zb_fd h4
    refine M.run 1 (pc' := 33) (lv' := [some (vr o), some (vi x), some (vi y), some (vi z)]) (st' := [vi (-1)]) rfl ?_
    exact M.iret rfl (Nat.zero_le _) (Nat.zero_le _) ⟨reI (if_neg (fun q => h4 q.1)).symm, rfl⟩
  · skip
    replace h4 := zb_td h4
    have h04 := h4
    obtain ⟨c, rfl⟩ := Int.eq_ofNat_of_zero_le (show (0 : Int) ≤ x from h4.1)
    refine M.run 4 (pc' := 11) (lv' := [some (vr o), some (vi ((c : Nat) : Int)), some (vi y), some (vi z)]) (st' := [vi ((c : Nat) : Int), vr o, vi 0, vi y]) rfl ?_
    refine M.callV (kX11_piecesOf l G o am u a b c (by omega) (Mok_of ht hd (by omega) hR hF)) cv_X11_307 cd_X11_piecesOf rfl (st := [vi 0, vi y]) rfl (isM_o hM) (by decide) (by decide) rfl (Nat.zero_le _) (Nat.zero_le _) hM (fun r5 w6 q7 => ?_)
    rw [q7.1, q7.2]
    rw [show a 7 = tl 7 from (hF 7 (Or.inl (by decide))).trans (hTE.1 7 (by decide) (by decide) (by decide))]
    have hpl : (bPs c (tl 7).toNat).length ≤ 30 := bPsF_len c (tl 7).toNat (by have := hT.1 7 (by decide); have h71 : 1 ≤ tl 7 := (hT.1 7 (by decide)).1; omega) 30 0 (by omega)
    refine M.run 2 (pc' := 16) (lv' := [some (vr o), some (vi ((c : Nat) : Int)), some (vi y), some (vi z)]) (st' := [vi ((((bPs c (tl 7).toNat).length : Nat) : Int) - 1), vi 0, vi y]) rfl ?_
    refine M.callS (kX11_isIn l G y 0 ((((bPs c (tl 7).toNat).length : Nat) : Int) - 1) (qI (by omega)) (qI (by omega)) (qI (by omega))) cs_X11_50 cd_X11_isIn rfl (st := []) rfl (by decide) (by decide) rfl (Nat.zero_le _) (Nat.zero_le _) trivial (fun r9 w10 q11 => ?_)
    rw [q11.1, q11.2]
    refine M.if_eq (tgt := 32) rfl (inI_zb _) (by decide) (fun h19 => ?_) (fun h19 => ?_)
    · skip
      replace h19 := zb_fd h19
      refine M.run 1 (pc' := 33) (lv' := [some (vr o), some (vi ((c : Nat) : Int)), some (vi y), some (vi z)]) (st' := [vi (-1)]) rfl ?_
      exact M.iret rfl (Nat.zero_le _) (Nat.zero_le _) ⟨reI (if_neg (fun q => h19 (by have q2 := q.2; have q3 : 0 ≤ y ∧ y < (((bPs c (tl 7).toNat).length : Nat) : Int) := q2; omega))).symm, rfl⟩
    · skip
      replace h19 := zb_td h19
      have h019 := h19
      obtain ⟨i, rfl⟩ := Int.eq_ofNat_of_zero_le (show (0 : Int) ≤ y from h19.1)
      refine M.run 4 (pc' := 26) (lv' := [some (vr o), some (vi ((c : Nat) : Int)), some (vi ((i : Nat) : Int)), some (vi z)]) (st' := [vi z, vi ((i : Nat) : Int), vi ((c : Nat) : Int), vr o]) rfl ?_
      refine M.callV (kX11_pieceOf l G o am u a b c (by omega) i (by rw [hF 7 (Or.inl (by decide)), hTE.1 7 (by decide) (by decide) (by decide)]; omega) z (by omega) (Mok_of ht hd (by omega) hR hF)) cv_X11_310 cd_X11_pieceOf rfl (st := []) rfl (isM_o hM) (by decide) (by decide) rfl (Nat.zero_le _) (Nat.zero_le _) hM (fun r13 w14 q15 => ?_)
      rw [q15.1, q15.2]
      rw [show a 7 = tl 7 from (hF 7 (Or.inl (by decide))).trans (hTE.1 7 (by decide) (by decide) (by decide))]
      refine M.run 1 (pc' := 33) (lv' := [some (vr o), some (vi ((c : Nat) : Int)), some (vi ((i : Nat) : Int)), some (vi z)]) (st' := [vi (bEg (bPs c (tl 7).toNat) i z)]) rfl ?_
      exact M.iret rfl (Nat.zero_le _) (Nat.zero_le _) ⟨reI (if_pos (And.intro h04 (by show 0 ≤ ((i : Nat) : Int) ∧ ((i : Nat) : Int) < (((bPs c (tl 7).toNat).length : Nat) : Int); omega))).symm, rfl⟩
set_option maxHeartbeats 4000000 in
set_option maxRecDepth 100000 in
theorem vX11_join (l : Launch) (G : GT) (o : Nat) (am : Nat → Nat) (u tl : Nat → Int) (b0 : Nat → Nat → Int) (D : Dy) (L : List Dy) (n : Int) (hT : Tok tl) (hd : Dok n D) (hi : Inv D) (hc9 : D.1 18 ≤ 9999) (hL : Lok n L) (hn : 0 ≤ n ∧ n ≤ 800000000) (hu : u 23 = 0 ∨ u 23 = 1) (X : Nat → Int → Option Gn) (hX : TxOk (b0 2) X (tl 1) ∧ tl 2 < tl 1) (x : Int) (y : Int) (hx : -2147483648 ≤ x ∧ x ≤ 2147483647) (hy : -2147483648 ≤ y ∧ y ≤ 2147483647) : Ctr l G yX11_join cX11_join 3 ((Option.some Jvm.ClassFile.FieldType.int)) 6 0 0 [vr o, vi x, vi y] (fun w => isT o am u tl b0 D L w) (fun w r w' => r = some (vi (if (0 ≤ x ∧ x ≤ 1073741823) ∧ 0 ≤ y ∧ y ≤ 1073741823 then ((x.toNat ||| y.toNat : Nat) : Int) else -1)) ∧ w' = w) := by
  refine Ctr.of (t := tX11_join) (lv0 := [some (vr o), some (vi x), some (vi y)]) (by decide +kernel) tX11_join_ok rfl rfl (fun w g hP M => ?_)
  obtain ⟨a0, ⟨a, b, hM, hR, hF, hB⟩, hTE, hRg⟩ := hP
  have ht : Tok a0 := Tok_R hT hTE hRg
  refine M.run 1 (pc' := 1) (lv' := [some (vr o), some (vi x), some (vi y)]) (st' := [vi x]) rfl ?_
  refine M.callS (kX11_isBits l G x (qI (by omega))) cs_X11_470 cd_X11_isBits rfl (st := []) rfl (by decide) (by decide) rfl (Nat.zero_le _) (Nat.zero_le _) trivial (fun r1 w2 q3 => ?_)
  rw [q3.1, q3.2]
  refine M.if_eq (tgt := 20) rfl (inI_zb _) (by decide) (fun h4 => ?_) (fun h4 => ?_)
  · skip
    replace h4 := zb_fd h4
    refine M.run 1 (pc' := 21) (lv' := [some (vr o), some (vi x), some (vi y)]) (st' := [vi (-1)]) rfl ?_
    exact M.iret rfl (Nat.zero_le _) (Nat.zero_le _) ⟨reI (if_neg (by omega)).symm, rfl⟩
  · skip
    replace h4 := zb_td h4
    refine M.run 1 (pc' := 8) (lv' := [some (vr o), some (vi x), some (vi y)]) (st' := [vi y]) rfl ?_
    refine M.callS (kX11_isBits l G y (qI (by omega))) cs_X11_470 cd_X11_isBits rfl (st := []) rfl (by decide) (by decide) rfl (Nat.zero_le _) (Nat.zero_le _) trivial (fun r5 w6 q7 => ?_)
    rw [q7.1, q7.2]
    refine M.if_eq (tgt := 20) rfl (inI_zb _) (by decide) (fun h11 => ?_) (fun h11 => ?_)
    · skip
      replace h11 := zb_fd h11
      refine M.run 1 (pc' := 21) (lv' := [some (vr o), some (vi x), some (vi y)]) (st' := [vi (-1)]) rfl ?_
      exact M.iret rfl (Nat.zero_le _) (Nat.zero_le _) ⟨reI (if_neg (by omega)).symm, rfl⟩
    · skip
      replace h11 := zb_td h11
      have hall : (0 ≤ x ∧ x ≤ 1073741823) ∧ 0 ≤ y ∧ y ≤ 1073741823 := And.intro h4 h11
      obtain ⟨c, rfl⟩ := Int.eq_ofNat_of_zero_le (show (0 : Int) ≤ x from h4.1)
      obtain ⟨e, rfl⟩ := Int.eq_ofNat_of_zero_le (show (0 : Int) ≤ y from h11.1)
      refine M.run 2 (pc' := 16) (lv' := [some (vr o), some (vi ((c : Nat) : Int)), some (vi ((e : Nat) : Int))]) (st' := [vi ((e : Nat) : Int), vi ((c : Nat) : Int)]) rfl ?_
      refine M.ior (b1 := c) (b2 := e) rfl (by omega) (by omega) ?_
      refine M.run 1 (pc' := 21) (lv' := [some (vr o), some (vi ((c : Nat) : Int)), some (vi ((e : Nat) : Int))]) (st' := [vi ((c ||| e : Nat) : Int)]) rfl ?_
      exact M.iret rfl (Nat.zero_le _) (Nat.zero_le _) ⟨reI (if_pos hall).symm, rfl⟩
set_option maxHeartbeats 4000000 in
set_option maxRecDepth 100000 in
theorem vX11_less (l : Launch) (G : GT) (o : Nat) (am : Nat → Nat) (u tl : Nat → Int) (b0 : Nat → Nat → Int) (D : Dy) (L : List Dy) (n : Int) (hT : Tok tl) (hd : Dok n D) (hi : Inv D) (hc9 : D.1 18 ≤ 9999) (hL : Lok n L) (hn : 0 ≤ n ∧ n ≤ 800000000) (hu : u 23 = 0 ∨ u 23 = 1) (X : Nat → Int → Option Gn) (hX : TxOk (b0 2) X (tl 1) ∧ tl 2 < tl 1) (x : Int) (y : Int) (hx : -2147483648 ≤ x ∧ x ≤ 2147483647) (hy : -2147483648 ≤ y ∧ y ≤ 2147483647) : Ctr l G yX11_less cX11_less 3 ((Option.some Jvm.ClassFile.FieldType.int)) 6 0 0 [vr o, vi x, vi y] (fun w => isT o am u tl b0 D L w) (fun w r w' => r = some (vi (if (0 ≤ x ∧ x ≤ 1073741823) ∧ 0 ≤ y ∧ y ≤ 1073741823 then ((bDf x.toNat y.toNat : Nat) : Int) else -1)) ∧ w' = w) := by
  refine Ctr.of (t := tX11_less) (lv0 := [some (vr o), some (vi x), some (vi y)]) (by decide +kernel) tX11_less_ok rfl rfl (fun w g hP M => ?_)
  obtain ⟨a0, ⟨a, b, hM, hR, hF, hB⟩, hTE, hRg⟩ := hP
  have ht : Tok a0 := Tok_R hT hTE hRg
  refine M.run 1 (pc' := 1) (lv' := [some (vr o), some (vi x), some (vi y)]) (st' := [vi x]) rfl ?_
  refine M.callS (kX11_isBits l G x (qI (by omega))) cs_X11_470 cd_X11_isBits rfl (st := []) rfl (by decide) (by decide) rfl (Nat.zero_le _) (Nat.zero_le _) trivial (fun r1 w2 q3 => ?_)
  rw [q3.1, q3.2]
  refine M.if_eq (tgt := 22) rfl (inI_zb _) (by decide) (fun h4 => ?_) (fun h4 => ?_)
  · skip
    replace h4 := zb_fd h4
    refine M.run 1 (pc' := 23) (lv' := [some (vr o), some (vi x), some (vi y)]) (st' := [vi (-1)]) rfl ?_
    exact M.iret rfl (Nat.zero_le _) (Nat.zero_le _) ⟨reI (if_neg (by omega)).symm, rfl⟩
  · skip
    replace h4 := zb_td h4
    refine M.run 1 (pc' := 8) (lv' := [some (vr o), some (vi x), some (vi y)]) (st' := [vi y]) rfl ?_
    refine M.callS (kX11_isBits l G y (qI (by omega))) cs_X11_470 cd_X11_isBits rfl (st := []) rfl (by decide) (by decide) rfl (Nat.zero_le _) (Nat.zero_le _) trivial (fun r5 w6 q7 => ?_)
    rw [q7.1, q7.2]
    refine M.if_eq (tgt := 22) rfl (inI_zb _) (by decide) (fun h11 => ?_) (fun h11 => ?_)
    · skip
      replace h11 := zb_fd h11
      refine M.run 1 (pc' := 23) (lv' := [some (vr o), some (vi x), some (vi y)]) (st' := [vi (-1)]) rfl ?_
      exact M.iret rfl (Nat.zero_le _) (Nat.zero_le _) ⟨reI (if_neg (by omega)).symm, rfl⟩
    · skip
      replace h11 := zb_td h11
      have hall : (0 ≤ x ∧ x ≤ 1073741823) ∧ 0 ≤ y ∧ y ≤ 1073741823 := And.intro h4 h11
      obtain ⟨c, rfl⟩ := Int.eq_ofNat_of_zero_le (show (0 : Int) ≤ x from h4.1)
      obtain ⟨e, rfl⟩ := Int.eq_ofNat_of_zero_le (show (0 : Int) ≤ y from h11.1)
      refine M.run 3 (pc' := 17) (lv' := [some (vr o), some (vi ((c : Nat) : Int)), some (vi ((e : Nat) : Int))]) (st' := [vi (-1), vi ((e : Nat) : Int), vi ((c : Nat) : Int)]) rfl ?_
      refine M.ixm1 (b1 := e) rfl ?_
      refine M.iandn (b1 := c) (b2 := e) rfl (by omega) (by omega) ?_
      refine M.run 1 (pc' := 23) (lv' := [some (vr o), some (vi ((c : Nat) : Int)), some (vi ((e : Nat) : Int))]) (st' := [vi ((bDf c e : Nat) : Int)]) rfl ?_
      exact M.iret rfl (Nat.zero_le _) (Nat.zero_le _) ⟨reI (if_pos hall).symm, rfl⟩
set_option maxHeartbeats 4000000 in
set_option maxRecDepth 100000 in
theorem vX11_longest (l : Launch) (G : GT) (o : Nat) (am : Nat → Nat) (u tl : Nat → Int) (b0 : Nat → Nat → Int) (D : Dy) (L : List Dy) (n : Int) (hT : Tok tl) (hd : Dok n D) (hi : Inv D) (hc9 : D.1 18 ≤ 9999) (hL : Lok n L) (hn : 0 ≤ n ∧ n ≤ 800000000) (hu : u 23 = 0 ∨ u 23 = 1) (X : Nat → Int → Option Gn) (hX : TxOk (b0 2) X (tl 1) ∧ tl 2 < tl 1) (x : Int) (hx : -2147483648 ≤ x ∧ x ≤ 2147483647) : Ctr l G yX11_longest cX11_longest 4 ((Option.some Jvm.ClassFile.FieldType.int)) 6 0 0 [vr o, vi x] (fun w => isT o am u tl b0 D L w) (fun w r w' => r = some (vi (if 0 ≤ x ∧ x ≤ 1073741823 then ((mLg x.toNat 30 : Nat) : Int) else -1)) ∧ w' = w) := by
  refine Ctr.of (t := tX11_longest) (lv0 := [some (vr o), some (vi x), none, none]) (by decide +kernel) tX11_longest_ok rfl rfl (fun w g hP M => ?_)
  obtain ⟨a0, ⟨a, b, hM, hR, hF, hB⟩, hTE, hRg⟩ := hP
  have ht : Tok a0 := Tok_R hT hTE hRg
  refine M.run 1 (pc' := 1) (lv' := [some (vr o), some (vi x), none, none]) (st' := [vi x]) rfl ?_
  refine M.callS (kX11_isBits l G x (qI (by omega))) cs_X11_470 cd_X11_isBits rfl (st := []) rfl (by decide) (by decide) rfl (Nat.zero_le _) (Nat.zero_le _) trivial (fun r1 w2 q3 => ?_)
  rw [q3.1, q3.2]
  refine M.if_ne (tgt := 9) rfl (inI_zb _) (by decide) (fun h4 => ?_) (fun h4 => ?_)
  · skip
    replace h4 := zb_td h4
    have h04 := h4
    obtain ⟨c, rfl⟩ := Int.eq_ofNat_of_zero_le (show (0 : Int) ≤ x from h4.1)
    refine M.run 4 (pc' := 13) (lv' := [some (vr o), some (vi ((c : Nat) : Int)), some (vi 0), some (vi 0)]) (st' := []) rfl ?_
    have Lp13 : ∀ (N : Nat) (m : Nat) (p : Nat), (m = mLg c p) → (p ≤ 30) → 30 - p < N → g 0 0 w 13 [some (vr o), some (vi ((c : Nat) : Int)), some (vi ((m : Nat) : Int)), some (vi ((p : Nat) : Int))] [] := by
      intro N
      induction N with
      | zero => intro m p _ _ hN; exact absurd hN (Nat.not_lt_zero _)
      | succ N ih13 =>
        intro m p hm hp hN
        refine M.run 2 (pc' := 16) (lv' := [some (vr o), some (vi ((c : Nat) : Int)), some (vi ((m : Nat) : Int)), some (vi ((p : Nat) : Int))]) (st' := [vi 30, vi ((p : Nat) : Int)]) rfl ?_
        refine M.icmp_ge (tgt := 44) rfl (qI (by omega)) (qI (by decide)) (by decide) (fun h16 => ?_) (fun h16 => ?_)
        · skip
          refine M.run 1 (pc' := 45) (lv' := [some (vr o), some (vi ((c : Nat) : Int)), some (vi ((m : Nat) : Int)), some (vi ((p : Nat) : Int))]) (st' := [vi ((m : Nat) : Int)]) rfl ?_
          exact M.iret rfl (Nat.zero_le _) (Nat.zero_le _) ⟨reI (by rw [if_pos h04, hm, show p = 30 by omega]; rfl), rfl⟩
        · skip
          have hlg := mLg_le c p (by omega)
          have hb1 := bEd_le 30 c p (by omega) (by omega)
          have hb2 := bEd_ge 30 c p (by omega)
          have hls : mLg c (p + 1) = max (mLg c p) (bEd c p - p) := rfl
          refine M.run 2 (pc' := 21) (lv' := [some (vr o), some (vi ((c : Nat) : Int)), some (vi ((m : Nat) : Int)), some (vi ((p : Nat) : Int))]) (st' := [vi ((p : Nat) : Int), vi ((c : Nat) : Int)]) rfl ?_
          refine M.callS (kX11_endFrom l G c (by omega) p (by omega)) cs_X11_69 cd_X11_endFrom rfl (st := []) rfl (by decide) (by decide) rfl (Nat.zero_le _) (Nat.zero_le _) trivial (fun r5 w6 q7 => ?_)
          rw [q7.1, q7.2]
          refine M.run 3 (pc' := 27) (lv' := [some (vr o), some (vi ((c : Nat) : Int)), some (vi ((m : Nat) : Int)), some (vi ((p : Nat) : Int))]) (st' := [vi ((m : Nat) : Int), vi (((bEd c p : Nat) : Int) - ((p : Nat) : Int))]) rfl ?_
          refine M.icmp_le (tgt := 38) rfl (qI (by omega)) (qI (by omega)) (by decide) (fun h27 => ?_) (fun h27 => ?_)
          · skip
            refine M.run 2 (pc' := 13) (lv' := [some (vr o), some (vi ((c : Nat) : Int)), some (vi ((m : Nat) : Int)), some (vi (((p : Nat) : Int) + 1))]) (st' := []) rfl ?_
            exact ih13 m (p + 1) (by omega) (by omega) (by omega)
          · skip
            refine M.run 2 (pc' := 32) (lv' := [some (vr o), some (vi ((c : Nat) : Int)), some (vi ((m : Nat) : Int)), some (vi ((p : Nat) : Int))]) (st' := [vi ((p : Nat) : Int), vi ((c : Nat) : Int)]) rfl ?_
            refine M.callS (kX11_endFrom l G c (by omega) p (by omega)) cs_X11_69 cd_X11_endFrom rfl (st := []) rfl (by decide) (by decide) rfl (Nat.zero_le _) (Nat.zero_le _) trivial (fun r9 w10 q11 => ?_)
            rw [q11.1, q11.2]
            refine M.run 2 (pc' := 37) (lv' := [some (vr o), some (vi ((c : Nat) : Int)), some (vi ((m : Nat) : Int)), some (vi ((p : Nat) : Int))]) (st' := [vi (((bEd c p : Nat) : Int) - ((p : Nat) : Int))]) rfl ?_
            rw [show ((bEd c p : Nat) : Int) - ((p : Nat) : Int) = ((bEd c p - p : Nat) : Int) from (by omega)]
            refine M.run 3 (pc' := 13) (lv' := [some (vr o), some (vi ((c : Nat) : Int)), some (vi ((bEd c p - p : Nat) : Int)), some (vi (((p : Nat) : Int) + 1))]) (st' := []) rfl ?_
            exact ih13 (bEd c p - p) (p + 1) (by omega) (by omega) (by omega)
    exact Lp13 _ 0 0 rfl (by omega) (Nat.lt_succ_self _)
  · skip
    replace h4 := zb_fd h4
    refine M.run 1 (pc' := 8) (lv' := [some (vr o), some (vi x), none, none]) (st' := [vi (-1)]) rfl ?_
    exact M.iret rfl (Nat.zero_le _) (Nat.zero_le _) ⟨reI (if_neg h4).symm, rfl⟩
set_option maxHeartbeats 4000000 in
set_option maxRecDepth 100000 in
theorem vX11_loses (l : Launch) (G : GT) (o : Nat) (am : Nat → Nat) (u tl : Nat → Int) (b0 : Nat → Nat → Int) (D : Dy) (L : List Dy) (n : Int) (hT : Tok tl) (hd : Dok n D) (hi : Inv D) (hc9 : D.1 18 ≤ 9999) (hL : Lok n L) (hn : 0 ≤ n ∧ n ≤ 800000000) (hu : u 23 = 0 ∨ u 23 = 1) (X : Nat → Int → Option Gn) (hX : TxOk (b0 2) X (tl 1) ∧ tl 2 < tl 1) (x : Int) (y : Int) (hx : -2147483648 ≤ x ∧ x ≤ 2147483647) (hy : -2147483648 ≤ y ∧ y ≤ 2147483647) : Ctr l G yX11_loses cX11_loses 3 ((Option.some Jvm.ClassFile.FieldType.int)) 8 0 0 [vr o, vi x, vi y] (fun w => isT o am u tl b0 D L w) (fun w r w' => (r = some (vi (if (0 ≤ x ∧ x < tl 0) ∧ 0 ≤ y ∧ y ≤ 4 then mLossA X (stA tl D) (tl 2) y x 0 else -1))) ∧ isT o am u tl b0 D L w') := by
  refine Ctr.of (t := tX11_loses) (lv0 := [some (vr o), some (vi x), some (vi y)]) (by decide +kernel) tX11_loses_ok rfl rfl (fun w g hP M => ?_)
  obtain ⟨a0, ⟨a, b, hM, hR, hF, hB⟩, hTE, hRg⟩ := hP
  have ht : Tok a0 := Tok_R hT hTE hRg
  have hk0 : 0 ≤ tl 0 ∧ tl 0 ≤ 3 := hT.1 0 (by decide)
  have hk1 : 0 ≤ tl 1 ∧ tl 1 ≤ 4 := hT.1 1 (by decide)
  have hk2 : -1 ≤ tl 2 ∧ tl 2 ≤ 3 := hT.1 2 (by decide)
  have hX2 := hX.2
  refine M.run 2 (pc' := 2) (lv' := [some (vr o), some (vi x), some (vi y)]) (st' := [vi x, vr o]) rfl ?_
  refine M.callV (kX11_isBlock l G o am u a b x (by omega) (Mok_of ht hd (by omega) hR hF)) cv_X11_331 cd_X11_isBlock rfl (st := []) rfl (isM_o hM) (by decide) (by decide) rfl (Nat.zero_le _) (Nat.zero_le _) hM (fun r1 w2 q3 => ?_)
  rw [q3.1, q3.2]
  rw [hF 0 (Or.inl (by decide)), hTE.1 0 (by decide) (by decide) (by decide)]
  refine M.if_eq (tgt := 33) rfl (inI_zb _) (by decide) (fun h5 => ?_) (fun h5 => ?_)
  · skip
    replace h5 := zb_fd h5
    refine M.run 1 (pc' := 34) (lv' := [some (vr o), some (vi x), some (vi y)]) (st' := [vi (-1)]) rfl ?_
    exact M.iret rfl (Nat.zero_le _) (Nat.zero_le _) ⟨reI (if_neg (by omega)).symm, ⟨a0, ⟨_, _, hM, hR, hF, hB⟩, hTE, hRg⟩⟩
  · skip
    replace h5 := zb_td h5
    refine M.run 3 (pc' := 11) (lv' := [some (vr o), some (vi x), some (vi y)]) (st' := [vi 4, vi 0, vi y]) rfl ?_
    refine M.callS (kX11_isIn l G y 0 4 (qI (by omega)) (qI (by omega)) (qI (by omega))) cs_X11_50 cd_X11_isIn rfl (st := []) rfl (by decide) (by decide) rfl (Nat.zero_le _) (Nat.zero_le _) trivial (fun r5 w6 q7 => ?_)
    rw [q7.1, q7.2]
    refine M.if_eq (tgt := 33) rfl (inI_zb _) (by decide) (fun h14 => ?_) (fun h14 => ?_)
    · skip
      replace h14 := zb_fd h14
      refine M.run 1 (pc' := 34) (lv' := [some (vr o), some (vi x), some (vi y)]) (st' := [vi (-1)]) rfl ?_
      exact M.iret rfl (Nat.zero_le _) (Nat.zero_le _) ⟨reI (if_neg (by omega)).symm, ⟨a0, ⟨_, _, hM, hR, hF, hB⟩, hTE, hRg⟩⟩
    · skip
      replace h14 := zb_td h14
      refine M.run 2 (pc' := 19) (lv' := [some (vr o), some (vi x), some (vi y)]) (st' := [vr o, vr o]) rfl ?_
      refine M.get fl_X11_7 rfl (isM_o hM) (kf := 0) (v := vr (am 0)) rfl ?_
      refine M.run 1 (pc' := 23) (lv' := [some (vr o), some (vi x), some (vi y)]) (st' := [vi 2, vr (am 0), vr o]) rfl ?_
      refine M.ialdN (2) rfl (isM_a hM) (by decide) (by decide) ?_
      rw [show a 2 = tl 2 from (hF 2 (Or.inl (by decide))).trans (hTE.1 2 (by decide) (by decide) (by decide))]
      refine M.run 3 (pc' := 27) (lv' := [some (vr o), some (vi x), some (vi y)]) (st' := [vi 0, vi x, vi y, vi (tl 2), vr o]) rfl ?_
      refine M.callV (eX11_losesBy l G o am u a0 b0 D _ ht hd (by omega) (tl 2) y x 0 (by rw [hTE.1 1 (by decide) (by decide) (by decide)]; omega) (by omega) (by omega) X (hXof hTE hX).1) cv_X11_368 cd_X11_losesBy rfl (st := []) rfl (isM_o hM) (by decide) (by decide) rfl (Nat.zero_le _) (Nat.zero_le _) ⟨_, _, hM, hR, hF, hB⟩ (fun r10 w11 q12 => ?_)
      obtain ⟨q12r, a9, b9, hM9, hR9, hF9, hB9⟩ := q12
      rw [q12r, c_loss hTE hT]
      have hlb9 := mLossA_b (X := X) (a := stA tl D) (z := (tl 2)) (kind := y) (c := x) (x := 0)
      refine M.run 1 (pc' := 34) (lv' := [some (vr o), some (vi x), some (vi y)]) (st' := [vi (mLossA X (stA tl D) (tl 2) y x 0)]) rfl ?_
      exact M.iret rfl (Nat.zero_le _) (Nat.zero_le _) ⟨reI (if_pos (And.intro h5 h14)).symm, ⟨a0, ⟨_, _, hM9, hR9, hF9, hB9⟩, hTE, hRg⟩⟩
set_option maxHeartbeats 4000000 in
set_option maxRecDepth 100000 in
theorem vX11_waits (l : Launch) (G : GT) (o : Nat) (am : Nat → Nat) (u tl : Nat → Int) (b0 : Nat → Nat → Int) (D : Dy) (L : List Dy) (n : Int) (hT : Tok tl) (hd : Dok n D) (hi : Inv D) (hc9 : D.1 18 ≤ 9999) (hL : Lok n L) (hn : 0 ≤ n ∧ n ≤ 800000000) (hu : u 23 = 0 ∨ u 23 = 1) (X : Nat → Int → Option Gn) (hX : TxOk (b0 2) X (tl 1) ∧ tl 2 < tl 1) (x : Int) (y : Int) (z : Int) (hx : -2147483648 ≤ x ∧ x ≤ 2147483647) (hy : -2147483648 ≤ y ∧ y ≤ 2147483647) (hz : -2147483648 ≤ z ∧ z ≤ 2147483647) : Ctr l G yX11_waits cX11_waits 4 ((Option.some Jvm.ClassFile.FieldType.int)) 8 0 0 [vr o, vi x, vi y, vi z] (fun w => isT o am u tl b0 D L w) (fun w r w' => (r = some (vi (if (0 ≤ x ∧ x < tl 0) ∧ (0 ≤ y ∧ y ≤ 4) ∧ 0 ≤ z ∧ z ≤ 9 then mWaitA X (stA tl D) y x z else -1))) ∧ isT o am u tl b0 D L w') := by
  refine Ctr.of (t := tX11_waits) (lv0 := [some (vr o), some (vi x), some (vi y), some (vi z)]) (by decide +kernel) tX11_waits_ok rfl rfl (fun w g hP M => ?_)
  obtain ⟨a0, ⟨a, b, hM, hR, hF, hB⟩, hTE, hRg⟩ := hP
  have ht : Tok a0 := Tok_R hT hTE hRg
  have hk0 : 0 ≤ tl 0 ∧ tl 0 ≤ 3 := hT.1 0 (by decide)
  have hk1 : 0 ≤ tl 1 ∧ tl 1 ≤ 4 := hT.1 1 (by decide)
  have hk2 : -1 ≤ tl 2 ∧ tl 2 ≤ 3 := hT.1 2 (by decide)
  have hX2 := hX.2
  refine M.run 2 (pc' := 2) (lv' := [some (vr o), some (vi x), some (vi y), some (vi z)]) (st' := [vi x, vr o]) rfl ?_
  refine M.callV (kX11_isBlock l G o am u a b x (by omega) (Mok_of ht hd (by omega) hR hF)) cv_X11_331 cd_X11_isBlock rfl (st := []) rfl (isM_o hM) (by decide) (by decide) rfl (Nat.zero_le _) (Nat.zero_le _) hM (fun r1 w2 q3 => ?_)
  rw [q3.1, q3.2]
  rw [hF 0 (Or.inl (by decide)), hTE.1 0 (by decide) (by decide) (by decide)]
  refine M.if_eq (tgt := 37) rfl (inI_zb _) (by decide) (fun h5 => ?_) (fun h5 => ?_)
  · skip
    replace h5 := zb_fd h5
    refine M.run 1 (pc' := 38) (lv' := [some (vr o), some (vi x), some (vi y), some (vi z)]) (st' := [vi (-1)]) rfl ?_
    exact M.iret rfl (Nat.zero_le _) (Nat.zero_le _) ⟨reI (if_neg (by omega)).symm, ⟨a0, ⟨_, _, hM, hR, hF, hB⟩, hTE, hRg⟩⟩
  · skip
    replace h5 := zb_td h5
    refine M.run 3 (pc' := 11) (lv' := [some (vr o), some (vi x), some (vi y), some (vi z)]) (st' := [vi 4, vi 0, vi y]) rfl ?_
    refine M.callS (kX11_isIn l G y 0 4 (qI (by omega)) (qI (by omega)) (qI (by omega))) cs_X11_50 cd_X11_isIn rfl (st := []) rfl (by decide) (by decide) rfl (Nat.zero_le _) (Nat.zero_le _) trivial (fun r5 w6 q7 => ?_)
    rw [q7.1, q7.2]
    refine M.if_eq (tgt := 37) rfl (inI_zb _) (by decide) (fun h14 => ?_) (fun h14 => ?_)
    · skip
      replace h14 := zb_fd h14
      refine M.run 1 (pc' := 38) (lv' := [some (vr o), some (vi x), some (vi y), some (vi z)]) (st' := [vi (-1)]) rfl ?_
      exact M.iret rfl (Nat.zero_le _) (Nat.zero_le _) ⟨reI (if_neg (by omega)).symm, ⟨a0, ⟨_, _, hM, hR, hF, hB⟩, hTE, hRg⟩⟩
    · skip
      replace h14 := zb_td h14
      refine M.run 3 (pc' := 21) (lv' := [some (vr o), some (vi x), some (vi y), some (vi z)]) (st' := [vi 9, vi 0, vi z]) rfl ?_
      refine M.callS (kX11_isIn l G z 0 9 (qI (by omega)) (qI (by omega)) (qI (by omega))) cs_X11_50 cd_X11_isIn rfl (st := []) rfl (by decide) (by decide) rfl (Nat.zero_le _) (Nat.zero_le _) trivial (fun r9 w10 q11 => ?_)
      rw [q11.1, q11.2]
      refine M.if_eq (tgt := 37) rfl (inI_zb _) (by decide) (fun h24 => ?_) (fun h24 => ?_)
      · skip
        replace h24 := zb_fd h24
        refine M.run 1 (pc' := 38) (lv' := [some (vr o), some (vi x), some (vi y), some (vi z)]) (st' := [vi (-1)]) rfl ?_
        exact M.iret rfl (Nat.zero_le _) (Nat.zero_le _) ⟨reI (if_neg (by omega)).symm, ⟨a0, ⟨_, _, hM, hR, hF, hB⟩, hTE, hRg⟩⟩
      · skip
        replace h24 := zb_td h24
        refine M.run 4 (pc' := 31) (lv' := [some (vr o), some (vi x), some (vi y), some (vi z)]) (st' := [vi z, vi x, vi y, vr o]) rfl ?_
        refine M.callV (eX11_waitsBy l G o am u a0 b0 D _ ht hd (by omega) (hXof hTE hX).2 y x z (by omega) (by omega) X (hXof hTE hX).1) cv_X11_359 cd_X11_waitsBy rfl (st := []) rfl (isM_o hM) (by decide) (by decide) rfl (Nat.zero_le _) (Nat.zero_le _) ⟨_, _, hM, hR, hF, hB⟩ (fun r14 w15 q16 => ?_)
        obtain ⟨q16r, a13, b13, hM13, hR13, hF13, hB13⟩ := q16
        rw [q16r, c_wait hTE hT]
        have hlb13 := mWaitA_b (X := X) (a := stA tl D) (kind := y) (c := x) (x := z) (show 1 ≤ tl 6 ∧ tl 6 ≤ 20 from Tok_6 hT)
        refine M.run 1 (pc' := 38) (lv' := [some (vr o), some (vi x), some (vi y), some (vi z)]) (st' := [vi (mWaitA X (stA tl D) y x z)]) rfl ?_
        exact M.iret rfl (Nat.zero_le _) (Nat.zero_le _) ⟨reI (if_pos (And.intro h5 (And.intro h14 h24))).symm, ⟨a0, ⟨_, _, hM13, hR13, hF13, hB13⟩, hTE, hRg⟩⟩
set_option maxHeartbeats 4000000 in
set_option maxRecDepth 100000 in
theorem vX11_fault (l : Launch) (G : GT) (o : Nat) (am : Nat → Nat) (u tl : Nat → Int) (b0 : Nat → Nat → Int) (D : Dy) (L : List Dy) (n : Int) (hT : Tok tl) (hd : Dok n D) (hi : Inv D) (hc9 : D.1 18 ≤ 9999) (hL : Lok n L) (hn : 0 ≤ n ∧ n ≤ 800000000) (hu : u 23 = 0 ∨ u 23 = 1) (X : Nat → Int → Option Gn) (hX : TxOk (b0 2) X (tl 1) ∧ tl 2 < tl 1) (y : Int) (hy : -2147483648 ≤ y ∧ y ≤ 2147483647) : Ctr l G yX11_fault cX11_fault 2 ((Option.some Jvm.ClassFile.FieldType.int)) 1 0 0 [vr o, vi y] (fun w => isT o am u tl b0 D L w) (fun w r w' => r = some (vi (if y = 0 then u 5 else if y = 1 then u 6 else -1)) ∧ w' = w) := by
  refine Ctr.of (t := tX11_fault) (lv0 := [some (vr o), some (vi y)]) (by decide +kernel) tX11_fault_ok rfl rfl (fun w g hP M => ?_)
  obtain ⟨a0, ⟨a, b, hM, hR, hF, hB⟩, hTE, hRg⟩ := hP
  have ht : Tok a0 := Tok_R hT hTE hRg
  refine M.run 1 (pc' := 1) (lv' := [some (vr o), some (vi y)]) (st' := [vi y]) rfl ?_
  refine M.if_ne (tgt := 11) rfl (qI (by omega)) (by decide) (fun h1 => ?_) (fun h1 => ?_)
  · skip
    refine M.run 2 (pc' := 13) (lv' := [some (vr o), some (vi y)]) (st' := [vi 1, vi y]) rfl ?_
    refine M.icmp_ne (tgt := 23) rfl (qI (by omega)) (qI (by decide)) (by decide) (fun h13 => ?_) (fun h13 => ?_)
    · skip
      refine M.run 1 (pc' := 24) (lv' := [some (vr o), some (vi y)]) (st' := [vi (-1)]) rfl ?_
      exact M.iret rfl (Nat.zero_le _) (Nat.zero_le _) ⟨reI ((if_neg (by omega)).trans (if_neg (by omega))).symm, rfl⟩
    · skip
      refine M.run 1 (pc' := 17) (lv' := [some (vr o), some (vi y)]) (st' := [vr o]) rfl ?_
      refine M.get fl_X11_26 rfl (isM_o hM) (kf := 6) (v := vi (u 6)) rfl ?_
      refine M.run 1 (pc' := 24) (lv' := [some (vr o), some (vi y)]) (st' := [vi (u 6)]) rfl ?_
      exact M.iret rfl (Nat.zero_le _) (Nat.zero_le _) ⟨reI ((if_neg (by omega)).trans (if_pos (by omega))).symm, rfl⟩
  · skip
    refine M.run 1 (pc' := 5) (lv' := [some (vr o), some (vi y)]) (st' := [vr o]) rfl ?_
    refine M.get fl_X11_22 rfl (isM_o hM) (kf := 5) (v := vi (u 5)) rfl ?_
    refine M.run 1 (pc' := 24) (lv' := [some (vr o), some (vi y)]) (st' := [vi (u 5)]) rfl ?_
    exact M.iret rfl (Nat.zero_le _) (Nat.zero_le _) ⟨reI (if_pos (by omega)).symm, rfl⟩
set_option maxHeartbeats 4000000 in
set_option maxRecDepth 100000 in
theorem vX11_about (l : Launch) (G : GT) (o : Nat) (am : Nat → Nat) (u tl : Nat → Int) (b0 : Nat → Nat → Int) (D : Dy) (L : List Dy) (n : Int) (hT : Tok tl) (hd : Dok n D) (hi : Inv D) (hc9 : D.1 18 ≤ 9999) (hL : Lok n L) (hn : 0 ≤ n ∧ n ≤ 800000000) (hu : u 23 = 0 ∨ u 23 = 1) (X : Nat → Int → Option Gn) (hX : TxOk (b0 2) X (tl 1) ∧ tl 2 < tl 1) (y : Int) (hy : -2147483648 ≤ y ∧ y ≤ 2147483647) : Ctr l G yX11_about cX11_about 2 ((Option.some Jvm.ClassFile.FieldType.int)) 3 0 0 [vr o, vi y] (fun w => isT o am u tl b0 D L w) (fun w r w' => r = some (vi (if y = 5 then u 4 else if 0 ≤ y ∧ y ≤ 8 then (if y = 3 then ((L.length : Nat) : Int) else tl y.toNat) else -2)) ∧ w' = w) := by
  refine Ctr.of (t := tX11_about) (lv0 := [some (vr o), some (vi y)]) (by decide +kernel) tX11_about_ok rfl rfl (fun w g hP M => ?_)
  obtain ⟨a0, ⟨a, b, hM, hR, hF, hB⟩, hTE, hRg⟩ := hP
  have ht : Tok a0 := Tok_R hT hTE hRg
  refine M.run 2 (pc' := 2) (lv' := [some (vr o), some (vi y)]) (st' := [vi 5, vi y]) rfl ?_
  refine M.icmp_ne (tgt := 12) rfl (qI (by omega)) (qI (by decide)) (by decide) (fun h2 => ?_) (fun h2 => ?_)
  · skip
    refine M.run 3 (pc' := 16) (lv' := [some (vr o), some (vi y)]) (st' := [vi 8, vi 0, vi y]) rfl ?_
    refine M.callS (kX11_isIn l G y 0 8 (qI (by omega)) (qI (by omega)) (qI (by omega))) cs_X11_50 cd_X11_isIn rfl (st := []) rfl (by decide) (by decide) rfl (Nat.zero_le _) (Nat.zero_le _) trivial (fun r1 w2 q3 => ?_)
    rw [q3.1, q3.2]
    refine M.if_eq (tgt := 31) rfl (inI_zb _) (by decide) (fun h19 => ?_) (fun h19 => ?_)
    · skip
      replace h19 := zb_fd h19
      refine M.run 1 (pc' := 33) (lv' := [some (vr o), some (vi y)]) (st' := [vi (-2)]) rfl ?_
      exact M.iret rfl (Nat.zero_le _) (Nat.zero_le _) ⟨reI ((if_neg h2).trans (if_neg h19)).symm, rfl⟩
    · skip
      replace h19 := zb_td h19
      have h019 := h19
      obtain ⟨k, rfl⟩ := Int.eq_ofNat_of_zero_le (show (0 : Int) ≤ y from h19.1)
      refine M.run 1 (pc' := 23) (lv' := [some (vr o), some (vi ((k : Nat) : Int))]) (st' := [vr o]) rfl ?_
      refine M.get fl_X11_7 rfl (isM_o hM) (kf := 0) (v := vr (am 0)) rfl ?_
      refine M.run 1 (pc' := 27) (lv' := [some (vr o), some (vi ((k : Nat) : Int))]) (st' := [vi ((k : Nat) : Int), vr (am 0)]) rfl ?_
      refine M.ialdN (k) rfl (isM_a hM) (by omega) (by decide) ?_
      rw [show a k = (if ((k : Nat) : Int) = 3 then ((L.length : Nat) : Int) else tl k) from (show _ = (if ((k : Nat) : Int) = 3 then ((L.length : Nat) : Int) else tl k) from by by_cases e3 : k = 3; rw [if_pos (by omega), e3]; exact (hF 3 (Or.inl (by decide))).trans hRg.1; rw [if_neg (by omega)]; exact (hF k (Or.inl (by omega))).trans (hTE.1 k (by omega) e3 (by omega)))]
      refine M.run 1 (pc' := 33) (lv' := [some (vr o), some (vi ((k : Nat) : Int))]) (st' := [vi (if ((k : Nat) : Int) = 3 then ((L.length : Nat) : Int) else tl k)]) rfl ?_
      exact M.iret rfl (Nat.zero_le _) (Nat.zero_le _) ⟨reI ((if_neg h2).trans (if_pos h019)).symm, rfl⟩
  · skip
    refine M.run 1 (pc' := 6) (lv' := [some (vr o), some (vi y)]) (st' := [vr o]) rfl ?_
    refine M.get fl_X11_75 rfl (isM_o hM) (kf := 4) (v := vi (u 4)) rfl ?_
    refine M.run 1 (pc' := 33) (lv' := [some (vr o), some (vi y)]) (st' := [vi (u 4)]) rfl ?_
    exact M.iret rfl (Nat.zero_le _) (Nat.zero_le _) ⟨reI (if_pos (by omega)).symm, rfl⟩
set_option maxHeartbeats 4000000 in
set_option maxRecDepth 100000 in
theorem vX11_by (l : Launch) (G : GT) (o : Nat) (am : Nat → Nat) (u tl : Nat → Int) (b0 : Nat → Nat → Int) (D : Dy) (L : List Dy) (n : Int) (hT : Tok tl) (hd : Dok n D) (hi : Inv D) (hc9 : D.1 18 ≤ 9999) (hL : Lok n L) (hn : 0 ≤ n ∧ n ≤ 800000000) (hu : u 23 = 0 ∨ u 23 = 1) (X : Nat → Int → Option Gn) (hX : TxOk (b0 2) X (tl 1) ∧ tl 2 < tl 1) (x : Int) (hx : -2147483648 ≤ x ∧ x ≤ 2147483647) : Ctr l G yX11_by cX11_by 2 ((Option.some Jvm.ClassFile.FieldType.boolean)) 3 0 0 [vr o, vi x] (fun w => isT o am u tl b0 D L w) (fun w r w' => r = some (vi (zb (decide (-1 ≤ x ∧ x ≤ tl 1 - 1)))) ∧ isTS o am u b0 (sBy x (tl, D, L)) w') := by
  refine Ctr.of (t := tX11_by) (lv0 := [some (vr o), some (vi x)]) (by decide +kernel) tX11_by_ok rfl rfl (fun w g hP M => ?_)
  obtain ⟨a0, ⟨a, b, hM, hR, hF, hB⟩, hTE, hRg⟩ := hP
  have ht : Tok a0 := Tok_R hT hTE hRg
  have hk1 : 0 ≤ tl 1 ∧ tl 1 ≤ 4 := hT.1 1 (by decide)
  refine M.run 3 (pc' := 3) (lv' := [some (vr o), some (vi x)]) (st' := [vr o, vi (-1), vi x]) rfl ?_
  refine M.get fl_X11_7 rfl (isM_o hM) (kf := 0) (v := vr (am 0)) rfl ?_
  refine M.run 1 (pc' := 7) (lv' := [some (vr o), some (vi x)]) (st' := [vi 1, vr (am 0), vi (-1), vi x]) rfl ?_
  refine M.ialdN (1) rfl (isM_a hM) (by decide) (by decide) ?_
  rw [show a 1 = tl 1 from (hF 1 (Or.inl (by decide))).trans (hTE.1 1 (by decide) (by decide) (by decide))]
  refine M.run 2 (pc' := 10) (lv' := [some (vr o), some (vi x)]) (st' := [vi ((tl 1) - 1), vi (-1), vi x]) rfl ?_
  refine M.callS (kX11_isIn l G x (-1) ((tl 1) - 1) (qI (by omega)) (qI (by omega)) (qI (by omega))) cs_X11_50 cd_X11_isIn rfl (st := []) rfl (by decide) (by decide) rfl (Nat.zero_le _) (Nat.zero_le _) trivial (fun r1 w2 q3 => ?_)
  rw [q3.1, q3.2]
  refine M.if_ne (tgt := 18) rfl (inI_zb _) (by decide) (fun h13 => ?_) (fun h13 => ?_)
  · skip
    replace h13 := zb_td h13
    refine M.run 1 (pc' := 19) (lv' := [some (vr o), some (vi x)]) (st' := [vr o]) rfl ?_
    refine M.get fl_X11_7 rfl (isM_o hM) (kf := 0) (v := vr (am 0)) rfl ?_
    refine M.run 2 (pc' := 24) (lv' := [some (vr o), some (vi x)]) (st' := [vi x, vi 2, vr (am 0)]) rfl ?_
    refine M.iastN (2) rfl (isM_a hM) (by decide) (by decide) ?_
    have hM6 := isM_setA hM (uN a 2 x)
    generalize up w (am 0) (Ar 0 30042 (uN a 2 x)) = w5 at hM6 ⊢
    refine M.run 1 (pc' := 26) (lv' := [some (vr o), some (vi x)]) (st' := [vi 1]) rfl ?_
    exact M.zret rfl (Or.inr rfl) (Nat.zero_le _) (Nat.zero_le _) ⟨reI (by rw [decide_eq_true h13]; rfl), by
        unfold sBy
        rw [if_pos h13]
        refine isT_up2 hd hM6 hR hF hB hTE hRg (fun k hk => uN_o (by omega)) (fun k k1 k2 k3 => ?_) (fun k k1 k2 => ?_)
        · show uN a 2 x k = uN tl 2 x k
          by_cases e : k = 2
          · subst e; rw [uN_s, uN_s]
          · rw [uN_o e, uN_o e]; exact (hF k (Or.inl k1)).trans (hTE.1 k k1 k2 k3)
        · show uN a 2 x k = uN tl 2 x k
          rw [uN_o (by omega), uN_o (by omega)]; exact (hF k (Or.inr k1)).trans (hTE.2 k k1 k2)⟩
  · skip
    replace h13 := zb_fd h13
    refine M.run 1 (pc' := 17) (lv' := [some (vr o), some (vi x)]) (st' := [vi 0]) rfl ?_
    exact M.zret rfl (Or.inl rfl) (Nat.zero_le _) (Nat.zero_le _) ⟨reI (by rw [decide_eq_false h13]; rfl), by unfold sBy; rw [if_neg h13]; exact ⟨a0, ⟨_, _, hM, hR, hF, hB⟩, hTE, hRg⟩⟩
set_option maxHeartbeats 4000000 in
set_option maxRecDepth 100000 in
theorem vX11_said (l : Launch) (G : GT) (o : Nat) (am : Nat → Nat) (u tl : Nat → Int) (b0 : Nat → Nat → Int) (D : Dy) (L : List Dy) (n : Int) (hT : Tok tl) (hd : Dok n D) (hi : Inv D) (hc9 : D.1 18 ≤ 9999) (hL : Lok n L) (hn : 0 ≤ n ∧ n ≤ 800000000) (hu : u 23 = 0 ∨ u 23 = 1) (X : Nat → Int → Option Gn) (hX : TxOk (b0 2) X (tl 1) ∧ tl 2 < tl 1) (x : Int) (y : Int) (hx : -2147483648 ≤ x ∧ x ≤ 2147483647) (hy : -2147483648 ≤ y ∧ y ≤ 2147483647) (h4b : 0 ≤ tl 4 ∧ tl 4 ≤ 8) : Ctr l G yX11_said cX11_said 3 ((Option.some Jvm.ClassFile.FieldType.int)) 3 0 0 [vr o, vi x, vi y] (fun w => isT o am u tl b0 D L w) (fun w r w' => r = some (vi (if x = -1 then 0 else if sdC tl x y then tl 4 + 1 else -2)) ∧ isTS o am u b0 (sSaid x y (tl, D, L)) w') := by
  refine Ctr.of (t := tX11_said) (lv0 := [some (vr o), some (vi x), some (vi y)]) (by decide +kernel) tX11_said_ok rfl rfl (fun w g hP M => ?_)
  obtain ⟨a0, ⟨a, b, hM, hR, hF, hB⟩, hTE, hRg⟩ := hP
  have ht : Tok a0 := Tok_R hT hTE hRg
  refine M.run 2 (pc' := 2) (lv' := [some (vr o), some (vi x), some (vi y)]) (st' := [vi (-1), vi x]) rfl ?_
  refine M.icmp_ne (tgt := 14) rfl (qI (by omega)) (qI (by decide)) (by decide) (fun h2 => ?_) (fun h2 => ?_)
  · skip
    refine M.run 3 (pc' := 17) (lv' := [some (vr o), some (vi x), some (vi y)]) (st' := [vi 4, vi 0, vi x]) rfl ?_
    refine M.callS (kX11_isIn l G x 0 4 (qI (by omega)) (qI (by omega)) (qI (by omega))) cs_X11_50 cd_X11_isIn rfl (st := []) rfl (by decide) (by decide) rfl (Nat.zero_le _) (Nat.zero_le _) trivial (fun r1 w2 q3 => ?_)
    rw [q3.1, q3.2]
    refine M.if_eq (tgt := 44) rfl (inI_zb _) (by decide) (fun h20 => ?_) (fun h20 => ?_)
    · skip
      replace h20 := zb_fd h20
      have hno : ¬ sdC tl x y := fun q => h20 q.1
      refine M.run 1 (pc' := 46) (lv' := [some (vr o), some (vi x), some (vi y)]) (st' := [vi (-2)]) rfl ?_
      exact M.iret rfl (Nat.zero_le _) (Nat.zero_le _) ⟨reI ((if_neg h2).trans (if_neg hno)).symm, by unfold sSaid; rw [if_neg h2, if_neg hno]; exact ⟨a0, ⟨_, _, hM, hR, hF, hB⟩, hTE, hRg⟩⟩
    · skip
      replace h20 := zb_td h20
      refine M.run 3 (pc' := 27) (lv' := [some (vr o), some (vi x), some (vi y)]) (st' := [vi 10, vi 0, vi y]) rfl ?_
      refine M.callS (kX11_isIn l G y 0 10 (qI (by omega)) (qI (by omega)) (qI (by omega))) cs_X11_50 cd_X11_isIn rfl (st := []) rfl (by decide) (by decide) rfl (Nat.zero_le _) (Nat.zero_le _) trivial (fun r5 w6 q7 => ?_)
      rw [q7.1, q7.2]
      refine M.if_eq (tgt := 44) rfl (inI_zb _) (by decide) (fun h30 => ?_) (fun h30 => ?_)
      · skip
        replace h30 := zb_fd h30
        have hno : ¬ sdC tl x y := fun q => h30 q.2.1
        refine M.run 1 (pc' := 46) (lv' := [some (vr o), some (vi x), some (vi y)]) (st' := [vi (-2)]) rfl ?_
        exact M.iret rfl (Nat.zero_le _) (Nat.zero_le _) ⟨reI ((if_neg h2).trans (if_neg hno)).symm, by unfold sSaid; rw [if_neg h2, if_neg hno]; exact ⟨a0, ⟨_, _, hM, hR, hF, hB⟩, hTE, hRg⟩⟩
      · skip
        replace h30 := zb_td h30
        refine M.run 1 (pc' := 34) (lv' := [some (vr o), some (vi x), some (vi y)]) (st' := [vr o]) rfl ?_
        refine M.get fl_X11_7 rfl (isM_o hM) (kf := 0) (v := vr (am 0)) rfl ?_
        refine M.run 1 (pc' := 38) (lv' := [some (vr o), some (vi x), some (vi y)]) (st' := [vi 4, vr (am 0)]) rfl ?_
        refine M.ialdN (4) rfl (isM_a hM) (by decide) (by decide) ?_
        rw [show a 4 = tl 4 from (hF 4 (Or.inl (by decide))).trans (hTE.1 4 (by decide) (by decide) (by decide))]
        refine M.run 1 (pc' := 41) (lv' := [some (vr o), some (vi x), some (vi y)]) (st' := [vi 8, vi (tl 4)]) rfl ?_
        refine M.icmp_ne (tgt := 47) rfl (qI (by omega)) (qI (by decide)) (by decide) (fun h41 => ?_) (fun h41 => ?_)
        · skip
          have hsd : sdC tl x y := And.intro h20 (And.intro h30 h41)
          refine M.run 1 (pc' := 48) (lv' := [some (vr o), some (vi x), some (vi y)]) (st' := [vr o]) rfl ?_
          refine M.get fl_X11_7 rfl (isM_o hM) (kf := 0) (v := vr (am 0)) rfl ?_
          refine M.run 3 (pc' := 56) (lv' := [some (vr o), some (vi x), some (vi y)]) (st' := [vr o, vi 2, vi 986, vr (am 0)]) rfl ?_
          refine M.get fl_X11_7 rfl (isM_o hM) (kf := 0) (v := vr (am 0)) rfl ?_
          refine M.run 1 (pc' := 60) (lv' := [some (vr o), some (vi x), some (vi y)]) (st' := [vi 4, vr (am 0), vi 2, vi 986, vr (am 0)]) rfl ?_
          refine M.ialdN (4) rfl (isM_a hM) (by decide) (by decide) ?_
          rw [show a 4 = tl 4 from (hF 4 (Or.inl (by decide))).trans (hTE.1 4 (by decide) (by decide) (by decide))]
          rw [show tl 4 = (((tl 4).toNat : Nat) : Int) from (Int.toNat_of_nonneg (by omega)).symm]
          refine M.run 3 (pc' := 64) (lv' := [some (vr o), some (vi x), some (vi y)]) (st' := [vi x, vi (986 + (2 * (((tl 4).toNat : Nat) : Int))), vr (am 0)]) rfl ?_
          refine M.iastN (986 + (2 * ((tl 4).toNat))) rfl (isM_a hM) (by omega) (by decide) ?_
          have hM10 := isM_setA hM (uN a (986 + (2 * ((tl 4).toNat))) x)
          generalize up w (am 0) (Ar 0 30042 (uN a (986 + (2 * ((tl 4).toNat))) x)) = w9 at hM10 ⊢
          refine M.run 1 (pc' := 66) (lv' := [some (vr o), some (vi x), some (vi y)]) (st' := [vr o]) rfl ?_
          refine M.get fl_X11_7 rfl (isM_o hM10) (kf := 0) (v := vr (am 0)) rfl ?_
          refine M.run 3 (pc' := 74) (lv' := [some (vr o), some (vi x), some (vi y)]) (st' := [vr o, vi 2, vi 986, vr (am 0)]) rfl ?_
          refine M.get fl_X11_7 rfl (isM_o hM10) (kf := 0) (v := vr (am 0)) rfl ?_
          refine M.run 1 (pc' := 78) (lv' := [some (vr o), some (vi x), some (vi y)]) (st' := [vi 4, vr (am 0), vi 2, vi 986, vr (am 0)]) rfl ?_
          refine M.ialdN (4) rfl (isM_a hM10) (by decide) (by decide) ?_
          rw [show (uN a (986 + (2 * ((tl 4).toNat))) x) 4 = tl 4 from (uN_o (by omega)).trans ((hF 4 (Or.inl (by decide))).trans (hTE.1 4 (by decide) (by decide) (by decide)))]
          rw [show tl 4 = (((tl 4).toNat : Nat) : Int) from (Int.toNat_of_nonneg (by omega)).symm]
          refine M.run 5 (pc' := 84) (lv' := [some (vr o), some (vi x), some (vi y)]) (st' := [vi y, vi ((986 + (2 * (((tl 4).toNat : Nat) : Int))) + 1), vr (am 0)]) rfl ?_
          refine M.iastN (986 + (2 * ((tl 4).toNat)) + 1) rfl (isM_a hM10) (by omega) (by decide) ?_
          have hM12 := isM_setA hM10 (uN (uN a (986 + (2 * ((tl 4).toNat))) x) (986 + (2 * ((tl 4).toNat)) + 1) y)
          generalize up w9 (am 0) (Ar 0 30042 (uN (uN a (986 + (2 * ((tl 4).toNat))) x) (986 + (2 * ((tl 4).toNat)) + 1) y)) = w11 at hM12 ⊢
          refine M.run 1 (pc' := 86) (lv' := [some (vr o), some (vi x), some (vi y)]) (st' := [vr o]) rfl ?_
          refine M.get fl_X11_7 rfl (isM_o hM12) (kf := 0) (v := vr (am 0)) rfl ?_
          refine M.run 2 (pc' := 91) (lv' := [some (vr o), some (vi x), some (vi y)]) (st' := [vi 4, vr (am 0), vi 4, vr (am 0)]) rfl ?_
          refine M.ialdN (4) rfl (isM_a hM12) (by decide) (by decide) ?_
          rw [show (uN (uN a (986 + (2 * ((tl 4).toNat))) x) (986 + (2 * ((tl 4).toNat)) + 1) y) 4 = tl 4 from ((uN_o (by omega)).trans (uN_o (by omega))).trans ((hF 4 (Or.inl (by decide))).trans (hTE.1 4 (by decide) (by decide) (by decide)))]
          refine M.run 2 (pc' := 94) (lv' := [some (vr o), some (vi x), some (vi y)]) (st' := [vi ((tl 4) + 1), vi 4, vr (am 0)]) rfl ?_
          refine M.iastN (4) rfl (isM_a hM12) (by decide) (by decide) ?_
          have hM14 := isM_setA hM12 (uN (uN (uN a (986 + (2 * ((tl 4).toNat))) x) (986 + (2 * ((tl 4).toNat)) + 1) y) 4 ((tl 4) + 1))
          generalize up w11 (am 0) (Ar 0 30042 (uN (uN (uN a (986 + (2 * ((tl 4).toNat))) x) (986 + (2 * ((tl 4).toNat)) + 1) y) 4 ((tl 4) + 1))) = w13 at hM14 ⊢
          refine M.run 1 (pc' := 96) (lv' := [some (vr o), some (vi x), some (vi y)]) (st' := [vr o]) rfl ?_
          refine M.get fl_X11_7 rfl (isM_o hM14) (kf := 0) (v := vr (am 0)) rfl ?_
          refine M.run 1 (pc' := 100) (lv' := [some (vr o), some (vi x), some (vi y)]) (st' := [vi 4, vr (am 0)]) rfl ?_
          refine M.ialdN (4) rfl (isM_a hM14) (by decide) (by decide) ?_
          rw [show (uN (uN (uN a (986 + (2 * ((tl 4).toNat))) x) (986 + (2 * ((tl 4).toNat)) + 1) y) 4 ((tl 4) + 1)) 4 = (tl 4) + 1 from uN_s _ _ _]
          exact M.iret rfl (Nat.zero_le _) (Nat.zero_le _) ⟨reI ((if_neg h2).trans (if_pos hsd)).symm, by
              unfold sSaid
              rw [if_neg h2, if_pos hsd]
              have hm : ∀ k : Nat, a k = tl k → uN (uN (uN a (986 + 2 * (tl 4).toNat) x) (986 + 2 * (tl 4).toNat + 1) y) 4 (tl 4 + 1) k = uN (uN (uN tl (986 + 2 * (tl 4).toNat) x) (986 + 2 * (tl 4).toNat + 1) y) 4 (tl 4 + 1) k := fun k hk => by
                by_cases e0 : k = 4
                · subst e0; rw [uN_s, uN_s]
                · rw [uN_o e0, uN_o e0]
                  by_cases e1 : k = 986 + 2 * (tl 4).toNat + 1
                  · rw [e1, uN_s, uN_s]
                  · rw [uN_o e1, uN_o e1]
                    by_cases e2 : k = 986 + 2 * (tl 4).toNat
                    · rw [e2, uN_s, uN_s]
                    · rw [uN_o e2, uN_o e2]; exact hk
              refine isT_up2 hd hM14 hR hF hB hTE hRg (fun k hk => ?_) (fun k k1 k2 k3 => hm k ((hF k (Or.inl k1)).trans (hTE.1 k k1 k2 k3))) (fun k k1 k2 => hm k ((hF k (Or.inr k1)).trans (hTE.2 k k1 k2)))
              rw [uN_o (by omega), uN_o (by omega), uN_o (by omega)]⟩
        · skip
          have hno : ¬ sdC tl x y := fun q => q.2.2 h41
          refine M.run 1 (pc' := 46) (lv' := [some (vr o), some (vi x), some (vi y)]) (st' := [vi (-2)]) rfl ?_
          exact M.iret rfl (Nat.zero_le _) (Nat.zero_le _) ⟨reI ((if_neg h2).trans (if_neg hno)).symm, by unfold sSaid; rw [if_neg h2, if_neg hno]; exact ⟨a0, ⟨_, _, hM, hR, hF, hB⟩, hTE, hRg⟩⟩
  · skip
    refine M.run 1 (pc' := 6) (lv' := [some (vr o), some (vi x), some (vi y)]) (st' := [vr o]) rfl ?_
    refine M.get fl_X11_7 rfl (isM_o hM) (kf := 0) (v := vr (am 0)) rfl ?_
    refine M.run 2 (pc' := 11) (lv' := [some (vr o), some (vi x), some (vi y)]) (st' := [vi 0, vi 4, vr (am 0)]) rfl ?_
    refine M.iastN (4) rfl (isM_a hM) (by decide) (by decide) ?_
    have hM16 := isM_setA hM (uN a 4 0)
    generalize up w (am 0) (Ar 0 30042 (uN a 4 0)) = w15 at hM16 ⊢
    refine M.run 1 (pc' := 13) (lv' := [some (vr o), some (vi x), some (vi y)]) (st' := [vi 0]) rfl ?_
    exact M.iret rfl (Nat.zero_le _) (Nat.zero_le _) ⟨reI (if_pos h2).symm, by
        unfold sSaid
        rw [if_pos h2]
        refine isT_up2 hd hM16 hR hF hB hTE hRg (fun k hk => uN_o (by omega)) (fun k k1 k2 k3 => ?_) (fun k k1 k2 => ?_)
        · show uN a 4 0 k = uN tl 4 0 k
          by_cases e : k = 4
          · subst e; rw [uN_s, uN_s]
          · rw [uN_o e, uN_o e]; exact (hF k (Or.inl k1)).trans (hTE.1 k k1 k2 k3)
        · show uN a 4 0 k = uN tl 4 0 k
          rw [uN_o (by omega), uN_o (by omega)]; exact (hF k (Or.inr k1)).trans (hTE.2 k k1 k2)⟩
