theorem zbd {P : Prop} {i : Decidable P} {v : Int} (h1 : P → v = 1) (h0 : ¬ P → v = 0) : v = zb (@decide P i) := by
  by_cases h : P
  · rw [decide_eq_true h]; exact h1 h
  · rw [decide_eq_false h]; exact h0 h
theorem opR {tl : Nat → Int} {D : Dy} {n x : Int} (hT : Tok tl) (hd : Dok n D) : -1000 ≤ (if opC tl D x then ((((mOpen tl x.toNat D).2.1 0).length : Nat) : Int) - (((D.2.1 0).length : Nat) : Int) else -1) ∧ (if opC tl D x then ((((mOpen tl x.toNat D).2.1 0).length : Nat) : Int) - (((D.2.1 0).length : Nat) : Int) else -1) ≤ 1000 := by
  split
  · rename_i h
    have h0 : 0 ≤ tl 0 ∧ tl 0 ≤ 3 := hT.1 0 (by decide)
    have q := Dok_l (Dok_open (b := x.toNat) hT hd (by omega)) (s := 0) (by decide)
    have q2 := Dok_l hd (s := 0) (by decide)
    omega
  · omega
abbrev bkC (tl : Nat → Int) (x y : Int) : Prop := (1 ≤ x ∧ x ≤ 30) ∧ (0 ≤ y ∧ y ≤ x) ∧ ¬ tl 0 = 3
def sBlock (x y : Int) (S : TS) : TS := if bkC S.1 x y then (uN (uN (uN S.1 (12 + (S.1 0).toNat) x) (15 + (S.1 0).toNat) y) 0 (S.1 0 + 1), S.2) else S
theorem Rg_ext {a b : Nat → Int} {L : List Dy} (h : ∀ k : Nat, (k = 3 ∨ k = 5 ∨ 1002 ≤ k) → b k = a k) (hg : Rg a L) : Rg b L := by
  obtain ⟨g1, g2, g3, g4⟩ := hg
  refine ⟨by rw [h 3 (by omega)]; exact g1, g2, by rw [h 5 (by omega)]; exact g3, fun i hi => ?_⟩
  have e : svR b i = svR a i := by
    funext k
    unfold svR
    rw [h 5 (by omega), h _ (by omega)]
  rw [e]
  exact g4 i hi
/-- what is told anew -/
theorem isT_up {o : Nat} {am : Nat → Nat} {u tl t2 : Nat → Int} {b0 b : Nat → Nat → Int} {D : Dy} {L : List Dy} {w : Wo} {n : Int} {a0 a c : Nat → Int} (hd : Dok n D) (hM : isM o am u c b w) (hR : Rp a D) (hF : Fr a0 a) (hB : Fb b0 b) (hTE : TE tl a0) (hRg : Rg a0 L)
    (h1 : ∀ k : Nat, (18 ≤ k ∨ k = 3 ∨ k = 5) → c k = a k) (h2 : ∀ k : Nat, k < 18 → k ≠ 3 → k ≠ 5 → c k = t2 k) (h3 : ∀ k : Nat, 986 ≤ k → k < 1002 → t2 k = tl k) : isT o am u t2 b0 D L w :=
  ⟨c, ⟨c, b, hM, Rp_ext hd (fun k k1 k2 => h1 k (by omega)) hR, fun _ _ => rfl, hB⟩, ⟨h2, fun k k1 k2 => by rw [h1 k (by omega), hF k (Or.inr k1), hTE.2 k k1 k2, h3 k k1 k2]⟩,
    Rg_ext (fun k hk => by rw [h1 k (by omega)]; exact hF k (by omega)) hRg⟩
theorem TSok_block {n x y : Int} {S : TS} (hs : TSok n S) : TSok n (sBlock x y S) := by
  unfold sBlock
  split
  · rename_i h
    obtain ⟨⟨t1, t2, t3, t4⟩, h2⟩ := hs
    have h0 : 0 ≤ S.1 0 ∧ S.1 0 ≤ 3 := t1 0 (by decide)
    refine ⟨⟨fun k hk => ?_, fun c hc => ?_, ?_, ?_⟩, h2⟩
    · show Mlo k ≤ uN (uN (uN S.1 (12 + (S.1 0).toNat) x) (15 + (S.1 0).toNat) y) 0 (S.1 0 + 1) k ∧ uN (uN (uN S.1 (12 + (S.1 0).toNat) x) (15 + (S.1 0).toNat) y) 0 (S.1 0 + 1) k ≤ Mhi k
      have hm : ∀ k : Nat, 12 ≤ k → k < 18 → Mlo k = 0 ∧ Mhi k = 30 := fun k k1 k2 => by
        have e : ∀ k : Nat, k < 18 → 12 ≤ k → Mlo k = 0 ∧ Mhi k = 30 := by decide
        exact e k k2 k1
      by_cases e0 : k = 0
      · subst e0
        rw [uN_s]
        exact ⟨by show (0 : Int) ≤ _; omega, by show _ ≤ (3 : Int); omega⟩
      · rw [uN_o e0]
        by_cases e1 : k = 15 + (S.1 0).toNat
        · rw [e1, uN_s, (hm _ (by omega) (by omega)).1, (hm _ (by omega) (by omega)).2]
          omega
        · rw [uN_o e1]
          by_cases e2 : k = 12 + (S.1 0).toNat
          · rw [e2, uN_s, (hm _ (by omega) (by omega)).1, (hm _ (by omega) (by omega)).2]
            omega
          · rw [uN_o e2]; exact t1 k hk
    · show uN (uN (uN S.1 (12 + (S.1 0).toNat) x) (15 + (S.1 0).toNat) y) 0 (S.1 0 + 1) (15 + c) ≤ uN (uN (uN S.1 (12 + (S.1 0).toNat) x) (15 + (S.1 0).toNat) y) 0 (S.1 0 + 1) (12 + c)
      rw [uN_o (by omega), uN_o (j := 12 + c) (by omega), uN_o (k := 15 + (S.1 0).toNat) (j := 12 + c) (by omega)]
      by_cases e : c = (S.1 0).toNat
      · rw [e, uN_s, uN_s]; omega
      · rw [uN_o (by omega), uN_o (by omega), uN_o (by omega)]; exact t2 c hc
    · show uN (uN (uN S.1 (12 + (S.1 0).toNat) x) (15 + (S.1 0).toNat) y) 0 (S.1 0 + 1) 10 < uN (uN (uN S.1 (12 + (S.1 0).toNat) x) (15 + (S.1 0).toNat) y) 0 (S.1 0 + 1) 11
      rw [uN_o (by omega), uN_o (by omega), uN_o (by omega), uN_o (by omega), uN_o (by omega), uN_o (by omega)]; exact t3
    · show uN (uN (uN S.1 (12 + (S.1 0).toNat) x) (15 + (S.1 0).toNat) y) 0 (S.1 0 + 1) 11 ≤ uN (uN (uN S.1 (12 + (S.1 0).toNat) x) (15 + (S.1 0).toNat) y) 0 (S.1 0 + 1) 9
      rw [uN_o (by omega), uN_o (by omega), uN_o (by omega), uN_o (by omega), uN_o (by omega), uN_o (by omega)]; exact t4
  · exact hs
theorem sDays_t {X : Nat → Int → Option Gn} {sure : Int} : ∀ (k : Nat) {S : TS}, S.2.1.1 18 + k ≤ 9999 → (sDays X sure k S).1 = true
  | 0, S, h => rfl
  | k + 1, S, h => by
    unfold sDays
    rw [if_neg (by omega)]
    exact sDays_t k (by show (mTick X S.1 sure S.2.1).1 18 + (k : Int) ≤ 9999; rw [mTick_18]; omega)
/-- a clause is played -/
def sPlay1 (X : Nat → Int → Option Gn) (sure : Int) (f : Nat → Int) (q : Nat) (S : TS) : Bool × TS :=
  if f q = 2 then (decide (bkC S.1 (f (q + 2)) (f (q + 1))), sBlock (f (q + 2)) (f (q + 1)) S)
  else if f q = 3 then (decide (opC S.1 S.2.1 (f (q + 1))), sOpen (f (q + 1)) S)
  else if f q = 4 then (decide (cnC S.1 S.2.1 (f (q + 1)) (f (q + 2))), sCancel (f (q + 1)) (f (q + 2)) S)
  else if f q = 5 then sDays X sure (f (q + 1)).toNat S
  else (true, S)
def sPlay (X : Nat → Int → Option Gn) (sure : Int) (f : Nat → Int) (t : Nat) : Nat → Nat → TS → Int × TS
  | 0, _, S => (-1, S)
  | m + 1, k, S => if (sPlay1 X sure f (681 * t + 1 + 3 * k) S).1 = true then sPlay X sure f t m (k + 1) (sPlay1 X sure f (681 * t + 1 + 3 * k) S).2 else (((k : Nat) : Int), (sPlay1 X sure f (681 * t + 1 + 3 * k) S).2)
theorem TSok_play1 {X : Nat → Int → Option Gn} {sure : Int} {f : Nat → Int} {q : Nat} {n : Int} {S : TS} (hv : 2 ≤ f q → 0 ≤ f (q + 1) ∧ f (q + 1) ≤ 30) (hs : TSok n S) : TSok (n + 3400) (sPlay1 X sure f q S).2 := by
  unfold sPlay1
  repeat' split
  · exact TSok_mono (by omega) (TSok_block hs)
  · exact TSok_mono (by omega) (TSok_open hs)
  · exact TSok_mono (by omega) (TSok_cancel hs)
  · exact TSok_mono (by omega) (TSok_days (f (q + 1)).toNat hs)
  · exact TSok_mono (by omega) hs
theorem sOpen_1 {x : Int} {S : TS} : (sOpen x S).1 = S.1 := by unfold sOpen; split <;> rfl
theorem sCancel_1 {x y : Int} {S : TS} : (sCancel x y S).1 = S.1 := by unfold sCancel; split <;> rfl
theorem sBlock_12 {x y : Int} {S : TS} (h0 : 0 ≤ S.1 0) {k : Nat} (hk : k = 1 ∨ k = 2) : (sBlock x y S).1 k = S.1 k := by
  unfold sBlock
  split
  · show uN (uN (uN S.1 (12 + (S.1 0).toNat) x) (15 + (S.1 0).toNat) y) 0 (S.1 0 + 1) k = S.1 k
    rw [uN_o (by omega), uN_o (by omega), uN_o (by omega)]
  · rfl
theorem sPlay1_12 {X : Nat → Int → Option Gn} {sure : Int} {f : Nat → Int} {q : Nat} {S : TS} (h0 : 0 ≤ S.1 0) {k : Nat} (hk : k = 1 ∨ k = 2) : (sPlay1 X sure f q S).2.1 k = S.1 k := by
  unfold sPlay1
  repeat' split
  · exact sBlock_12 h0 hk
  · rw [sOpen_1]
  · rw [sCancel_1]
  · rw [sDays_1]
  · rfl
theorem mPut_len0 {s : Nat} {r : Rw} {D : Dy} : (D.2.1 0).length ≤ ((mPut s r D).2.1 0).length := by
  unfold mPut
  split
  · exact Nat.le_refl _
  · show (D.2.1 0).length ≤ (lsS D.2.1 s (D.2.1 s ++ [r]) 0).length
    by_cases e : (0 : Nat) = s
    · subst e; rw [lsS_s, List.length_append]; exact Nat.le_add_right _ _
    · rw [lsS_n _ _ e]; exact Nat.le_refl _
theorem mPieces_len0 {b ck : Int} : ∀ (L : List (Nat × Nat)) {D : Dy}, (D.2.1 0).length ≤ ((mPieces b ck L D).2.1 0).length
  | [], D => Nat.le_refl _
  | q :: [], D => mPut_len0
  | q :: q2 :: t, D => Nat.le_trans mPut_len0 (mPieces_len0 (q2 :: t))
theorem mOpen_len0 {a0 : Nat → Int} {b : Nat} {D : Dy} : (D.2.1 0).length ≤ ((mOpen a0 b D).2.1 0).length := by
  have h1 : (D.2.1 0).length ≤ ((mRed a0 b (mRedOf a0 b) (mNote (rwB (D.1 18) 0 b 0) (mS (28 + b) 1 D))).2.1 0).length := by
    unfold mRed
    split
    · exact Nat.le_refl _
    · exact mPieces_len0 (D := mS _ _ (mNote (rwB (D.1 18) 0 b 0) (mS (28 + b) 1 D))) _
  unfold mOpen
  simp only []
  split
  · exact Nat.le_trans h1 (mPieces_len0 _)
  · exact Nat.le_trans h1 (mPieces_len0 _)
theorem liftT {o : Nat} {am : Nat → Nat} {u tl : Nat → Int} {b0 : Nat → Nat → Int} {D : Dy} {L : List Dy} {l : Launch} {G : GT} {y : MethodName} {cc : ByteArray} {maxL : Nat} {ret : Option FieldType} {d mc ms : Nat} {av : List AV} {Q : (Nat → Int) → Wo → Option AV → Wo → Prop} {Q2 : Wo → Option AV → Wo → Prop}
    (h : ∀ a0, TE tl a0 → Rg a0 L → Ctr l G y cc maxL ret d mc ms av (fun w => isE o am u a0 b0 D w) (Q a0)) (hQ : ∀ a0 w r w', TE tl a0 → Rg a0 L → Q a0 w r w' → Q2 w r w') : Ctr l G y cc maxL ret d mc ms av (fun w => isT o am u tl b0 D L w) Q2 :=
  Ctr.mono (Ctr.exE (α := Nat → Int) (C := fun a0 => TE tl a0 ∧ Rg a0 L) (P := fun a0 w => isE o am u a0 b0 D w) (Q := Q) (Q2 := Q2) (fun a0 hc => h a0 hc.1 hc.2) (fun a0 w r w' hc q => hQ a0 w r w' hc.1 hc.2 q)) (fun w hw => by
    obtain ⟨a0, h1, h2, h3⟩ := hw
    exact ⟨a0, ⟨h2, h3⟩, h1⟩) (fun _ _ _ _ q => q)
def sUndo (S : TS) : TS := if S.2.2.length = 0 then S else (S.1, gY S.2.2 (S.2.2.length - 1), S.2.2.dropLast)
theorem vX11_undo (l : Launch) (G : GT) (o : Nat) (am : Nat → Nat) (u tl : Nat → Int) (b0 : Nat → Nat → Int) (D : Dy) (L : List Dy) (n : Int) (hT : Tok tl) (hd : Dok n D) (hL : Lok n L) (hn : 0 ≤ n ∧ n ≤ 800000000) :
    Ctr l G yX11_undo cX11_undo 3 (Option.some Jvm.ClassFile.FieldType.int) 2 0 0 [vr o] (fun w => isT o am u tl b0 D L w) (fun w r w' => r = some (vi (if L.length = 0 then -1 else ((L.length : Nat) : Int) - 1)) ∧ isTS o am u b0 (sUndo (tl, D, L)) w') := by
  refine liftT (fun a0 h1 h2 => eX11_undo l G o am u a0 b0 D n (Tok_R hT h1 h2) hd (by omega) L h2 hL) (fun a0 w r w' h1 h2 hq => ?_)
  rcases hq with ⟨q1, q2, q3⟩ | ⟨c, a1, q1, q2, q3, q4, q5⟩
  · refine ⟨by rw [if_pos q1]; exact q2, ?_⟩
    unfold sUndo
    rw [if_pos q1]
    exact ⟨a0, q3, h1, h2⟩
  · refine ⟨by rw [if_neg (by omega), q2]; exact reI (by omega), ?_⟩
    unfold sUndo
    rw [if_neg (by show ¬ L.length = 0; omega)]
    refine ⟨a1, ?_, TE.tr h1 q4, q5⟩
    show isE o am u a1 b0 (gY L (L.length - 1)) w'
    rw [show L.length - 1 = c by omega]
    exact q3
theorem TSok_undo {n : Int} {S : TS} (hs : TSok n S) : TSok n (sUndo S) := by
  unfold sUndo
  split
  · exact hs
  · rename_i h
    obtain ⟨h1, h2, h3, h4, h5⟩ := hs
    have hm := h5 _ (gY_mem (L := S.2.2) (i := S.2.2.length - 1) (by omega))
    exact ⟨h1, hm.1, hm.2.1, hm.2.2, fun E hE => h5 E ((List.dropLast_sublist _).subset hE)⟩

set_option maxHeartbeats 4000000 in
set_option maxRecDepth 100000 in
theorem vX11_block (l : Launch) (G : GT) (o : Nat) (am : Nat → Nat) (u tl : Nat → Int) (b0 : Nat → Nat → Int) (D : Dy) (L : List Dy) (n : Int) (hT : Tok tl) (hd : Dok n D) (hi : Inv D) (hc9 : D.1 18 ≤ 9999) (hL : Lok n L) (hn : 0 ≤ n ∧ n ≤ 800000000) (hu : u 23 = 0 ∨ u 23 = 1) (X : Nat → Int → Option Gn) (hX : TxOk (b0 2) X (tl 1) ∧ tl 2 < tl 1) (x y : Int) (hx : -2147483648 ≤ x ∧ x ≤ 2147483647) (hy : -2147483648 ≤ y ∧ y ≤ 2147483647) : Ctr l G yX11_block cX11_block 3 ((Option.some Jvm.ClassFile.FieldType.int)) 2 0 0 [vr o, vi x, vi y] (fun w => isT o am u tl b0 D L w) (fun w r w' => r = some (vi (if bkC tl x y then tl 0 else -1)) ∧ isTS o am u b0 (sBlock x y (tl, D, L)) w') := by
  refine Ctr.of (t := tX11_block) (lv0 := [some (vr o), some (vi x), some (vi y)]) (by decide +kernel) tX11_block_ok rfl rfl (fun w g hP M => ?_)
  obtain ⟨a0, ⟨a, b, hM, hR, hF, hB⟩, hTE, hRg⟩ := hP
  have ht : Tok a0 := Tok_R hT hTE hRg
  have hk0 : 0 ≤ tl 0 ∧ tl 0 ≤ 3 := hT.1 0 (by decide)
  refine M.run 3 (pc' := 4) (lv' := [some (vr o), some (vi x), some (vi y)]) (st' := [vi 30, vi 1, vi x]) rfl ?_
  refine M.callS (kX11_isIn l G x 1 30 (qI (by omega)) (qI (by omega)) (qI (by omega))) cs_X11_50 cd_X11_isIn rfl (st := []) rfl (by decide) (by decide) rfl (Nat.zero_le _) (Nat.zero_le _) trivial (fun r1 w2 q3 => ?_)
  rw [q3.1, q3.2]
  refine M.if_eq (tgt := 29) rfl (inI_zb _) (by decide) (fun h7 => ?_) (fun h7 => ?_)
  · skip
    replace h7 := zb_fd h7
    have hno : ¬ bkC tl x y := fun q => h7 q.1
    refine M.run 1 (pc' := 30) (lv' := [some (vr o), some (vi x), some (vi y)]) (st' := [vi (-1)]) rfl ?_
    exact M.iret rfl (Nat.zero_le _) (Nat.zero_le _) ⟨reI (if_neg hno).symm, by unfold sBlock; rw [if_neg hno]; exact ⟨a0, ⟨_, _, hM, hR, hF, hB⟩, hTE, hRg⟩⟩
  · skip
    replace h7 := zb_td h7
    refine M.run 3 (pc' := 13) (lv' := [some (vr o), some (vi x), some (vi y)]) (st' := [vi x, vi 0, vi y]) rfl ?_
    refine M.callS (kX11_isIn l G y 0 x (qI (by omega)) (qI (by omega)) (qI (by omega))) cs_X11_50 cd_X11_isIn rfl (st := []) rfl (by decide) (by decide) rfl (Nat.zero_le _) (Nat.zero_le _) trivial (fun r5 w6 q7 => ?_)
    rw [q7.1, q7.2]
    refine M.if_eq (tgt := 29) rfl (inI_zb _) (by decide) (fun h16 => ?_) (fun h16 => ?_)
    · skip
      replace h16 := zb_fd h16
      have hno : ¬ bkC tl x y := fun q => h16 q.2.1
      refine M.run 1 (pc' := 30) (lv' := [some (vr o), some (vi x), some (vi y)]) (st' := [vi (-1)]) rfl ?_
      exact M.iret rfl (Nat.zero_le _) (Nat.zero_le _) ⟨reI (if_neg hno).symm, by unfold sBlock; rw [if_neg hno]; exact ⟨a0, ⟨_, _, hM, hR, hF, hB⟩, hTE, hRg⟩⟩
    · skip
      replace h16 := zb_td h16
      refine M.run 1 (pc' := 20) (lv' := [some (vr o), some (vi x), some (vi y)]) (st' := [vr o]) rfl ?_
      refine M.get fl_X11_7 rfl (isM_o hM) (kf := 0) (v := vr (am 0)) rfl ?_
      refine M.run 1 (pc' := 24) (lv' := [some (vr o), some (vi x), some (vi y)]) (st' := [vi 0, vr (am 0)]) rfl ?_
      refine M.ialdN (0) rfl (isM_a hM) (by decide) (by decide) ?_
      rw [show a 0 = tl 0 from (hF 0 (Or.inl (by decide))).trans (hTE.1 0 (by decide) (by decide) (by decide))]
      refine M.run 1 (pc' := 26) (lv' := [some (vr o), some (vi x), some (vi y)]) (st' := [vi 3, vi (tl 0)]) rfl ?_
      refine M.icmp_ne (tgt := 31) rfl (qI (by omega)) (qI (by decide)) (by decide) (fun h26 => ?_) (fun h26 => ?_)
      · skip
        have hbk : bkC tl x y := ⟨h7, h16, h26⟩
        refine M.run 1 (pc' := 32) (lv' := [some (vr o), some (vi x), some (vi y)]) (st' := [vr o]) rfl ?_
        refine M.get fl_X11_7 rfl (isM_o hM) (kf := 0) (v := vr (am 0)) rfl ?_
        refine M.run 2 (pc' := 38) (lv' := [some (vr o), some (vi x), some (vi y)]) (st' := [vr o, vi 12, vr (am 0)]) rfl ?_
        refine M.get fl_X11_7 rfl (isM_o hM) (kf := 0) (v := vr (am 0)) rfl ?_
        refine M.run 1 (pc' := 42) (lv' := [some (vr o), some (vi x), some (vi y)]) (st' := [vi 0, vr (am 0), vi 12, vr (am 0)]) rfl ?_
        refine M.ialdN (0) rfl (isM_a hM) (by decide) (by decide) ?_
        rw [show a 0 = tl 0 from (hF 0 (Or.inl (by decide))).trans (hTE.1 0 (by decide) (by decide) (by decide))]
        rw [show tl 0 = (((tl 0).toNat : Nat) : Int) from (Int.toNat_of_nonneg (by omega)).symm]
        refine M.run 2 (pc' := 45) (lv' := [some (vr o), some (vi x), some (vi y)]) (st' := [vi x, vi (12 + (((tl 0).toNat : Nat) : Int)), vr (am 0)]) rfl ?_
        refine M.iastN (12 + ((tl 0).toNat)) rfl (isM_a hM) (by omega) (by decide) ?_
        have hM10 := isM_setA hM (uN a (12 + ((tl 0).toNat)) x)
        generalize up w (am 0) (Ar 0 30042 (uN a (12 + ((tl 0).toNat)) x)) = w9 at hM10 ⊢
        refine M.run 1 (pc' := 47) (lv' := [some (vr o), some (vi x), some (vi y)]) (st' := [vr o]) rfl ?_
        refine M.get fl_X11_7 rfl (isM_o hM10) (kf := 0) (v := vr (am 0)) rfl ?_
        refine M.run 2 (pc' := 53) (lv' := [some (vr o), some (vi x), some (vi y)]) (st' := [vr o, vi 15, vr (am 0)]) rfl ?_
        refine M.get fl_X11_7 rfl (isM_o hM10) (kf := 0) (v := vr (am 0)) rfl ?_
        refine M.run 1 (pc' := 57) (lv' := [some (vr o), some (vi x), some (vi y)]) (st' := [vi 0, vr (am 0), vi 15, vr (am 0)]) rfl ?_
        refine M.ialdN (0) rfl (isM_a hM10) (by decide) (by decide) ?_
        rw [show (uN a (12 + ((tl 0).toNat)) x) 0 = tl 0 from (uN_o (by omega)).trans ((hF 0 (Or.inl (by decide))).trans (hTE.1 0 (by decide) (by decide) (by decide)))]
        rw [show tl 0 = (((tl 0).toNat : Nat) : Int) from (Int.toNat_of_nonneg (by omega)).symm]
        refine M.run 2 (pc' := 60) (lv' := [some (vr o), some (vi x), some (vi y)]) (st' := [vi y, vi (15 + (((tl 0).toNat : Nat) : Int)), vr (am 0)]) rfl ?_
        refine M.iastN (15 + ((tl 0).toNat)) rfl (isM_a hM10) (by omega) (by decide) ?_
        have hM12 := isM_setA hM10 (uN (uN a (12 + ((tl 0).toNat)) x) (15 + ((tl 0).toNat)) y)
        generalize up w9 (am 0) (Ar 0 30042 (uN (uN a (12 + ((tl 0).toNat)) x) (15 + ((tl 0).toNat)) y)) = w11 at hM12 ⊢
        refine M.run 1 (pc' := 62) (lv' := [some (vr o), some (vi x), some (vi y)]) (st' := [vr o]) rfl ?_
        refine M.get fl_X11_7 rfl (isM_o hM12) (kf := 0) (v := vr (am 0)) rfl ?_
        refine M.run 2 (pc' := 67) (lv' := [some (vr o), some (vi x), some (vi y)]) (st' := [vi 0, vr (am 0), vi 0, vr (am 0)]) rfl ?_
        refine M.ialdN (0) rfl (isM_a hM12) (by decide) (by decide) ?_
        rw [show (uN (uN a (12 + ((tl 0).toNat)) x) (15 + ((tl 0).toNat)) y) 0 = tl 0 from ((uN_o (by omega)).trans (uN_o (by omega))).trans ((hF 0 (Or.inl (by decide))).trans (hTE.1 0 (by decide) (by decide) (by decide)))]
        refine M.run 2 (pc' := 70) (lv' := [some (vr o), some (vi x), some (vi y)]) (st' := [vi ((tl 0) + 1), vi 0, vr (am 0)]) rfl ?_
        refine M.iastN (0) rfl (isM_a hM12) (by decide) (by decide) ?_
        have hM14 := isM_setA hM12 (uN (uN (uN a (12 + ((tl 0).toNat)) x) (15 + ((tl 0).toNat)) y) 0 ((tl 0) + 1))
        generalize up w11 (am 0) (Ar 0 30042 (uN (uN (uN a (12 + ((tl 0).toNat)) x) (15 + ((tl 0).toNat)) y) 0 ((tl 0) + 1))) = w13 at hM14 ⊢
        refine M.run 1 (pc' := 72) (lv' := [some (vr o), some (vi x), some (vi y)]) (st' := [vr o]) rfl ?_
        refine M.get fl_X11_7 rfl (isM_o hM14) (kf := 0) (v := vr (am 0)) rfl ?_
        refine M.run 1 (pc' := 76) (lv' := [some (vr o), some (vi x), some (vi y)]) (st' := [vi 0, vr (am 0)]) rfl ?_
        refine M.ialdN (0) rfl (isM_a hM14) (by decide) (by decide) ?_
        rw [show (uN (uN (uN a (12 + ((tl 0).toNat)) x) (15 + ((tl 0).toNat)) y) 0 ((tl 0) + 1)) 0 = (tl 0) + 1 from uN_s _ _ _]
        refine M.run 2 (pc' := 79) (lv' := [some (vr o), some (vi x), some (vi y)]) (st' := [vi (((tl 0) + 1) - 1)]) rfl ?_
        exact M.iret rfl (Nat.zero_le _) (Nat.zero_le _) (by
            refine ⟨reI (by rw [if_pos hbk]; omega), ?_⟩
            unfold sBlock
            rw [if_pos hbk]
            refine isT_up hd hM14 hR hF hB hTE hRg (fun k hk => ?_) (fun k k1 k2 k3 => ?_) (fun k k1 k2 => ?_)
            · rw [uN_o (by omega), uN_o (by omega), uN_o (by omega)]
            · show uN (uN (uN a (12 + (tl 0).toNat) x) (15 + (tl 0).toNat) y) 0 (tl 0 + 1) k = uN (uN (uN tl (12 + (tl 0).toNat) x) (15 + (tl 0).toNat) y) 0 (tl 0 + 1) k
              by_cases e0 : k = 0
              · subst e0; rw [uN_s, uN_s]
              · rw [uN_o e0, uN_o e0]
                by_cases e1 : k = 15 + (tl 0).toNat
                · rw [e1, uN_s, uN_s]
                · rw [uN_o e1, uN_o e1]
                  by_cases e2 : k = 12 + (tl 0).toNat
                  · rw [e2, uN_s, uN_s]
                  · rw [uN_o e2, uN_o e2]; exact (hF k (Or.inl k1)).trans (hTE.1 k k1 k2 k3)
            · show uN (uN (uN tl (12 + (tl 0).toNat) x) (15 + (tl 0).toNat) y) 0 (tl 0 + 1) k = tl k
              rw [uN_o (by omega), uN_o (by omega), uN_o (by omega)])
      · skip
        have hno : ¬ bkC tl x y := fun q => q.2.2 h26
        refine M.run 1 (pc' := 30) (lv' := [some (vr o), some (vi x), some (vi y)]) (st' := [vi (-1)]) rfl ?_
        exact M.iret rfl (Nat.zero_le _) (Nat.zero_le _) ⟨reI (if_neg hno).symm, by unfold sBlock; rw [if_neg hno]; exact ⟨a0, ⟨_, _, hM, hR, hF, hB⟩, hTE, hRg⟩⟩
set_option maxHeartbeats 4000000 in
set_option maxRecDepth 100000 in
theorem vX11_day (l : Launch) (G : GT) (o : Nat) (am : Nat → Nat) (u tl : Nat → Int) (b0 : Nat → Nat → Int) (D : Dy) (L : List Dy) (n : Int) (hT : Tok tl) (hd : Dok n D) (hi : Inv D) (hc9 : D.1 18 ≤ 9999) (hL : Lok n L) (hn : 0 ≤ n ∧ n ≤ 800000000) (hu : u 23 = 0 ∨ u 23 = 1) (X : Nat → Int → Option Gn) (hX : TxOk (b0 2) X (tl 1) ∧ tl 2 < tl 1) (x : Int) (hx : -2147483648 ≤ x ∧ x ≤ 2147483647) : Ctr l G yX11_day cX11_day 3 ((Option.some Jvm.ClassFile.FieldType.int)) 10 0 0 [vr o, vi x] (fun w => isT o am u tl b0 D L w) (fun w r w' => r = some (vi (if (1 ≤ x ∧ x ≤ 30) ∧ D.1 18 + x ≤ 9999 then (sDays X (u 23) x.toNat (tl, D, L)).2.2.1.1 21 - D.1 21 else -1)) ∧ isTS o am u b0 (if (1 ≤ x ∧ x ≤ 30) ∧ D.1 18 + x ≤ 9999 then (sDays X (u 23) x.toNat (tl, D, L)).2 else (tl, D, L)) w') := by
  refine Ctr.of (t := tX11_day) (lv0 := [some (vr o), some (vi x), none]) (by decide +kernel) tX11_day_ok rfl rfl (fun w g hP M => ?_)
  obtain ⟨a0, ⟨a, b, hM, hR, hF, hB⟩, hTE, hRg⟩ := hP
  have ht : Tok a0 := Tok_R hT hTE hRg
  have hk18 := Dok_clk hd
  refine M.run 1 (pc' := 1) (lv' := [some (vr o), some (vi x), none]) (st' := [vr o]) rfl ?_
  refine M.get fl_X11_7 rfl (isM_o hM) (kf := 0) (v := vr (am 0)) rfl ?_
  refine M.run 1 (pc' := 6) (lv' := [some (vr o), some (vi x), none]) (st' := [vi 21, vr (am 0)]) rfl ?_
  refine M.ialdN (21) rfl (isM_a hM) (by decide) (by decide) ?_
  rw [show a 21 = D.1 21 from Rp_s hR (k := 21) (by decide) (by decide) (by decide)]
  refine M.run 4 (pc' := 12) (lv' := [some (vr o), some (vi x), some (vi (D.1 21))]) (st' := [vi 30, vi 1, vi x]) rfl ?_
  refine M.callS (kX11_isIn l G x 1 30 (qI (by omega)) (qI (by omega)) (qI (by omega))) cs_X11_50 cd_X11_isIn rfl (st := []) rfl (by decide) (by decide) rfl (Nat.zero_le _) (Nat.zero_le _) trivial (fun r1 w2 q3 => ?_)
  rw [q3.1, q3.2]
  refine M.if_eq (tgt := 53) rfl (inI_zb _) (by decide) (fun h15 => ?_) (fun h15 => ?_)
  · skip
    replace h15 := zb_fd h15
    refine M.run 1 (pc' := 54) (lv' := [some (vr o), some (vi x), some (vi (D.1 21))]) (st' := [vi (-1)]) rfl ?_
    exact M.iret rfl (Nat.zero_le _) (Nat.zero_le _) ⟨reI (if_neg (by omega)).symm, by rw [if_neg (by omega)]; exact ⟨a0, ⟨_, _, hM, hR, hF, hB⟩, hTE, hRg⟩⟩
  · skip
    replace h15 := zb_td h15
    refine M.run 1 (pc' := 19) (lv' := [some (vr o), some (vi x), some (vi (D.1 21))]) (st' := [vr o]) rfl ?_
    refine M.get fl_X11_7 rfl (isM_o hM) (kf := 0) (v := vr (am 0)) rfl ?_
    refine M.run 1 (pc' := 24) (lv' := [some (vr o), some (vi x), some (vi (D.1 21))]) (st' := [vi 18, vr (am 0)]) rfl ?_
    refine M.ialdN (18) rfl (isM_a hM) (by decide) (by decide) ?_
    rw [show a 18 = D.1 18 from Rp_s hR (k := 18) (by decide) (by decide) (by decide)]
    refine M.run 3 (pc' := 30) (lv' := [some (vr o), some (vi x), some (vi (D.1 21))]) (st' := [vi 9999, vi ((D.1 18) + x)]) rfl ?_
    refine M.icmp_gt (tgt := 53) rfl (qI (by omega)) (qI (by decide)) (by decide) (fun h30 => ?_) (fun h30 => ?_)
    · skip
      refine M.run 1 (pc' := 54) (lv' := [some (vr o), some (vi x), some (vi (D.1 21))]) (st' := [vi (-1)]) rfl ?_
      exact M.iret rfl (Nat.zero_le _) (Nat.zero_le _) ⟨reI (if_neg (by omega)).symm, by rw [if_neg (by omega)]; exact ⟨a0, ⟨_, _, hM, hR, hF, hB⟩, hTE, hRg⟩⟩
    · skip
      obtain ⟨m, rfl⟩ := Int.eq_ofNat_of_zero_le (show (0 : Int) ≤ x from (by omega))
      have hcd : (1 ≤ ((m : Nat) : Int) ∧ ((m : Nat) : Int) ≤ 30) ∧ D.1 18 + ((m : Nat) : Int) ≤ 9999 := by omega
      refine M.run 2 (pc' := 35) (lv' := [some (vr o), some (vi ((m : Nat) : Int)), some (vi (D.1 21))]) (st' := [vi ((m : Nat) : Int), vr o]) rfl ?_
      refine M.callV (vX11_arePassed l G o am u tl b0 D L n hT hd hi hc9 (Lok_mono (by omega) hL) (by omega) hu X hX m (by omega)) cv_X11_413 cd_X11_arePassed rfl (st := []) rfl (isM_o hM) (by decide) (by decide) rfl (Nat.zero_le _) (Nat.zero_le _) ⟨a0, ⟨_, _, hM, hR, hF, hB⟩, hTE, hRg⟩ (fun r6 w7 q8 => ?_)
      obtain ⟨q8r, a0, ⟨a5, b5, hM5, hR5, hF5, hB5⟩, hTE, hRg⟩ := q8
      rw [q8r]
      have hS5 : TSok (n + 110 * ((m : Nat) : Int)) ((sDays X (u 23) m (tl, D, L)).2) := TSok_days m ⟨hT, hd, hi, hc9, Lok_mono (by omega) hL⟩
      obtain ⟨hT5, hd5, hi5, h95, hL5⟩ := hS5
      have ht : Tok a0 := Tok_R hT5 hTE hRg
      refine M.if_eq (tgt := 53) rfl (inI_zb _) (by decide) (fun h38 => ?_) (fun h38 => ?_)
      · skip
        replace h38 := zb_f0 h38
        exact absurd (sDays_t m (S := (tl, D, L)) hcd.2) (by rw [h38]; decide)
        skip
      · skip
        replace h38 := zb_t h38
        refine M.run 1 (pc' := 42) (lv' := [some (vr o), some (vi ((m : Nat) : Int)), some (vi (D.1 21))]) (st' := [vr o]) rfl ?_
        refine M.get fl_X11_7 rfl (isM_o hM5) (kf := 0) (v := vr (am 0)) rfl ?_
        refine M.run 1 (pc' := 47) (lv' := [some (vr o), some (vi ((m : Nat) : Int)), some (vi (D.1 21))]) (st' := [vi 21, vr (am 0)]) rfl ?_
        refine M.ialdN (21) rfl (isM_a hM5) (by decide) (by decide) ?_
        rw [show a5 21 = (((sDays X (u 23) m (tl, D, L)).2).2.1).1 21 from Rp_s hR5 (k := 21) (by decide) (by decide) (by decide)]
        refine M.run 3 (pc' := 54) (lv' := [some (vr o), some (vi ((m : Nat) : Int)), some (vi (D.1 21))]) (st' := [vi (((((sDays X (u 23) m (tl, D, L)).2).2.1).1 21) - (D.1 21))]) rfl ?_
        exact M.iret rfl (Nat.zero_le _) (Nat.zero_le _) ⟨reI (if_pos hcd).symm, by rw [if_pos hcd]; exact ⟨a0, ⟨_, _, hM5, hR5, hF5, hB5⟩, hTE, hRg⟩⟩
set_option maxHeartbeats 4000000 in
set_option maxRecDepth 100000 in
theorem vX11_isPlayed (l : Launch) (G : GT) (o : Nat) (am : Nat → Nat) (u tl : Nat → Int) (b0 : Nat → Nat → Int) (D : Dy) (L : List Dy) (n : Int) (hT : Tok tl) (hd : Dok n D) (hi : Inv D) (hc9 : D.1 18 ≤ 9999) (hL : Lok n L) (hn : 0 ≤ n ∧ n ≤ 800000000) (hu : u 23 = 0 ∨ u 23 = 1) (X : Nat → Int → Option Gn) (hX : TxOk (b0 2) X (tl 1) ∧ tl 2 < tl 1) (q : Nat) (hq : q + 2 < 2724) (hps : 0 ≤ b0 2 q ∧ b0 2 q ≤ 5) (hpw : 2 ≤ b0 2 q → (0 ≤ b0 2 (q + 1) ∧ b0 2 (q + 1) ≤ 30) ∧ (b0 2 q = 2 ∨ b0 2 q = 4 → 0 ≤ b0 2 (q + 2) ∧ b0 2 (q + 2) ≤ 30)) : Ctr l G yX11_isPlayed cX11_isPlayed 4 ((Option.some Jvm.ClassFile.FieldType.boolean)) 10 0 0 [vr o, vi ((q : Nat) : Int)] (fun w => isT o am u tl b0 D L w) (fun w r w' => r = some (vi (zb (sPlay1 X (u 23) (b0 2) q (tl, D, L)).1)) ∧ isTS o am u b0 (sPlay1 X (u 23) (b0 2) q (tl, D, L)).2 w') := by
  refine Ctr.of (t := tX11_isPlayed) (lv0 := [some (vr o), some (vi ((q : Nat) : Int)), none, none]) (by decide +kernel) tX11_isPlayed_ok rfl rfl (fun w g hP M => ?_)
  obtain ⟨a0, ⟨a, b, hM, hR, hF, hB⟩, hTE, hRg⟩ := hP
  have ht : Tok a0 := Tok_R hT hTE hRg
  have hk0 : 0 ≤ tl 0 ∧ tl 0 ≤ 3 := hT.1 0 (by decide)
  refine M.run 1 (pc' := 1) (lv' := [some (vr o), some (vi ((q : Nat) : Int)), none, none]) (st' := [vr o]) rfl ?_
  refine M.get fl_X11_16 rfl (isM_o hM) (kf := 2) (v := vr (am 2)) rfl ?_
  refine M.run 3 (pc' := 7) (lv' := [some (vr o), some (vi ((q : Nat) : Int)), none, none]) (st' := [vi (((q : Nat) : Int) + 1), vr (am 2)]) rfl ?_
  refine M.ialdN (q + 1) rfl ((isM_2 hM).trans (congrArg (fun z => some (Ar 0 2724 z)) (hB 2 (by decide) (by decide) (by decide)))) (by omega) (by decide) ?_
  refine M.run 2 (pc' := 10) (lv' := [some (vr o), some (vi ((q : Nat) : Int)), some (vi ((b0 2) (q + 1))), none]) (st' := [vr o]) rfl ?_
  refine M.get fl_X11_16 rfl (isM_o hM) (kf := 2) (v := vr (am 2)) rfl ?_
  refine M.run 3 (pc' := 16) (lv' := [some (vr o), some (vi ((q : Nat) : Int)), some (vi ((b0 2) (q + 1))), none]) (st' := [vi (((q : Nat) : Int) + 2), vr (am 2)]) rfl ?_
  refine M.ialdN (q + 2) rfl ((isM_2 hM).trans (congrArg (fun z => some (Ar 0 2724 z)) (hB 2 (by decide) (by decide) (by decide)))) (by omega) (by decide) ?_
  refine M.run 2 (pc' := 19) (lv' := [some (vr o), some (vi ((q : Nat) : Int)), some (vi ((b0 2) (q + 1))), some (vi ((b0 2) (q + 2)))]) (st' := [vr o]) rfl ?_
  refine M.get fl_X11_16 rfl (isM_o hM) (kf := 2) (v := vr (am 2)) rfl ?_
  refine M.run 1 (pc' := 23) (lv' := [some (vr o), some (vi ((q : Nat) : Int)), some (vi ((b0 2) (q + 1))), some (vi ((b0 2) (q + 2)))]) (st' := [vi ((q : Nat) : Int), vr (am 2)]) rfl ?_
  refine M.ialdN (q) rfl ((isM_2 hM).trans (congrArg (fun z => some (Ar 0 2724 z)) (hB 2 (by decide) (by decide) (by decide)))) (by omega) (by decide) ?_
  by_cases hs24_0 : (b0 2) q = 2
  · refine M.tswIn (tgt := 56) (off := 32) rfl (qI (by omega)) (by omega) (by omega) (by rw [hs24_0]; rfl) (by decide) ?_
    obtain ⟨hw1, hw2⟩ := hpw (by omega)
    have hw2 := hw2 (Or.inl hs24_0)
    have e1 : sPlay1 X (u 23) (b0 2) q (tl, D, L) = (decide (bkC tl (b0 2 (q + 2)) (b0 2 (q + 1))), sBlock (b0 2 (q + 2)) (b0 2 (q + 1)) (tl, D, L)) := if_pos hs24_0
    refine M.run 3 (pc' := 59) (lv' := [some (vr o), some (vi ((q : Nat) : Int)), some (vi ((b0 2) (q + 1))), some (vi ((b0 2) (q + 2)))]) (st' := [vi ((b0 2) (q + 1)), vi ((b0 2) (q + 2)), vr o]) rfl ?_
    refine M.callV (vX11_block l G o am u tl b0 D L n hT hd hi hc9 (Lok_mono (by omega) hL) (by omega) hu X hX ((b0 2) (q + 2)) ((b0 2) (q + 1)) (by omega) (by omega)) cv_X11_416 cd_X11_block rfl (st := []) rfl (isM_o hM) (by decide) (by decide) rfl (Nat.zero_le _) (Nat.zero_le _) ⟨a0, ⟨_, _, hM, hR, hF, hB⟩, hTE, hRg⟩ (fun r2 w3 q4 => ?_)
    obtain ⟨q4r, a0, ⟨a1, b1, hM1, hR1, hF1, hB1⟩, hTE, hRg⟩ := q4
    rw [q4r]
    have hS1 : TSok n (sBlock ((b0 2) (q + 2)) ((b0 2) (q + 1)) (tl, D, L)) := TSok_block ⟨hT, hd, hi, hc9, Lok_mono (by omega) hL⟩
    obtain ⟨hT1, hd1, hi1, h91, hL1⟩ := hS1
    have ht : Tok a0 := Tok_R hT1 hTE hRg
    refine M.if_lt (tgt := 69) rfl (qI (by omega)) (by decide) (fun h62 => ?_) (fun h62 => ?_)
    · skip
      refine M.run 1 (pc' := 70) (lv' := [some (vr o), some (vi ((q : Nat) : Int)), some (vi ((b0 2) (q + 1))), some (vi ((b0 2) (q + 2)))]) (st' := [vi 0]) rfl ?_
      exact M.zret rfl (Or.inl rfl) (Nat.zero_le _) (Nat.zero_le _) ⟨reI (by rw [e1]; show _ = zb (decide (bkC tl (b0 2 (q + 2)) (b0 2 (q + 1)))); exact zbd (fun hb => by rw [if_pos hb] at h62 <;> omega) (fun hb => by rw [if_neg hb] at h62 <;> omega)), by rw [e1]; exact ⟨a0, ⟨_, _, hM1, hR1, hF1, hB1⟩, hTE, hRg⟩⟩
    · skip
      refine M.run 2 (pc' := 70) (lv' := [some (vr o), some (vi ((q : Nat) : Int)), some (vi ((b0 2) (q + 1))), some (vi ((b0 2) (q + 2)))]) (st' := [vi 1]) rfl ?_
      exact M.zret rfl (Or.inr rfl) (Nat.zero_le _) (Nat.zero_le _) ⟨reI (by rw [e1]; show _ = zb (decide (bkC tl (b0 2 (q + 2)) (b0 2 (q + 1)))); exact zbd (fun hb => by rw [if_pos hb] at h62 <;> omega) (fun hb => by rw [if_neg hb] at h62 <;> omega)), by rw [e1]; exact ⟨a0, ⟨_, _, hM1, hR1, hF1, hB1⟩, hTE, hRg⟩⟩
  by_cases hs24_1 : (b0 2) q = 3
  · refine M.tswIn (tgt := 71) (off := 47) rfl (qI (by omega)) (by omega) (by omega) (by rw [hs24_1]; rfl) (by decide) ?_
    obtain ⟨hw1, hw2⟩ := hpw (by omega)
    have e1 : sPlay1 X (u 23) (b0 2) q (tl, D, L) = (decide (opC tl D (b0 2 (q + 1))), sOpen (b0 2 (q + 1)) (tl, D, L)) := (if_neg hs24_0).trans (if_pos hs24_1)
    have hll := mOpen_len0 (a0 := tl) (b := (b0 2 (q + 1)).toNat) (D := D)
    refine M.run 2 (pc' := 73) (lv' := [some (vr o), some (vi ((q : Nat) : Int)), some (vi ((b0 2) (q + 1))), some (vi ((b0 2) (q + 2)))]) (st' := [vi ((b0 2) (q + 1)), vr o]) rfl ?_
    refine M.callV (vX11_open l G o am u tl b0 D L n hT hd hi hc9 (Lok_mono (by omega) hL) (by omega) hu X hX ((b0 2) (q + 1)) (by omega)) cv_X11_419 cd_X11_open rfl (st := []) rfl (isM_o hM) (by decide) (by decide) rfl (Nat.zero_le _) (Nat.zero_le _) ⟨a0, ⟨_, _, hM, hR, hF, hB⟩, hTE, hRg⟩ (fun r7 w8 q9 => ?_)
    obtain ⟨q9r, a0, ⟨a6, b6, hM6, hR6, hF6, hB6⟩, hTE, hRg⟩ := q9
    rw [q9r]
    have hS6 : TSok (n + 1) (sOpen ((b0 2) (q + 1)) (tl, D, L)) := TSok_open ⟨hT, hd, hi, hc9, Lok_mono (by omega) hL⟩
    obtain ⟨hT6, hd6, hi6, h96, hL6⟩ := hS6
    have ht : Tok a0 := Tok_R hT6 hTE hRg
    have hor := opR (x := ((b0 2) (q + 1))) hT hd
    refine M.if_lt (tgt := 83) rfl (qI (by omega)) (by decide) (fun h76 => ?_) (fun h76 => ?_)
    · skip
      refine M.run 1 (pc' := 84) (lv' := [some (vr o), some (vi ((q : Nat) : Int)), some (vi ((b0 2) (q + 1))), some (vi ((b0 2) (q + 2)))]) (st' := [vi 0]) rfl ?_
      exact M.zret rfl (Or.inl rfl) (Nat.zero_le _) (Nat.zero_le _) ⟨reI (by rw [e1]; show _ = zb (decide (opC tl D (b0 2 (q + 1)))); exact zbd (fun hb => by rw [if_pos hb] at h76 <;> omega) (fun hb => by rw [if_neg hb] at h76 <;> omega)), by rw [e1]; exact ⟨a0, ⟨_, _, hM6, hR6, hF6, hB6⟩, hTE, hRg⟩⟩
    · skip
      refine M.run 2 (pc' := 84) (lv' := [some (vr o), some (vi ((q : Nat) : Int)), some (vi ((b0 2) (q + 1))), some (vi ((b0 2) (q + 2)))]) (st' := [vi 1]) rfl ?_
      exact M.zret rfl (Or.inr rfl) (Nat.zero_le _) (Nat.zero_le _) ⟨reI (by rw [e1]; show _ = zb (decide (opC tl D (b0 2 (q + 1)))); exact zbd (fun hb => by rw [if_pos hb] at h76 <;> omega) (fun hb => by rw [if_neg hb] at h76 <;> omega)), by rw [e1]; exact ⟨a0, ⟨_, _, hM6, hR6, hF6, hB6⟩, hTE, hRg⟩⟩
  by_cases hs24_2 : (b0 2) q = 4
  · refine M.tswIn (tgt := 85) (off := 61) rfl (qI (by omega)) (by omega) (by omega) (by rw [hs24_2]; rfl) (by decide) ?_
    obtain ⟨hw1, hw2⟩ := hpw (by omega)
    have hw2 := hw2 (Or.inr hs24_2)
    have e1 : sPlay1 X (u 23) (b0 2) q (tl, D, L) = (decide (cnC tl D (b0 2 (q + 1)) (b0 2 (q + 2))), sCancel (b0 2 (q + 1)) (b0 2 (q + 2)) (tl, D, L)) := (if_neg hs24_0).trans ((if_neg hs24_1).trans (if_pos hs24_2))
    refine M.run 3 (pc' := 88) (lv' := [some (vr o), some (vi ((q : Nat) : Int)), some (vi ((b0 2) (q + 1))), some (vi ((b0 2) (q + 2)))]) (st' := [vi ((b0 2) (q + 2)), vi ((b0 2) (q + 1)), vr o]) rfl ?_
    refine M.callV (vX11_cancel l G o am u tl b0 D L n hT hd hi hc9 (Lok_mono (by omega) hL) (by omega) hu X hX ((b0 2) (q + 1)) ((b0 2) (q + 2)) (by omega) (by omega)) cv_X11_422 cd_X11_cancel rfl (st := []) rfl (isM_o hM) (by decide) (by decide) rfl (Nat.zero_le _) (Nat.zero_le _) ⟨a0, ⟨_, _, hM, hR, hF, hB⟩, hTE, hRg⟩ (fun r12 w13 q14 => ?_)
    obtain ⟨q14r, a0, ⟨a11, b11, hM11, hR11, hF11, hB11⟩, hTE, hRg⟩ := q14
    rw [q14r]
    have hS11 : TSok n (sCancel ((b0 2) (q + 1)) ((b0 2) (q + 2)) (tl, D, L)) := TSok_cancel ⟨hT, hd, hi, hc9, Lok_mono (by omega) hL⟩
    obtain ⟨hT11, hd11, hi11, h911, hL11⟩ := hS11
    have ht : Tok a0 := Tok_R hT11 hTE hRg
    exact M.zret rfl (zb_01 _) (Nat.zero_le _) (Nat.zero_le _) ⟨reI (by rw [e1]), by rw [e1]; exact ⟨a0, ⟨_, _, hM11, hR11, hF11, hB11⟩, hTE, hRg⟩⟩
  by_cases hs24_3 : (b0 2) q = 5
  · refine M.tswIn (tgt := 92) (off := 68) rfl (qI (by omega)) (by omega) (by omega) (by rw [hs24_3]; rfl) (by decide) ?_
    obtain ⟨hw1, hw2⟩ := hpw (by omega)
    have e1 : sPlay1 X (u 23) (b0 2) q (tl, D, L) = sDays X (u 23) (b0 2 (q + 1)).toNat (tl, D, L) := (if_neg hs24_0).trans ((if_neg hs24_1).trans ((if_neg hs24_2).trans (if_pos hs24_3)))
    refine M.run 2 (pc' := 94) (lv' := [some (vr o), some (vi ((q : Nat) : Int)), some (vi ((b0 2) (q + 1))), some (vi ((b0 2) (q + 2)))]) (st' := [vi ((b0 2) (q + 1)), vr o]) rfl ?_
    rw [show (b0 2) (q + 1) = ((((b0 2) (q + 1)).toNat : Nat) : Int) from (Int.toNat_of_nonneg (by omega)).symm]
    refine M.callV (vX11_arePassed l G o am u tl b0 D L n hT hd hi hc9 (Lok_mono (by omega) hL) (by omega) hu X hX (((b0 2) (q + 1)).toNat) (by omega)) cv_X11_413 cd_X11_arePassed rfl (st := []) rfl (isM_o hM) (by decide) (by decide) rfl (Nat.zero_le _) (Nat.zero_le _) ⟨a0, ⟨_, _, hM, hR, hF, hB⟩, hTE, hRg⟩ (fun r17 w18 q19 => ?_)
    obtain ⟨q19r, a0, ⟨a16, b16, hM16, hR16, hF16, hB16⟩, hTE, hRg⟩ := q19
    rw [q19r]
    have hS16 : TSok (n + 110 * (((((b0 2) (q + 1)).toNat) : Nat) : Int)) ((sDays X (u 23) (((b0 2) (q + 1)).toNat) (tl, D, L)).2) := TSok_days (((b0 2) (q + 1)).toNat) ⟨hT, hd, hi, hc9, Lok_mono (by omega) hL⟩
    obtain ⟨hT16, hd16, hi16, h916, hL16⟩ := hS16
    have ht : Tok a0 := Tok_R hT16 hTE hRg
    exact M.zret rfl (zb_01 _) (Nat.zero_le _) (Nat.zero_le _) ⟨reI (by rw [e1]), by rw [e1]; exact ⟨a0, ⟨_, _, hM16, hR16, hF16, hB16⟩, hTE, hRg⟩⟩
  refine M.tswOut (tgt := 98) rfl (qI (by omega)) (by omega) (by decide) ?_
  have e1 : sPlay1 X (u 23) (b0 2) q (tl, D, L) = (true, (tl, D, L)) := (if_neg hs24_0).trans ((if_neg hs24_1).trans ((if_neg hs24_2).trans (if_neg hs24_3)))
  refine M.run 1 (pc' := 99) (lv' := [some (vr o), some (vi ((q : Nat) : Int)), some (vi ((b0 2) (q + 1))), some (vi ((b0 2) (q + 2)))]) (st' := [vi 1]) rfl ?_
  exact M.zret rfl (Or.inr rfl) (Nat.zero_le _) (Nat.zero_le _) ⟨reI (by rw [e1]; rfl), by rw [e1]; exact ⟨a0, ⟨_, _, hM, hR, hF, hB⟩, hTE, hRg⟩⟩
