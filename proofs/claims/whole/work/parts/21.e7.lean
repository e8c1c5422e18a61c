theorem eX11_losesBy (l : Launch) (G : GT) (o : Nat) (am : Nat → Nat) (u a0 : Nat → Int) (b0 : Nat → Nat → Int) (D : Dy) (n : Int) (ht : Tok a0) (hd : Dok n D) (hn : 0 ≤ n ∧ n ≤ 900000000) (z kind c x : Int) (hz : z < a0 1 ∧ -1 ≤ z) (hkc : (0 ≤ kind ∧ kind ≤ 4) ∧ (0 ≤ c ∧ c ≤ 2)) (hx : -1000 ≤ x ∧ x ≤ 1000) (X : Nat → Int → Option Gn) (hX : TxOk (b0 2) X (a0 1)) : Ctr l G yX11_losesBy cX11_losesBy 5 (Option.some Jvm.ClassFile.FieldType.int) 5 0 0 [vr o, vi z, vi kind, vi c, vi x] (fun w => isE o am u a0 b0 D w) (fun w r w' => r = some (vi (mLossA X (stA a0 D) z kind c x)) ∧ isE o am u a0 b0 D w') := by
  refine Ctr.mono (Ctr.exE (α := (Nat → Int) × (Nat → Nat → Int)) (P := fun p w => isM o am u p.1 p.2 w) (C := fun p => Rp p.1 D ∧ Fr a0 p.1 ∧ Fb b0 p.2) (Q2 := fun w r w' => r = some (vi (mLossA X (stA a0 D) z kind c x)) ∧ isE o am u a0 b0 D w') (fun p hc => kX11_losesBy l G o am u p.1 p.2 z kind c x (by rw [hc.2.1 1 (Or.inl (by decide))]; exact hz) hkc hx X (by rw [hc.2.2 2 (by decide) (by decide) (by decide), hc.2.1 1 (Or.inl (by decide))]; exact hX) (Mok_of ht hd (by omega) hc.1 hc.2.1)) (fun p w r w' hc hq => ?_)) (fun w h => ?_) (fun w r w' _ q => q)
  · obtain ⟨hr, b', hM, hB⟩ := hq
    have h03 : p.1 0 ≤ 3 := by rw [hc.2.1 0 (Or.inl (by decide))]; exact (ht.1 0 (by decide)).2
    exact ⟨by rw [hr, mLossA_ext h03 (stA_of hc.1 hc.2.1)], p.1, b', hM, hc.1, hc.2.1, fun k k1 k2 k3 => (hB k k1 k2 k3).trans (hc.2.2 k k1 k2 k3)⟩
  · obtain ⟨a, b, h1, h2, h3, h4⟩ := h
    exact ⟨(a, b), ⟨h2, h3, h4⟩, h1⟩
theorem eX11_waitsBy (l : Launch) (G : GT) (o : Nat) (am : Nat → Nat) (u a0 : Nat → Int) (b0 : Nat → Nat → Int) (D : Dy) (n : Int) (ht : Tok a0) (hd : Dok n D) (hn : 0 ≤ n ∧ n ≤ 900000000) (hz : a0 2 < a0 1) (kind c x : Int) (hkc : (0 ≤ kind ∧ kind ≤ 4) ∧ (0 ≤ c ∧ c ≤ 2)) (hx : -1000 ≤ x ∧ x ≤ 1000) (X : Nat → Int → Option Gn) (hX : TxOk (b0 2) X (a0 1)) : Ctr l G yX11_waitsBy cX11_waitsBy 4 (Option.some Jvm.ClassFile.FieldType.int) 5 0 0 [vr o, vi kind, vi c, vi x] (fun w => isE o am u a0 b0 D w) (fun w r w' => r = some (vi (mWaitA X (stA a0 D) kind c x)) ∧ isE o am u a0 b0 D w') := by
  refine Ctr.mono (Ctr.exE (α := (Nat → Int) × (Nat → Nat → Int)) (P := fun p w => isM o am u p.1 p.2 w) (C := fun p => Rp p.1 D ∧ Fr a0 p.1 ∧ Fb b0 p.2) (Q2 := fun w r w' => r = some (vi (mWaitA X (stA a0 D) kind c x)) ∧ isE o am u a0 b0 D w') (fun p hc => kX11_waitsBy l G o am u p.1 p.2 kind c x (by rw [hc.2.1 1 (Or.inl (by decide)), hc.2.1 2 (Or.inl (by decide))]; exact hz) hkc hx X (by rw [hc.2.2 2 (by decide) (by decide) (by decide), hc.2.1 1 (Or.inl (by decide))]; exact hX) (Mok_of ht hd (by omega) hc.1 hc.2.1)) (fun p w r w' hc hq => ?_)) (fun w h => ?_) (fun w r w' _ q => q)
  · obtain ⟨hr, b', hM, hB⟩ := hq
    have h03 : p.1 0 ≤ 3 := by rw [hc.2.1 0 (Or.inl (by decide))]; exact (ht.1 0 (by decide)).2
    exact ⟨by rw [hr, mWaitA_ext h03 (stA_of hc.1 hc.2.1)], p.1, b', hM, hc.1, hc.2.1, fun k k1 k2 k3 => (hB k k1 k2 k3).trans (hc.2.2 k k1 k2 k3)⟩
  · obtain ⟨a, b, h1, h2, h3, h4⟩ := h
    exact ⟨(a, b), ⟨h2, h3, h4⟩, h1⟩
theorem mLossA_b {X : Nat → Int → Option Gn} {a : Nat → Int} {z kind c x : Int} : 0 ≤ mLossA X a z kind c x ∧ mLossA X a z kind c x ≤ 10 := sayV_b (by decide) (by decide)
theorem mWaitA_b {X : Nat → Int → Option Gn} {a : Nat → Int} {kind c x : Int} (h : 1 ≤ a 6 ∧ a 6 ≤ 20) : 1 ≤ mWaitA X a kind c x ∧ mWaitA X a kind c x ≤ 60 := sayV_b (by omega) (by omega)
theorem Rp_lx {a : Nat → Int} {D : Dy} (hR : Rp a D) {s x k : Nat} (hs : s < 2) (h0 : 0 < (D.2.1 s).length) (hx : x = 49 + 168 * s) (hk : k < 7) : a (x + k) = gR (D.2.1 s) 0 k := by
  have q := Rp_lr hR hs h0 hk
  rw [← q]
  congr 1
  omega
/-- nine cells of a timer and a count -/
theorem tm9 {f : Nat → Int} {x c : Nat} {v0 v1 v2 v3 v4 v5 v6 v7 v8 v : Int} (hc : c < x) :
    (∀ k : Nat, k < 9 → uN (uN (uN (uN (uN (uN (uN (uN (uN (uN f (x + 0) v0) (x + 1) v1) (x + 2) v2) (x + 3) v3) (x + 4) v4) (x + 5) v5) (x + 6) v6) (x + 7) v7) (x + 8) v8) c v (x + tpc k) = rwF (rwM v1 v2 v3 v6 v7 v8 v5) v4 v0 k) ∧
    (uN (uN (uN (uN (uN (uN (uN (uN (uN (uN f (x + 0) v0) (x + 1) v1) (x + 2) v2) (x + 3) v3) (x + 4) v4) (x + 5) v5) (x + 6) v6) (x + 7) v7) (x + 8) v8) c v c = v) ∧
    (∀ j : Nat, j ≠ c → (j < x ∨ x + 9 ≤ j) → uN (uN (uN (uN (uN (uN (uN (uN (uN (uN f (x + 0) v0) (x + 1) v1) (x + 2) v2) (x + 3) v3) (x + 4) v4) (x + 5) v5) (x + 6) v6) (x + 7) v7) (x + 8) v8) c v j = f j) := by
  refine ⟨fun k hk => ?_, uN_s _ _ _, fun j h1 h2 => ?_⟩
  · rw [uN_o (by omega)]
    match k, hk with
    | 0, _ => show uN _ _ _ (x + 1) = v1; rw [uN_o (by omega), uN_o (by omega), uN_o (by omega), uN_o (by omega), uN_o (by omega), uN_o (by omega), uN_o (by omega), uN_s]
    | 1, _ => show uN _ _ _ (x + 2) = v2; rw [uN_o (by omega), uN_o (by omega), uN_o (by omega), uN_o (by omega), uN_o (by omega), uN_o (by omega), uN_s]
    | 2, _ => show uN _ _ _ (x + 3) = v3; rw [uN_o (by omega), uN_o (by omega), uN_o (by omega), uN_o (by omega), uN_o (by omega), uN_s]
    | 3, _ => show uN _ _ _ (x + 6) = v6; rw [uN_o (by omega), uN_o (by omega), uN_s]
    | 4, _ => show uN _ _ _ (x + 7) = v7; rw [uN_o (by omega), uN_s]
    | 5, _ => show uN _ _ _ (x + 8) = v8; rw [uN_s]
    | 6, _ => show uN _ _ _ (x + 5) = v5; rw [uN_o (by omega), uN_o (by omega), uN_o (by omega), uN_s]
    | 7, _ => show uN _ _ _ (x + 4) = v4; rw [uN_o (by omega), uN_o (by omega), uN_o (by omega), uN_o (by omega), uN_s]
    | 8, _ => show uN _ _ _ (x + 0) = v0; rw [uN_o (by omega), uN_o (by omega), uN_o (by omega), uN_o (by omega), uN_o (by omega), uN_o (by omega), uN_o (by omega), uN_o (by omega), uN_s]
    | k + 9, h => exact absurd h (by omega)
  · rw [uN_o (by omega), uN_o (by omega), uN_o (by omega), uN_o (by omega), uN_o (by omega), uN_o (by omega), uN_o (by omega), uN_o (by omega), uN_o (by omega), uN_o (by omega)]
theorem rwF_ext {r r2 : Rw} {w s : Int} (h : ∀ k : Nat, k < 7 → r k = r2 k) (k : Nat) : rwF r w s k = rwF r2 w s k := by
  unfold rwF
  by_cases e : k < 7
  · rw [if_pos e, if_pos e, h k e]
  · rw [if_neg e, if_neg e]
theorem rwM_ext {r : Rw} : ∀ k : Nat, k < 7 → rwM (r 0) (r 1) (r 2) (r 3) (r 4) (r 5) (r 6) k = r k := fun k hk => by
  match k, hk with
  | 0, _ => rfl
  | 1, _ => rfl
  | 2, _ => rfl
  | 3, _ => rfl
  | 4, _ => rfl
  | 5, _ => rfl
  | 6, _ => rfl
  | k + 7, h => exact absurd h (by omega)
def mTimer (X : Nat → Int → Option Gn) (a0 : Nat → Int) (s : Nat) (D : Dy) : Dy := if D.2.2.2.1.length = 16 then D else (D.1, D.2.1, D.2.2.1, D.2.2.2.1 ++ [rwF (gR (D.2.1 s) 0) (D.1 20 + mWaitA X (stA a0 D) (gR (D.2.1 s) 0 0) (gR (D.2.1 s) 0 1) (gR (D.2.1 s) 0 6)) (s : Int)], D.2.2.2.2)
theorem Dok_timer {X : Nat → Int → Option Gn} {a0 : Nat → Int} {n : Int} {s : Nat} {D : Dy} (ht : Tok a0) (hd : Dok n D) (hs : s < 2 ∧ 0 < (D.2.1 s).length) : Dok n (mTimer X a0 s D) := by
  unfold mTimer
  split
  · exact hd
  · rename_i h
    have hr := Dok_lr hd hs.1 hs.2
    have hc := Dok_sun hd
    have h6 := Tok_6 ht
    have hw := mWaitA_b (X := X) (a := stA a0 D) (kind := gR (D.2.1 s) 0 0) (c := gR (D.2.1 s) 0 1) (x := gR (D.2.1 s) 0 6) (show 1 ≤ a0 6 ∧ a0 6 ≤ 20 from h6)
    have hlt := Dok_t hd
    obtain ⟨h1, h2, h3, h4, h5⟩ := hd
    refine ⟨h1, h2, h3, ⟨?_, fun r hq => ?_⟩, h5⟩
    · show (D.2.2.2.1 ++ [_]).length ≤ 16
      rw [List.length_append]
      show D.2.2.2.1.length + 1 ≤ 16
      omega
    · rcases List.mem_append.mp hq with e | e
      · exact h4.2 r e
      · rw [List.mem_singleton.mp e]
        exact rowOk_F hr (by omega) (by have := hs.1; omega)
def mBy (r : Rw) : Int := if r 0 = 0 then r 4 - r 3 else 0
def mS1 (s : Nat) (D : Dy) : Dy := mS (46 + (gR (D.2.1 s) 0 1).toNat) (D.1 (46 + (gR (D.2.1 s) 0 1).toNat) + mBy (gR (D.2.1 s) 0)) (mS 21 (D.1 21 + 1) D)
def mS2 (X : Nat → Int → Option Gn) (a0 : Nat → Int) (sure : Int) (s : Nat) (r : Rw) (D : Dy) : Dy :=
  if sure = 0 then
    if (D.1 19).tmod 10 < mLossA X (stA a0 (mAnew D)) (a0 2) (r 0) (((r 1).toNat : Nat) : Int) (mBy r) then mNote (rwB ((mAnew D).1 18) 4 (((r 1).toNat : Nat) : Int) (r 0)) (mS 22 ((mAnew D).1 22 + 1) (mAnew D))
    else mFly a0 s (mAnew D)
  else mFly a0 s D
def mS3 (X : Nat → Int → Option Gn) (a0 : Nat → Int) (s : Nat) (r : Rw) (D : Dy) : Dy := if (r 0 = 0 ∧ 0 < r 2) ∨ r 0 = 1 ∨ r 0 = 3 then mTimer X a0 s D else D
def dropF (s : Nat) (D : Dy) : Dy := (D.1, lsS D.2.1 s ((D.2.1 s).eraseIdx 0), D.2.2)
/-- a side sends its first -/
def mSend (X : Nat → Int → Option Gn) (a0 : Nat → Int) (sure : Int) (s : Nat) (D : Dy) : Dy := dropF s (mS3 X a0 s (gR (D.2.1 s) 0) (mS2 X a0 sure s (gR (D.2.1 s) 0) (mS1 s D)))
section QSE
variable {X : Nat → Int → Option Gn} {a0 : Nat → Int} {n sure : Int} {s : Nat} {r : Rw} {D : Dy}
theorem mBy_b (hr : rowOk n (gR (D.2.1 s) 0)) : 0 ≤ mBy (gR (D.2.1 s) 0) ∧ mBy (gR (D.2.1 s) 0) ≤ 30 := by
  obtain ⟨q0, q1, q2, q3, q4, q5, q6, q7, q8, q9⟩ := hr
  unfold mBy
  split
  · rename_i e
    have := q5 e
    omega
  · omega
theorem mS1_22 : (mS1 s D).1 22 = D.1 22 := by
  show uN (uN D.1 21 (D.1 21 + 1)) (46 + (gR (D.2.1 s) 0 1).toNat) (D.1 (46 + (gR (D.2.1 s) 0 1).toNat) + mBy (gR (D.2.1 s) 0)) 22 = D.1 22
  rw [uN_o (by omega), uN_o (by omega)]
theorem mAn_22 : (mAnew D).1 22 = D.1 22 := by
  show uN D.1 19 ((D.1 19 * 757 + 617).tmod 31091) 22 = D.1 22
  exact uN_o (by decide)
theorem Dok_s1 (hd : Dok n D) (hs : s < 2 ∧ 0 < (D.2.1 s).length) : Dok (n + 31) (mS1 s D) := by
  have hr := Dok_lr hd hs.1 hs.2
  have hb := mBy_b hr
  obtain ⟨q0, q1, q2, q3, q4, q5, q6, q7, q8, q9⟩ := hr
  have h21 := Dok_sent hd
  have hby := Dok_byt hd (x := (gR (D.2.1 s) 0 1).toNat) (by omega)
  unfold mS1
  exact Dok_S (Dok_S (Dok_mono (by omega) hd) (fun _ _ _ => by unfold Shi; (repeat' split) <;> omega)) (fun _ _ _ => by unfold Shi; (repeat' split) <;> omega)
theorem Dok_s2 (ht : Tok a0) (hd : Dok n D) (hs : s < 2 ∧ 0 < (D.2.1 s).length) (hf : D.2.2.1.length < 40) (h22 : D.1 22 < n) (hr : rowOk n r) : Dok n (mS2 X a0 sure s r D) := by
  obtain ⟨q0, q1, q2, q3, q4, q5, q6, q7, q8, q9⟩ := hr
  have ha := Dok_anew hd
  have hc := Dok_clk ha
  have hl := Dok_lost ha
  have h23 : (mAnew D).1 22 < n := h22
  unfold mS2
  split
  · split
    · exact Dok_note (Dok_S ha (fun _ _ _ => by unfold Shi; (repeat' split) <;> omega)) (bokOk_B (by omega))
    · exact Dok_fly ht ha hs hf
  · exact Dok_fly ht hd hs hf
theorem Dok_s3 (ht : Tok a0) (hd : Dok n D) (hs : s < 2 ∧ 0 < (D.2.1 s).length) : Dok n (mS3 X a0 s r D) := by
  unfold mS3
  split
  · exact Dok_timer ht hd hs
  · exact hd
theorem mS2_2 : (mS2 X a0 sure s r D).2.1 = D.2.1 := by
  unfold mS2
  repeat' split
  all_goals rfl
theorem mS3_2 : (mS3 X a0 s r D).2.1 = D.2.1 := by
  unfold mS3 mTimer
  repeat' split
  all_goals rfl
theorem mS3_f : (mS3 X a0 s r D).2.2.1 = D.2.2.1 := by
  unfold mS3 mTimer
  repeat' split
  all_goals rfl
theorem mS2_f : (mS2 X a0 sure s r D).2.2.1.length ≤ D.2.2.1.length + 1 := by
  unfold mS2
  repeat' split
  · exact Nat.le_succ _
  · show (D.2.2.1 ++ [_]).length ≤ _
    rw [List.length_append]
    exact Nat.le_refl _
  · show (D.2.2.1 ++ [_]).length ≤ _
    rw [List.length_append]
    exact Nat.le_refl _
theorem mSend_f : (mSend X a0 sure s D).2.2.1.length ≤ D.2.2.1.length + 1 := by
  show (mS3 X a0 s _ _).2.2.1.length ≤ _
  rw [mS3_f]
  exact mS2_f
theorem Dok_send (ht : Tok a0) (hd : Dok n D) (hs : s < 2 ∧ 0 < (D.2.1 s).length) (hf : D.2.2.1.length < 40) : Dok (n + 31) (mSend X a0 sure s D) := by
  have h22 := Dok_lost hd
  have h23 : (mS1 s D).1 22 < n + 31 := by
    have e : (mS1 s D).1 22 = D.1 22 := mS1_22
    omega
  have h2 := Dok_s2 (X := X) (sure := sure) (r := gR (D.2.1 s) 0) ht (Dok_s1 hd hs) hs hf h23 (rowOk_mono (by omega) (Dok_lr hd hs.1 hs.2))
  have h3 := Dok_s3 (X := X) (a0 := a0) (s := s) (r := gR (D.2.1 s) 0) ht h2 ⟨hs.1, by rw [mS2_2]; exact hs.2⟩
  exact Dok_takeO h3
end QSE

set_option maxHeartbeats 4000000 in
set_option maxRecDepth 100000 in
theorem eX11_startTimer (l : Launch) (G : GT) (o : Nat) (am : Nat → Nat) (u a0 : Nat → Int) (b0 : Nat → Nat → Int) (D : Dy) (n : Int) (ht : Tok a0) (hd : Dok n D) (hn : 0 ≤ n ∧ n ≤ 900000000) (s : Nat) (hs : s < 2 ∧ 0 < (D.2.1 s).length) (x : Nat) (hx : x = 49 + 168 * s) (X : Nat → Int → Option Gn) (hX : TxOk (b0 2) X (a0 1) ∧ a0 2 < a0 1) : Ctr l G yX11_startTimer cX11_startTimer 4 ((Option.none : Option Jvm.ClassFile.FieldType)) 6 0 0 [vr o, vi ((s : Nat) : Int), vi ((x : Nat) : Int)] (fun w => isE o am u a0 b0 D w) (fun w r w' => r = none ∧ isE o am u a0 b0 (mTimer X a0 s D) w') := by
  refine Ctr.of (t := tX11_startTimer) (lv0 := [some (vr o), some (vi ((s : Nat) : Int)), some (vi ((x : Nat) : Int)), none]) (by decide +kernel) tX11_startTimer_ok rfl rfl (fun w g hP M => ?_)
  obtain ⟨a, b, hM, hR, hF, hB⟩ := hP
  have hk_t := Dok_t hd
  have hk20 := Dok_sun hd
  have hk2 : -1 ≤ a0 2 ∧ a0 2 ≤ 3 := ht.1 2 (by decide)
  have hk6 : 1 ≤ a0 6 ∧ a0 6 ≤ 20 := ht.1 6 (by decide)
  obtain ⟨q0, q1, q2, q3, q4, q5, q6, q7, q8, q9⟩ := Dok_lr hd hs.1 hs.2
  refine M.run 1 (pc' := 1) (lv' := [some (vr o), some (vi ((s : Nat) : Int)), some (vi ((x : Nat) : Int)), none]) (st' := [vr o]) rfl ?_
  refine M.get fl_X11_7 rfl (isM_o hM) (kf := 0) (v := vr (am 0)) rfl ?_
  refine M.run 1 (pc' := 6) (lv' := [some (vr o), some (vi ((s : Nat) : Int)), some (vi ((x : Nat) : Int)), none]) (st' := [vi 27, vr (am 0)]) rfl ?_
  refine M.ialdN (27) rfl (isM_a hM) (by decide) (by decide) ?_
  rw [show a 27 = ((D.2.2.2.1.length : Nat) : Int) from Rp_t hR]
  refine M.run 1 (pc' := 9) (lv' := [some (vr o), some (vi ((s : Nat) : Int)), some (vi ((x : Nat) : Int)), none]) (st' := [vi 16, vi ((D.2.2.2.1.length : Nat) : Int)]) rfl ?_
  refine M.icmp_ne (tgt := 13) rfl (qI (by omega)) (qI (by decide)) (by decide) (fun h9 => ?_) (fun h9 => ?_)
  · skip
    refine M.run 1 (pc' := 14) (lv' := [some (vr o), some (vi ((s : Nat) : Int)), some (vi ((x : Nat) : Int)), none]) (st' := [vr o]) rfl ?_
    refine M.get fl_X11_7 rfl (isM_o hM) (kf := 0) (v := vr (am 0)) rfl ?_
    refine M.run 1 (pc' := 19) (lv' := [some (vr o), some (vi ((s : Nat) : Int)), some (vi ((x : Nat) : Int)), none]) (st' := [vi 27, vr (am 0)]) rfl ?_
    refine M.ialdN (27) rfl (isM_a hM) (by decide) (by decide) ?_
    rw [show a 27 = ((D.2.2.2.1.length : Nat) : Int) from Rp_t hR]
    refine M.callS (kX11_timerAt l G D.2.2.2.1.length (by omega)) cs_X11_295 cd_X11_timerAt rfl (st := []) rfl (by decide) (by decide) rfl (Nat.zero_le _) (Nat.zero_le _) trivial (fun r1 w2 q3 => ?_)
    rw [q3.1, q3.2]
    refine M.run 2 (pc' := 25) (lv' := [some (vr o), some (vi ((s : Nat) : Int)), some (vi ((x : Nat) : Int)), some (vi ((817 + 9 * D.2.2.2.1.length : Nat) : Int))]) (st' := [vr o]) rfl ?_
    refine M.get fl_X11_7 rfl (isM_o hM) (kf := 0) (v := vr (am 0)) rfl ?_
    refine M.run 4 (pc' := 32) (lv' := [some (vr o), some (vi ((s : Nat) : Int)), some (vi ((x : Nat) : Int)), some (vi ((817 + 9 * D.2.2.2.1.length : Nat) : Int))]) (st' := [vi ((s : Nat) : Int), vi (((817 + 9 * D.2.2.2.1.length : Nat) : Int) + 0), vr (am 0)]) rfl ?_
    refine M.iastN (817 + 9 * D.2.2.2.1.length + 0) rfl (isM_a hM) (by omega) (by decide) ?_
    have hM6 := isM_setA hM (uN a (817 + 9 * D.2.2.2.1.length + 0) ((s : Nat) : Int))
    generalize up w (am 0) (Ar 0 30042 (uN a (817 + 9 * D.2.2.2.1.length + 0) ((s : Nat) : Int))) = w5 at hM6 ⊢
    refine M.run 1 (pc' := 34) (lv' := [some (vr o), some (vi ((s : Nat) : Int)), some (vi ((x : Nat) : Int)), some (vi ((817 + 9 * D.2.2.2.1.length : Nat) : Int))]) (st' := [vr o]) rfl ?_
    refine M.get fl_X11_7 rfl (isM_o hM6) (kf := 0) (v := vr (am 0)) rfl ?_
    refine M.run 4 (pc' := 41) (lv' := [some (vr o), some (vi ((s : Nat) : Int)), some (vi ((x : Nat) : Int)), some (vi ((817 + 9 * D.2.2.2.1.length : Nat) : Int))]) (st' := [vr o, vi (((817 + 9 * D.2.2.2.1.length : Nat) : Int) + 1), vr (am 0)]) rfl ?_
    refine M.get fl_X11_7 rfl (isM_o hM6) (kf := 0) (v := vr (am 0)) rfl ?_
    refine M.run 3 (pc' := 47) (lv' := [some (vr o), some (vi ((s : Nat) : Int)), some (vi ((x : Nat) : Int)), some (vi ((817 + 9 * D.2.2.2.1.length : Nat) : Int))]) (st' := [vi (((x : Nat) : Int) + 0), vr (am 0), vi (((817 + 9 * D.2.2.2.1.length : Nat) : Int) + 1), vr (am 0)]) rfl ?_
    refine M.ialdN (x + 0) rfl (isM_a hM6) (by omega) (by decide) ?_
    rw [show (uN a (817 + 9 * D.2.2.2.1.length + 0) ((s : Nat) : Int)) (x + 0) = gR (D.2.1 s) 0 0 from (uN_o (by omega)).trans (Rp_lx hR hs.1 hs.2 (x := x) (k := 0) hx (by decide))]
    refine M.iastN (817 + 9 * D.2.2.2.1.length + 1) rfl (isM_a hM6) (by omega) (by decide) ?_
    have hM8 := isM_setA hM6 (uN (uN a (817 + 9 * D.2.2.2.1.length + 0) ((s : Nat) : Int)) (817 + 9 * D.2.2.2.1.length + 1) (gR (D.2.1 s) 0 0))
    generalize up w5 (am 0) (Ar 0 30042 (uN (uN a (817 + 9 * D.2.2.2.1.length + 0) ((s : Nat) : Int)) (817 + 9 * D.2.2.2.1.length + 1) (gR (D.2.1 s) 0 0))) = w7 at hM8 ⊢
    refine M.run 1 (pc' := 50) (lv' := [some (vr o), some (vi ((s : Nat) : Int)), some (vi ((x : Nat) : Int)), some (vi ((817 + 9 * D.2.2.2.1.length : Nat) : Int))]) (st' := [vr o]) rfl ?_
    refine M.get fl_X11_7 rfl (isM_o hM8) (kf := 0) (v := vr (am 0)) rfl ?_
    refine M.run 4 (pc' := 57) (lv' := [some (vr o), some (vi ((s : Nat) : Int)), some (vi ((x : Nat) : Int)), some (vi ((817 + 9 * D.2.2.2.1.length : Nat) : Int))]) (st' := [vr o, vi (((817 + 9 * D.2.2.2.1.length : Nat) : Int) + 2), vr (am 0)]) rfl ?_
    refine M.get fl_X11_7 rfl (isM_o hM8) (kf := 0) (v := vr (am 0)) rfl ?_
    refine M.run 3 (pc' := 63) (lv' := [some (vr o), some (vi ((s : Nat) : Int)), some (vi ((x : Nat) : Int)), some (vi ((817 + 9 * D.2.2.2.1.length : Nat) : Int))]) (st' := [vi (((x : Nat) : Int) + 1), vr (am 0), vi (((817 + 9 * D.2.2.2.1.length : Nat) : Int) + 2), vr (am 0)]) rfl ?_
    refine M.ialdN (x + 1) rfl (isM_a hM8) (by omega) (by decide) ?_
    rw [show (uN (uN a (817 + 9 * D.2.2.2.1.length + 0) ((s : Nat) : Int)) (817 + 9 * D.2.2.2.1.length + 1) (gR (D.2.1 s) 0 0)) (x + 1) = gR (D.2.1 s) 0 1 from ((uN_o (by omega)).trans (uN_o (by omega))).trans (Rp_lx hR hs.1 hs.2 (x := x) (k := 1) hx (by decide))]
    refine M.iastN (817 + 9 * D.2.2.2.1.length + 2) rfl (isM_a hM8) (by omega) (by decide) ?_
    have hM10 := isM_setA hM8 (uN (uN (uN a (817 + 9 * D.2.2.2.1.length + 0) ((s : Nat) : Int)) (817 + 9 * D.2.2.2.1.length + 1) (gR (D.2.1 s) 0 0)) (817 + 9 * D.2.2.2.1.length + 2) (gR (D.2.1 s) 0 1))
    generalize up w7 (am 0) (Ar 0 30042 (uN (uN (uN a (817 + 9 * D.2.2.2.1.length + 0) ((s : Nat) : Int)) (817 + 9 * D.2.2.2.1.length + 1) (gR (D.2.1 s) 0 0)) (817 + 9 * D.2.2.2.1.length + 2) (gR (D.2.1 s) 0 1))) = w9 at hM10 ⊢
    refine M.run 1 (pc' := 66) (lv' := [some (vr o), some (vi ((s : Nat) : Int)), some (vi ((x : Nat) : Int)), some (vi ((817 + 9 * D.2.2.2.1.length : Nat) : Int))]) (st' := [vr o]) rfl ?_
    refine M.get fl_X11_7 rfl (isM_o hM10) (kf := 0) (v := vr (am 0)) rfl ?_
    refine M.run 4 (pc' := 73) (lv' := [some (vr o), some (vi ((s : Nat) : Int)), some (vi ((x : Nat) : Int)), some (vi ((817 + 9 * D.2.2.2.1.length : Nat) : Int))]) (st' := [vr o, vi (((817 + 9 * D.2.2.2.1.length : Nat) : Int) + 3), vr (am 0)]) rfl ?_
    refine M.get fl_X11_7 rfl (isM_o hM10) (kf := 0) (v := vr (am 0)) rfl ?_
    refine M.run 3 (pc' := 79) (lv' := [some (vr o), some (vi ((s : Nat) : Int)), some (vi ((x : Nat) : Int)), some (vi ((817 + 9 * D.2.2.2.1.length : Nat) : Int))]) (st' := [vi (((x : Nat) : Int) + 2), vr (am 0), vi (((817 + 9 * D.2.2.2.1.length : Nat) : Int) + 3), vr (am 0)]) rfl ?_
    refine M.ialdN (x + 2) rfl (isM_a hM10) (by omega) (by decide) ?_
    rw [show (uN (uN (uN a (817 + 9 * D.2.2.2.1.length + 0) ((s : Nat) : Int)) (817 + 9 * D.2.2.2.1.length + 1) (gR (D.2.1 s) 0 0)) (817 + 9 * D.2.2.2.1.length + 2) (gR (D.2.1 s) 0 1)) (x + 2) = gR (D.2.1 s) 0 2 from (((uN_o (by omega)).trans (uN_o (by omega))).trans (uN_o (by omega))).trans (Rp_lx hR hs.1 hs.2 (x := x) (k := 2) hx (by decide))]
    refine M.iastN (817 + 9 * D.2.2.2.1.length + 3) rfl (isM_a hM10) (by omega) (by decide) ?_
    have hM12 := isM_setA hM10 (uN (uN (uN (uN a (817 + 9 * D.2.2.2.1.length + 0) ((s : Nat) : Int)) (817 + 9 * D.2.2.2.1.length + 1) (gR (D.2.1 s) 0 0)) (817 + 9 * D.2.2.2.1.length + 2) (gR (D.2.1 s) 0 1)) (817 + 9 * D.2.2.2.1.length + 3) (gR (D.2.1 s) 0 2))
    generalize up w9 (am 0) (Ar 0 30042 (uN (uN (uN (uN a (817 + 9 * D.2.2.2.1.length + 0) ((s : Nat) : Int)) (817 + 9 * D.2.2.2.1.length + 1) (gR (D.2.1 s) 0 0)) (817 + 9 * D.2.2.2.1.length + 2) (gR (D.2.1 s) 0 1)) (817 + 9 * D.2.2.2.1.length + 3) (gR (D.2.1 s) 0 2))) = w11 at hM12 ⊢
    refine M.run 1 (pc' := 82) (lv' := [some (vr o), some (vi ((s : Nat) : Int)), some (vi ((x : Nat) : Int)), some (vi ((817 + 9 * D.2.2.2.1.length : Nat) : Int))]) (st' := [vr o]) rfl ?_
    refine M.get fl_X11_7 rfl (isM_o hM12) (kf := 0) (v := vr (am 0)) rfl ?_
    refine M.run 4 (pc' := 89) (lv' := [some (vr o), some (vi ((s : Nat) : Int)), some (vi ((x : Nat) : Int)), some (vi ((817 + 9 * D.2.2.2.1.length : Nat) : Int))]) (st' := [vr o, vi (((817 + 9 * D.2.2.2.1.length : Nat) : Int) + 4), vr (am 0)]) rfl ?_
    refine M.get fl_X11_7 rfl (isM_o hM12) (kf := 0) (v := vr (am 0)) rfl ?_
    refine M.run 1 (pc' := 94) (lv' := [some (vr o), some (vi ((s : Nat) : Int)), some (vi ((x : Nat) : Int)), some (vi ((817 + 9 * D.2.2.2.1.length : Nat) : Int))]) (st' := [vi 20, vr (am 0), vi (((817 + 9 * D.2.2.2.1.length : Nat) : Int) + 4), vr (am 0)]) rfl ?_
    refine M.ialdN (20) rfl (isM_a hM12) (by decide) (by decide) ?_
    rw [show (uN (uN (uN (uN a (817 + 9 * D.2.2.2.1.length + 0) ((s : Nat) : Int)) (817 + 9 * D.2.2.2.1.length + 1) (gR (D.2.1 s) 0 0)) (817 + 9 * D.2.2.2.1.length + 2) (gR (D.2.1 s) 0 1)) (817 + 9 * D.2.2.2.1.length + 3) (gR (D.2.1 s) 0 2)) 20 = D.1 20 from ((((uN_o (by omega)).trans (uN_o (by omega))).trans (uN_o (by omega))).trans (uN_o (by omega))).trans (Rp_s hR (k := 20) (by decide) (by decide) (by decide))]
    have hA4 : ∀ k : Nat, k < 49 → ((uN (uN (uN (uN a (817 + 9 * D.2.2.2.1.length + 0) ((s : Nat) : Int)) (817 + 9 * D.2.2.2.1.length + 1) (gR (D.2.1 s) 0 0)) (817 + 9 * D.2.2.2.1.length + 2) (gR (D.2.1 s) 0 1)) (817 + 9 * D.2.2.2.1.length + 3) (gR (D.2.1 s) 0 2))) k = a k := fun k hk => by rw [uN_o (by omega), uN_o (by omega), uN_o (by omega), uN_o (by omega)]
    refine M.run 2 (pc' := 97) (lv' := [some (vr o), some (vi ((s : Nat) : Int)), some (vi ((x : Nat) : Int)), some (vi ((817 + 9 * D.2.2.2.1.length : Nat) : Int))]) (st' := [vr o, vr o, vi (D.1 20), vi (((817 + 9 * D.2.2.2.1.length : Nat) : Int) + 4), vr (am 0)]) rfl ?_
    refine M.get fl_X11_7 rfl (isM_o hM12) (kf := 0) (v := vr (am 0)) rfl ?_
    refine M.run 3 (pc' := 103) (lv' := [some (vr o), some (vi ((s : Nat) : Int)), some (vi ((x : Nat) : Int)), some (vi ((817 + 9 * D.2.2.2.1.length : Nat) : Int))]) (st' := [vi (((x : Nat) : Int) + 0), vr (am 0), vr o, vi (D.1 20), vi (((817 + 9 * D.2.2.2.1.length : Nat) : Int) + 4), vr (am 0)]) rfl ?_
    refine M.ialdN (x + 0) rfl (isM_a hM12) (by omega) (by decide) ?_
    rw [show (uN (uN (uN (uN a (817 + 9 * D.2.2.2.1.length + 0) ((s : Nat) : Int)) (817 + 9 * D.2.2.2.1.length + 1) (gR (D.2.1 s) 0 0)) (817 + 9 * D.2.2.2.1.length + 2) (gR (D.2.1 s) 0 1)) (817 + 9 * D.2.2.2.1.length + 3) (gR (D.2.1 s) 0 2)) (x + 0) = gR (D.2.1 s) 0 0 from ((((uN_o (by omega)).trans (uN_o (by omega))).trans (uN_o (by omega))).trans (uN_o (by omega))).trans (Rp_lx hR hs.1 hs.2 (x := x) (k := 0) hx (by decide))]
    refine M.run 1 (pc' := 105) (lv' := [some (vr o), some (vi ((s : Nat) : Int)), some (vi ((x : Nat) : Int)), some (vi ((817 + 9 * D.2.2.2.1.length : Nat) : Int))]) (st' := [vr o, vi (gR (D.2.1 s) 0 0), vr o, vi (D.1 20), vi (((817 + 9 * D.2.2.2.1.length : Nat) : Int) + 4), vr (am 0)]) rfl ?_
    refine M.get fl_X11_7 rfl (isM_o hM12) (kf := 0) (v := vr (am 0)) rfl ?_
    refine M.run 3 (pc' := 111) (lv' := [some (vr o), some (vi ((s : Nat) : Int)), some (vi ((x : Nat) : Int)), some (vi ((817 + 9 * D.2.2.2.1.length : Nat) : Int))]) (st' := [vi (((x : Nat) : Int) + 1), vr (am 0), vi (gR (D.2.1 s) 0 0), vr o, vi (D.1 20), vi (((817 + 9 * D.2.2.2.1.length : Nat) : Int) + 4), vr (am 0)]) rfl ?_
    refine M.ialdN (x + 1) rfl (isM_a hM12) (by omega) (by decide) ?_
    rw [show (uN (uN (uN (uN a (817 + 9 * D.2.2.2.1.length + 0) ((s : Nat) : Int)) (817 + 9 * D.2.2.2.1.length + 1) (gR (D.2.1 s) 0 0)) (817 + 9 * D.2.2.2.1.length + 2) (gR (D.2.1 s) 0 1)) (817 + 9 * D.2.2.2.1.length + 3) (gR (D.2.1 s) 0 2)) (x + 1) = gR (D.2.1 s) 0 1 from ((((uN_o (by omega)).trans (uN_o (by omega))).trans (uN_o (by omega))).trans (uN_o (by omega))).trans (Rp_lx hR hs.1 hs.2 (x := x) (k := 1) hx (by decide))]
    refine M.run 1 (pc' := 113) (lv' := [some (vr o), some (vi ((s : Nat) : Int)), some (vi ((x : Nat) : Int)), some (vi ((817 + 9 * D.2.2.2.1.length : Nat) : Int))]) (st' := [vr o, vi (gR (D.2.1 s) 0 1), vi (gR (D.2.1 s) 0 0), vr o, vi (D.1 20), vi (((817 + 9 * D.2.2.2.1.length : Nat) : Int) + 4), vr (am 0)]) rfl ?_
    refine M.get fl_X11_7 rfl (isM_o hM12) (kf := 0) (v := vr (am 0)) rfl ?_
    refine M.run 3 (pc' := 120) (lv' := [some (vr o), some (vi ((s : Nat) : Int)), some (vi ((x : Nat) : Int)), some (vi ((817 + 9 * D.2.2.2.1.length : Nat) : Int))]) (st' := [vi (((x : Nat) : Int) + 6), vr (am 0), vi (gR (D.2.1 s) 0 1), vi (gR (D.2.1 s) 0 0), vr o, vi (D.1 20), vi (((817 + 9 * D.2.2.2.1.length : Nat) : Int) + 4), vr (am 0)]) rfl ?_
    refine M.ialdN (x + 6) rfl (isM_a hM12) (by omega) (by decide) ?_
    rw [show (uN (uN (uN (uN a (817 + 9 * D.2.2.2.1.length + 0) ((s : Nat) : Int)) (817 + 9 * D.2.2.2.1.length + 1) (gR (D.2.1 s) 0 0)) (817 + 9 * D.2.2.2.1.length + 2) (gR (D.2.1 s) 0 1)) (817 + 9 * D.2.2.2.1.length + 3) (gR (D.2.1 s) 0 2)) (x + 6) = gR (D.2.1 s) 0 6 from ((((uN_o (by omega)).trans (uN_o (by omega))).trans (uN_o (by omega))).trans (uN_o (by omega))).trans (Rp_lx hR hs.1 hs.2 (x := x) (k := 6) hx (by decide))]
    refine M.callV (kX11_waitsBy l G o am u (uN (uN (uN (uN a (817 + 9 * D.2.2.2.1.length + 0) ((s : Nat) : Int)) (817 + 9 * D.2.2.2.1.length + 1) (gR (D.2.1 s) 0 0)) (817 + 9 * D.2.2.2.1.length + 2) (gR (D.2.1 s) 0 1)) (817 + 9 * D.2.2.2.1.length + 3) (gR (D.2.1 s) 0 2)) b (gR (D.2.1 s) 0 0) (gR (D.2.1 s) 0 1) (gR (D.2.1 s) 0 6) (by rw [hA4 2 (by decide), hA4 1 (by decide), hF 2 (Or.inl (by decide)), hF 1 (Or.inl (by decide))]; exact hX.2) (by omega) (by omega) X (by rw [hA4 1 (by decide), hF 1 (Or.inl (by decide)), hB 2 (by decide) (by decide) (by decide)]; exact hX.1) (Mok_ext hA4 (Mok_of ht hd (by omega) hR hF))) cv_X11_359 cd_X11_waitsBy rfl (st := [vi (D.1 20), vi (((817 + 9 * D.2.2.2.1.length : Nat) : Int) + 4), vr (am 0)]) rfl (isM_o hM12) (by decide) (by decide) rfl (Nat.zero_le _) (Nat.zero_le _) hM12 (fun r13 w14 q15 => ?_)
    obtain ⟨r13e, bb, hM2, hBB⟩ := q15
    have hB2 : Fb b0 bb := fun k k1 k2 k3 => (hBB k k1 k2 k3).trans (hB k k1 k2 k3)
    rw [r13e, show mWaitA X (uN (uN (uN (uN a (817 + 9 * D.2.2.2.1.length + 0) ((s : Nat) : Int)) (817 + 9 * D.2.2.2.1.length + 1) (gR (D.2.1 s) 0 0)) (817 + 9 * D.2.2.2.1.length + 2) (gR (D.2.1 s) 0 1)) (817 + 9 * D.2.2.2.1.length + 3) (gR (D.2.1 s) 0 2)) (gR (D.2.1 s) 0 0) (gR (D.2.1 s) 0 1) (gR (D.2.1 s) 0 6) = mWaitA X (stA a0 D) (gR (D.2.1 s) 0 0) (gR (D.2.1 s) 0 1) (gR (D.2.1 s) 0 6) from mWaitA_ext (by rw [hA4 0 (by decide), hF 0 (Or.inl (by decide))]; exact (ht.1 0 (by decide)).2) (fun k hk => (hA4 k (by unfold laS at hk; omega)).trans (stA_of hR hF k hk)) _ _ _]
    have hwb := mWaitA_b (X := X) (a := stA a0 D) (kind := (gR (D.2.1 s) 0 0)) (c := (gR (D.2.1 s) 0 1)) (x := (gR (D.2.1 s) 0 6)) (show 1 ≤ a0 6 ∧ a0 6 ≤ 20 from Tok_6 ht)
    refine M.run 1 (pc' := 125) (lv' := [some (vr o), some (vi ((s : Nat) : Int)), some (vi ((x : Nat) : Int)), some (vi ((817 + 9 * D.2.2.2.1.length : Nat) : Int))]) (st' := [vi ((D.1 20) + (mWaitA X (stA a0 D) (gR (D.2.1 s) 0 0) (gR (D.2.1 s) 0 1) (gR (D.2.1 s) 0 6))), vi (((817 + 9 * D.2.2.2.1.length : Nat) : Int) + 4), vr (am 0)]) rfl ?_
    refine M.iastN (817 + 9 * D.2.2.2.1.length + 4) rfl (isM_a hM2) (by omega) (by decide) ?_
    have hM18 := isM_setA hM2 (uN (uN (uN (uN (uN a (817 + 9 * D.2.2.2.1.length + 0) ((s : Nat) : Int)) (817 + 9 * D.2.2.2.1.length + 1) (gR (D.2.1 s) 0 0)) (817 + 9 * D.2.2.2.1.length + 2) (gR (D.2.1 s) 0 1)) (817 + 9 * D.2.2.2.1.length + 3) (gR (D.2.1 s) 0 2)) (817 + 9 * D.2.2.2.1.length + 4) ((D.1 20) + (mWaitA X (stA a0 D) (gR (D.2.1 s) 0 0) (gR (D.2.1 s) 0 1) (gR (D.2.1 s) 0 6))))
    generalize up w14 (am 0) (Ar 0 30042 (uN (uN (uN (uN (uN a (817 + 9 * D.2.2.2.1.length + 0) ((s : Nat) : Int)) (817 + 9 * D.2.2.2.1.length + 1) (gR (D.2.1 s) 0 0)) (817 + 9 * D.2.2.2.1.length + 2) (gR (D.2.1 s) 0 1)) (817 + 9 * D.2.2.2.1.length + 3) (gR (D.2.1 s) 0 2)) (817 + 9 * D.2.2.2.1.length + 4) ((D.1 20) + (mWaitA X (stA a0 D) (gR (D.2.1 s) 0 0) (gR (D.2.1 s) 0 1) (gR (D.2.1 s) 0 6))))) = w17 at hM18 ⊢
    refine M.run 1 (pc' := 127) (lv' := [some (vr o), some (vi ((s : Nat) : Int)), some (vi ((x : Nat) : Int)), some (vi ((817 + 9 * D.2.2.2.1.length : Nat) : Int))]) (st' := [vr o]) rfl ?_
    refine M.get fl_X11_7 rfl (isM_o hM18) (kf := 0) (v := vr (am 0)) rfl ?_
    refine M.run 4 (pc' := 134) (lv' := [some (vr o), some (vi ((s : Nat) : Int)), some (vi ((x : Nat) : Int)), some (vi ((817 + 9 * D.2.2.2.1.length : Nat) : Int))]) (st' := [vr o, vi (((817 + 9 * D.2.2.2.1.length : Nat) : Int) + 5), vr (am 0)]) rfl ?_
    refine M.get fl_X11_7 rfl (isM_o hM18) (kf := 0) (v := vr (am 0)) rfl ?_
    refine M.run 3 (pc' := 141) (lv' := [some (vr o), some (vi ((s : Nat) : Int)), some (vi ((x : Nat) : Int)), some (vi ((817 + 9 * D.2.2.2.1.length : Nat) : Int))]) (st' := [vi (((x : Nat) : Int) + 6), vr (am 0), vi (((817 + 9 * D.2.2.2.1.length : Nat) : Int) + 5), vr (am 0)]) rfl ?_
    refine M.ialdN (x + 6) rfl (isM_a hM18) (by omega) (by decide) ?_
    rw [show (uN (uN (uN (uN (uN a (817 + 9 * D.2.2.2.1.length + 0) ((s : Nat) : Int)) (817 + 9 * D.2.2.2.1.length + 1) (gR (D.2.1 s) 0 0)) (817 + 9 * D.2.2.2.1.length + 2) (gR (D.2.1 s) 0 1)) (817 + 9 * D.2.2.2.1.length + 3) (gR (D.2.1 s) 0 2)) (817 + 9 * D.2.2.2.1.length + 4) ((D.1 20) + (mWaitA X (stA a0 D) (gR (D.2.1 s) 0 0) (gR (D.2.1 s) 0 1) (gR (D.2.1 s) 0 6)))) (x + 6) = gR (D.2.1 s) 0 6 from (((((uN_o (by omega)).trans (uN_o (by omega))).trans (uN_o (by omega))).trans (uN_o (by omega))).trans (uN_o (by omega))).trans (Rp_lx hR hs.1 hs.2 (x := x) (k := 6) hx (by decide))]
    refine M.iastN (817 + 9 * D.2.2.2.1.length + 5) rfl (isM_a hM18) (by omega) (by decide) ?_
    have hM20 := isM_setA hM18 (uN (uN (uN (uN (uN (uN a (817 + 9 * D.2.2.2.1.length + 0) ((s : Nat) : Int)) (817 + 9 * D.2.2.2.1.length + 1) (gR (D.2.1 s) 0 0)) (817 + 9 * D.2.2.2.1.length + 2) (gR (D.2.1 s) 0 1)) (817 + 9 * D.2.2.2.1.length + 3) (gR (D.2.1 s) 0 2)) (817 + 9 * D.2.2.2.1.length + 4) ((D.1 20) + (mWaitA X (stA a0 D) (gR (D.2.1 s) 0 0) (gR (D.2.1 s) 0 1) (gR (D.2.1 s) 0 6)))) (817 + 9 * D.2.2.2.1.length + 5) (gR (D.2.1 s) 0 6))
    generalize up w17 (am 0) (Ar 0 30042 (uN (uN (uN (uN (uN (uN a (817 + 9 * D.2.2.2.1.length + 0) ((s : Nat) : Int)) (817 + 9 * D.2.2.2.1.length + 1) (gR (D.2.1 s) 0 0)) (817 + 9 * D.2.2.2.1.length + 2) (gR (D.2.1 s) 0 1)) (817 + 9 * D.2.2.2.1.length + 3) (gR (D.2.1 s) 0 2)) (817 + 9 * D.2.2.2.1.length + 4) ((D.1 20) + (mWaitA X (stA a0 D) (gR (D.2.1 s) 0 0) (gR (D.2.1 s) 0 1) (gR (D.2.1 s) 0 6)))) (817 + 9 * D.2.2.2.1.length + 5) (gR (D.2.1 s) 0 6))) = w19 at hM20 ⊢
    refine M.run 1 (pc' := 144) (lv' := [some (vr o), some (vi ((s : Nat) : Int)), some (vi ((x : Nat) : Int)), some (vi ((817 + 9 * D.2.2.2.1.length : Nat) : Int))]) (st' := [vr o]) rfl ?_
    refine M.get fl_X11_7 rfl (isM_o hM20) (kf := 0) (v := vr (am 0)) rfl ?_
    refine M.run 4 (pc' := 152) (lv' := [some (vr o), some (vi ((s : Nat) : Int)), some (vi ((x : Nat) : Int)), some (vi ((817 + 9 * D.2.2.2.1.length : Nat) : Int))]) (st' := [vr o, vi (((817 + 9 * D.2.2.2.1.length : Nat) : Int) + 6), vr (am 0)]) rfl ?_
    refine M.get fl_X11_7 rfl (isM_o hM20) (kf := 0) (v := vr (am 0)) rfl ?_
    refine M.run 3 (pc' := 158) (lv' := [some (vr o), some (vi ((s : Nat) : Int)), some (vi ((x : Nat) : Int)), some (vi ((817 + 9 * D.2.2.2.1.length : Nat) : Int))]) (st' := [vi (((x : Nat) : Int) + 3), vr (am 0), vi (((817 + 9 * D.2.2.2.1.length : Nat) : Int) + 6), vr (am 0)]) rfl ?_
    refine M.ialdN (x + 3) rfl (isM_a hM20) (by omega) (by decide) ?_
    rw [show (uN (uN (uN (uN (uN (uN a (817 + 9 * D.2.2.2.1.length + 0) ((s : Nat) : Int)) (817 + 9 * D.2.2.2.1.length + 1) (gR (D.2.1 s) 0 0)) (817 + 9 * D.2.2.2.1.length + 2) (gR (D.2.1 s) 0 1)) (817 + 9 * D.2.2.2.1.length + 3) (gR (D.2.1 s) 0 2)) (817 + 9 * D.2.2.2.1.length + 4) ((D.1 20) + (mWaitA X (stA a0 D) (gR (D.2.1 s) 0 0) (gR (D.2.1 s) 0 1) (gR (D.2.1 s) 0 6)))) (817 + 9 * D.2.2.2.1.length + 5) (gR (D.2.1 s) 0 6)) (x + 3) = gR (D.2.1 s) 0 3 from ((((((uN_o (by omega)).trans (uN_o (by omega))).trans (uN_o (by omega))).trans (uN_o (by omega))).trans (uN_o (by omega))).trans (uN_o (by omega))).trans (Rp_lx hR hs.1 hs.2 (x := x) (k := 3) hx (by decide))]
    refine M.iastN (817 + 9 * D.2.2.2.1.length + 6) rfl (isM_a hM20) (by omega) (by decide) ?_
    have hM22 := isM_setA hM20 (uN (uN (uN (uN (uN (uN (uN a (817 + 9 * D.2.2.2.1.length + 0) ((s : Nat) : Int)) (817 + 9 * D.2.2.2.1.length + 1) (gR (D.2.1 s) 0 0)) (817 + 9 * D.2.2.2.1.length + 2) (gR (D.2.1 s) 0 1)) (817 + 9 * D.2.2.2.1.length + 3) (gR (D.2.1 s) 0 2)) (817 + 9 * D.2.2.2.1.length + 4) ((D.1 20) + (mWaitA X (stA a0 D) (gR (D.2.1 s) 0 0) (gR (D.2.1 s) 0 1) (gR (D.2.1 s) 0 6)))) (817 + 9 * D.2.2.2.1.length + 5) (gR (D.2.1 s) 0 6)) (817 + 9 * D.2.2.2.1.length + 6) (gR (D.2.1 s) 0 3))
    generalize up w19 (am 0) (Ar 0 30042 (uN (uN (uN (uN (uN (uN (uN a (817 + 9 * D.2.2.2.1.length + 0) ((s : Nat) : Int)) (817 + 9 * D.2.2.2.1.length + 1) (gR (D.2.1 s) 0 0)) (817 + 9 * D.2.2.2.1.length + 2) (gR (D.2.1 s) 0 1)) (817 + 9 * D.2.2.2.1.length + 3) (gR (D.2.1 s) 0 2)) (817 + 9 * D.2.2.2.1.length + 4) ((D.1 20) + (mWaitA X (stA a0 D) (gR (D.2.1 s) 0 0) (gR (D.2.1 s) 0 1) (gR (D.2.1 s) 0 6)))) (817 + 9 * D.2.2.2.1.length + 5) (gR (D.2.1 s) 0 6)) (817 + 9 * D.2.2.2.1.length + 6) (gR (D.2.1 s) 0 3))) = w21 at hM22 ⊢
    refine M.run 1 (pc' := 161) (lv' := [some (vr o), some (vi ((s : Nat) : Int)), some (vi ((x : Nat) : Int)), some (vi ((817 + 9 * D.2.2.2.1.length : Nat) : Int))]) (st' := [vr o]) rfl ?_
    refine M.get fl_X11_7 rfl (isM_o hM22) (kf := 0) (v := vr (am 0)) rfl ?_
    refine M.run 4 (pc' := 169) (lv' := [some (vr o), some (vi ((s : Nat) : Int)), some (vi ((x : Nat) : Int)), some (vi ((817 + 9 * D.2.2.2.1.length : Nat) : Int))]) (st' := [vr o, vi (((817 + 9 * D.2.2.2.1.length : Nat) : Int) + 7), vr (am 0)]) rfl ?_
    refine M.get fl_X11_7 rfl (isM_o hM22) (kf := 0) (v := vr (am 0)) rfl ?_
    refine M.run 3 (pc' := 175) (lv' := [some (vr o), some (vi ((s : Nat) : Int)), some (vi ((x : Nat) : Int)), some (vi ((817 + 9 * D.2.2.2.1.length : Nat) : Int))]) (st' := [vi (((x : Nat) : Int) + 4), vr (am 0), vi (((817 + 9 * D.2.2.2.1.length : Nat) : Int) + 7), vr (am 0)]) rfl ?_
    refine M.ialdN (x + 4) rfl (isM_a hM22) (by omega) (by decide) ?_
    rw [show (uN (uN (uN (uN (uN (uN (uN a (817 + 9 * D.2.2.2.1.length + 0) ((s : Nat) : Int)) (817 + 9 * D.2.2.2.1.length + 1) (gR (D.2.1 s) 0 0)) (817 + 9 * D.2.2.2.1.length + 2) (gR (D.2.1 s) 0 1)) (817 + 9 * D.2.2.2.1.length + 3) (gR (D.2.1 s) 0 2)) (817 + 9 * D.2.2.2.1.length + 4) ((D.1 20) + (mWaitA X (stA a0 D) (gR (D.2.1 s) 0 0) (gR (D.2.1 s) 0 1) (gR (D.2.1 s) 0 6)))) (817 + 9 * D.2.2.2.1.length + 5) (gR (D.2.1 s) 0 6)) (817 + 9 * D.2.2.2.1.length + 6) (gR (D.2.1 s) 0 3)) (x + 4) = gR (D.2.1 s) 0 4 from (((((((uN_o (by omega)).trans (uN_o (by omega))).trans (uN_o (by omega))).trans (uN_o (by omega))).trans (uN_o (by omega))).trans (uN_o (by omega))).trans (uN_o (by omega))).trans (Rp_lx hR hs.1 hs.2 (x := x) (k := 4) hx (by decide))]
    refine M.iastN (817 + 9 * D.2.2.2.1.length + 7) rfl (isM_a hM22) (by omega) (by decide) ?_
    have hM24 := isM_setA hM22 (uN (uN (uN (uN (uN (uN (uN (uN a (817 + 9 * D.2.2.2.1.length + 0) ((s : Nat) : Int)) (817 + 9 * D.2.2.2.1.length + 1) (gR (D.2.1 s) 0 0)) (817 + 9 * D.2.2.2.1.length + 2) (gR (D.2.1 s) 0 1)) (817 + 9 * D.2.2.2.1.length + 3) (gR (D.2.1 s) 0 2)) (817 + 9 * D.2.2.2.1.length + 4) ((D.1 20) + (mWaitA X (stA a0 D) (gR (D.2.1 s) 0 0) (gR (D.2.1 s) 0 1) (gR (D.2.1 s) 0 6)))) (817 + 9 * D.2.2.2.1.length + 5) (gR (D.2.1 s) 0 6)) (817 + 9 * D.2.2.2.1.length + 6) (gR (D.2.1 s) 0 3)) (817 + 9 * D.2.2.2.1.length + 7) (gR (D.2.1 s) 0 4))
    generalize up w21 (am 0) (Ar 0 30042 (uN (uN (uN (uN (uN (uN (uN (uN a (817 + 9 * D.2.2.2.1.length + 0) ((s : Nat) : Int)) (817 + 9 * D.2.2.2.1.length + 1) (gR (D.2.1 s) 0 0)) (817 + 9 * D.2.2.2.1.length + 2) (gR (D.2.1 s) 0 1)) (817 + 9 * D.2.2.2.1.length + 3) (gR (D.2.1 s) 0 2)) (817 + 9 * D.2.2.2.1.length + 4) ((D.1 20) + (mWaitA X (stA a0 D) (gR (D.2.1 s) 0 0) (gR (D.2.1 s) 0 1) (gR (D.2.1 s) 0 6)))) (817 + 9 * D.2.2.2.1.length + 5) (gR (D.2.1 s) 0 6)) (817 + 9 * D.2.2.2.1.length + 6) (gR (D.2.1 s) 0 3)) (817 + 9 * D.2.2.2.1.length + 7) (gR (D.2.1 s) 0 4))) = w23 at hM24 ⊢
    refine M.run 1 (pc' := 178) (lv' := [some (vr o), some (vi ((s : Nat) : Int)), some (vi ((x : Nat) : Int)), some (vi ((817 + 9 * D.2.2.2.1.length : Nat) : Int))]) (st' := [vr o]) rfl ?_
    refine M.get fl_X11_7 rfl (isM_o hM24) (kf := 0) (v := vr (am 0)) rfl ?_
    refine M.run 4 (pc' := 186) (lv' := [some (vr o), some (vi ((s : Nat) : Int)), some (vi ((x : Nat) : Int)), some (vi ((817 + 9 * D.2.2.2.1.length : Nat) : Int))]) (st' := [vr o, vi (((817 + 9 * D.2.2.2.1.length : Nat) : Int) + 8), vr (am 0)]) rfl ?_
    refine M.get fl_X11_7 rfl (isM_o hM24) (kf := 0) (v := vr (am 0)) rfl ?_
    refine M.run 3 (pc' := 192) (lv' := [some (vr o), some (vi ((s : Nat) : Int)), some (vi ((x : Nat) : Int)), some (vi ((817 + 9 * D.2.2.2.1.length : Nat) : Int))]) (st' := [vi (((x : Nat) : Int) + 5), vr (am 0), vi (((817 + 9 * D.2.2.2.1.length : Nat) : Int) + 8), vr (am 0)]) rfl ?_
    refine M.ialdN (x + 5) rfl (isM_a hM24) (by omega) (by decide) ?_
    rw [show (uN (uN (uN (uN (uN (uN (uN (uN a (817 + 9 * D.2.2.2.1.length + 0) ((s : Nat) : Int)) (817 + 9 * D.2.2.2.1.length + 1) (gR (D.2.1 s) 0 0)) (817 + 9 * D.2.2.2.1.length + 2) (gR (D.2.1 s) 0 1)) (817 + 9 * D.2.2.2.1.length + 3) (gR (D.2.1 s) 0 2)) (817 + 9 * D.2.2.2.1.length + 4) ((D.1 20) + (mWaitA X (stA a0 D) (gR (D.2.1 s) 0 0) (gR (D.2.1 s) 0 1) (gR (D.2.1 s) 0 6)))) (817 + 9 * D.2.2.2.1.length + 5) (gR (D.2.1 s) 0 6)) (817 + 9 * D.2.2.2.1.length + 6) (gR (D.2.1 s) 0 3)) (817 + 9 * D.2.2.2.1.length + 7) (gR (D.2.1 s) 0 4)) (x + 5) = gR (D.2.1 s) 0 5 from ((((((((uN_o (by omega)).trans (uN_o (by omega))).trans (uN_o (by omega))).trans (uN_o (by omega))).trans (uN_o (by omega))).trans (uN_o (by omega))).trans (uN_o (by omega))).trans (uN_o (by omega))).trans (Rp_lx hR hs.1 hs.2 (x := x) (k := 5) hx (by decide))]
    refine M.iastN (817 + 9 * D.2.2.2.1.length + 8) rfl (isM_a hM24) (by omega) (by decide) ?_
    have hM26 := isM_setA hM24 (uN (uN (uN (uN (uN (uN (uN (uN (uN a (817 + 9 * D.2.2.2.1.length + 0) ((s : Nat) : Int)) (817 + 9 * D.2.2.2.1.length + 1) (gR (D.2.1 s) 0 0)) (817 + 9 * D.2.2.2.1.length + 2) (gR (D.2.1 s) 0 1)) (817 + 9 * D.2.2.2.1.length + 3) (gR (D.2.1 s) 0 2)) (817 + 9 * D.2.2.2.1.length + 4) ((D.1 20) + (mWaitA X (stA a0 D) (gR (D.2.1 s) 0 0) (gR (D.2.1 s) 0 1) (gR (D.2.1 s) 0 6)))) (817 + 9 * D.2.2.2.1.length + 5) (gR (D.2.1 s) 0 6)) (817 + 9 * D.2.2.2.1.length + 6) (gR (D.2.1 s) 0 3)) (817 + 9 * D.2.2.2.1.length + 7) (gR (D.2.1 s) 0 4)) (817 + 9 * D.2.2.2.1.length + 8) (gR (D.2.1 s) 0 5))
    generalize up w23 (am 0) (Ar 0 30042 (uN (uN (uN (uN (uN (uN (uN (uN (uN a (817 + 9 * D.2.2.2.1.length + 0) ((s : Nat) : Int)) (817 + 9 * D.2.2.2.1.length + 1) (gR (D.2.1 s) 0 0)) (817 + 9 * D.2.2.2.1.length + 2) (gR (D.2.1 s) 0 1)) (817 + 9 * D.2.2.2.1.length + 3) (gR (D.2.1 s) 0 2)) (817 + 9 * D.2.2.2.1.length + 4) ((D.1 20) + (mWaitA X (stA a0 D) (gR (D.2.1 s) 0 0) (gR (D.2.1 s) 0 1) (gR (D.2.1 s) 0 6)))) (817 + 9 * D.2.2.2.1.length + 5) (gR (D.2.1 s) 0 6)) (817 + 9 * D.2.2.2.1.length + 6) (gR (D.2.1 s) 0 3)) (817 + 9 * D.2.2.2.1.length + 7) (gR (D.2.1 s) 0 4)) (817 + 9 * D.2.2.2.1.length + 8) (gR (D.2.1 s) 0 5))) = w25 at hM26 ⊢
    refine M.run 1 (pc' := 195) (lv' := [some (vr o), some (vi ((s : Nat) : Int)), some (vi ((x : Nat) : Int)), some (vi ((817 + 9 * D.2.2.2.1.length : Nat) : Int))]) (st' := [vr o]) rfl ?_
    refine M.get fl_X11_7 rfl (isM_o hM26) (kf := 0) (v := vr (am 0)) rfl ?_
    refine M.run 2 (pc' := 201) (lv' := [some (vr o), some (vi ((s : Nat) : Int)), some (vi ((x : Nat) : Int)), some (vi ((817 + 9 * D.2.2.2.1.length : Nat) : Int))]) (st' := [vi 27, vr (am 0), vi 27, vr (am 0)]) rfl ?_
    refine M.ialdN (27) rfl (isM_a hM26) (by decide) (by decide) ?_
    rw [show (uN (uN (uN (uN (uN (uN (uN (uN (uN a (817 + 9 * D.2.2.2.1.length + 0) ((s : Nat) : Int)) (817 + 9 * D.2.2.2.1.length + 1) (gR (D.2.1 s) 0 0)) (817 + 9 * D.2.2.2.1.length + 2) (gR (D.2.1 s) 0 1)) (817 + 9 * D.2.2.2.1.length + 3) (gR (D.2.1 s) 0 2)) (817 + 9 * D.2.2.2.1.length + 4) ((D.1 20) + (mWaitA X (stA a0 D) (gR (D.2.1 s) 0 0) (gR (D.2.1 s) 0 1) (gR (D.2.1 s) 0 6)))) (817 + 9 * D.2.2.2.1.length + 5) (gR (D.2.1 s) 0 6)) (817 + 9 * D.2.2.2.1.length + 6) (gR (D.2.1 s) 0 3)) (817 + 9 * D.2.2.2.1.length + 7) (gR (D.2.1 s) 0 4)) (817 + 9 * D.2.2.2.1.length + 8) (gR (D.2.1 s) 0 5)) 27 = ((D.2.2.2.1.length : Nat) : Int) from (((((((((uN_o (by omega)).trans (uN_o (by omega))).trans (uN_o (by omega))).trans (uN_o (by omega))).trans (uN_o (by omega))).trans (uN_o (by omega))).trans (uN_o (by omega))).trans (uN_o (by omega))).trans (uN_o (by omega))).trans (Rp_t hR)]
    refine M.run 2 (pc' := 204) (lv' := [some (vr o), some (vi ((s : Nat) : Int)), some (vi ((x : Nat) : Int)), some (vi ((817 + 9 * D.2.2.2.1.length : Nat) : Int))]) (st' := [vi (((D.2.2.2.1.length : Nat) : Int) + 1), vi 27, vr (am 0)]) rfl ?_
    refine M.iastN (27) rfl (isM_a hM26) (by decide) (by decide) ?_
    have hM28 := isM_setA hM26 (uN (uN (uN (uN (uN (uN (uN (uN (uN (uN a (817 + 9 * D.2.2.2.1.length + 0) ((s : Nat) : Int)) (817 + 9 * D.2.2.2.1.length + 1) (gR (D.2.1 s) 0 0)) (817 + 9 * D.2.2.2.1.length + 2) (gR (D.2.1 s) 0 1)) (817 + 9 * D.2.2.2.1.length + 3) (gR (D.2.1 s) 0 2)) (817 + 9 * D.2.2.2.1.length + 4) ((D.1 20) + (mWaitA X (stA a0 D) (gR (D.2.1 s) 0 0) (gR (D.2.1 s) 0 1) (gR (D.2.1 s) 0 6)))) (817 + 9 * D.2.2.2.1.length + 5) (gR (D.2.1 s) 0 6)) (817 + 9 * D.2.2.2.1.length + 6) (gR (D.2.1 s) 0 3)) (817 + 9 * D.2.2.2.1.length + 7) (gR (D.2.1 s) 0 4)) (817 + 9 * D.2.2.2.1.length + 8) (gR (D.2.1 s) 0 5)) 27 (((D.2.2.2.1.length : Nat) : Int) + 1))
    generalize up w25 (am 0) (Ar 0 30042 (uN (uN (uN (uN (uN (uN (uN (uN (uN (uN a (817 + 9 * D.2.2.2.1.length + 0) ((s : Nat) : Int)) (817 + 9 * D.2.2.2.1.length + 1) (gR (D.2.1 s) 0 0)) (817 + 9 * D.2.2.2.1.length + 2) (gR (D.2.1 s) 0 1)) (817 + 9 * D.2.2.2.1.length + 3) (gR (D.2.1 s) 0 2)) (817 + 9 * D.2.2.2.1.length + 4) ((D.1 20) + (mWaitA X (stA a0 D) (gR (D.2.1 s) 0 0) (gR (D.2.1 s) 0 1) (gR (D.2.1 s) 0 6)))) (817 + 9 * D.2.2.2.1.length + 5) (gR (D.2.1 s) 0 6)) (817 + 9 * D.2.2.2.1.length + 6) (gR (D.2.1 s) 0 3)) (817 + 9 * D.2.2.2.1.length + 7) (gR (D.2.1 s) 0 4)) (817 + 9 * D.2.2.2.1.length + 8) (gR (D.2.1 s) 0 5)) 27 (((D.2.2.2.1.length : Nat) : Int) + 1))) = w27 at hM28 ⊢
    exact M.vret rfl (Nat.zero_le _) (Nat.zero_le _) (by
        obtain ⟨p1, p2, p3⟩ := tm9 (f := a) (x := 817 + 9 * D.2.2.2.1.length) (c := 27) (v0 := ((s : Nat) : Int)) (v1 := gR (D.2.1 s) 0 0) (v2 := gR (D.2.1 s) 0 1) (v3 := gR (D.2.1 s) 0 2) (v4 := D.1 20 + mWaitA X (stA a0 D) (gR (D.2.1 s) 0 0) (gR (D.2.1 s) 0 1) (gR (D.2.1 s) 0 6)) (v5 := gR (D.2.1 s) 0 6) (v6 := gR (D.2.1 s) 0 3) (v7 := gR (D.2.1 s) 0 4) (v8 := gR (D.2.1 s) 0 5) (v := ((D.2.2.2.1.length : Nat) : Int) + 1) (by omega)
        have hlf := Dok_f hd
        refine ⟨rfl, _, _, hM28, ?_, fun q hq => ?_, hB2⟩
        · unfold mTimer
          rw [if_neg (by omega)]
          refine Rp_ut hR (fun s hs => Dok_l hd hs) (by omega) (x := D.2.2.2.1 ++ [_]) (fun j j1 j2 => p3 j j1 (by omega)) ?_ (fun i k hi hk => ?_)
          · rw [p2, List.length_append]; rfl
          · rw [List.length_append] at hi
            by_cases e : i < D.2.2.2.1.length
            · have := tpc_lt hk
              rw [gR_app e, p3 _ (by omega) (by omega)]; exact Rp_tr hR e hk
            · have hi2 : i < D.2.2.2.1.length + 1 := hi
              have : i = D.2.2.2.1.length := by omega
              subst this
              rw [gR_last, ← rwF_ext rwM_ext, ← p1 k hk]
        · rw [p3 _ (by omega) (by omega)]; exact hF q hq)
  · skip
    exact M.vret rfl (Nat.zero_le _) (Nat.zero_le _) ⟨rfl, by unfold mTimer; rw [if_pos (by omega)]; exact ⟨_, _, hM, hR, hF, hB⟩⟩
set_option maxHeartbeats 4000000 in
set_option maxRecDepth 100000 in
theorem eX11_sendFirst (l : Launch) (G : GT) (o : Nat) (am : Nat → Nat) (u a0 : Nat → Int) (b0 : Nat → Nat → Int) (D : Dy) (n : Int) (ht : Tok a0) (hd : Dok n D) (hn : 0 ≤ n ∧ n ≤ 899999900) (s : Nat) (hs : s < 2 ∧ 0 < (D.2.1 s).length) (hfl : D.2.2.1.length < 40) (hu : u 23 = 0 ∨ u 23 = 1) (X : Nat → Int → Option Gn) (hX : TxOk (b0 2) X (a0 1) ∧ a0 2 < a0 1) : Ctr l G yX11_sendFirst cX11_sendFirst 6 ((Option.none : Option Jvm.ClassFile.FieldType)) 7 0 0 [vr o, vi ((s : Nat) : Int)] (fun w => isE o am u a0 b0 D w) (fun w r w' => r = none ∧ isE o am u a0 b0 (mSend X a0 (u 23) s D) w') := by
  refine Ctr.of (t := tX11_sendFirst) (lv0 := [some (vr o), some (vi ((s : Nat) : Int)), none, none, none, none]) (by decide +kernel) tX11_sendFirst_ok rfl rfl (fun w g hP M => ?_)
  obtain ⟨a, b, hM, hR, hF, hB⟩ := hP
  have hk18 := Dok_clk hd
  have hk19 := Dok_x hd
  have hk21 := Dok_sent hd
  have hk22 := Dok_lost hd
  have hk2 : -1 ≤ a0 2 ∧ a0 2 ≤ 3 := ht.1 2 (by decide)
  obtain ⟨q0, q1, q2, q3, q4, q5, q6, q7, q8, q9⟩ := Dok_lr hd hs.1 hs.2
  have hbyt := Dok_byt hd (x := (gR (D.2.1 s) 0 1).toNat) (by omega)
  have htx := hX.2
  refine M.run 2 (pc' := 2) (lv' := [some (vr o), some (vi ((s : Nat) : Int)), none, none, none, none]) (st' := [vi 0, vi ((s : Nat) : Int)]) rfl ?_
  refine M.callS (kX11_outAt l G s 0 (by omega) (by omega)) cs_X11_292 cd_X11_outAt rfl (st := []) rfl (by decide) (by decide) rfl (Nat.zero_le _) (Nat.zero_le _) trivial (fun r1 w2 q3 => ?_)
  rw [q3.1, q3.2]
  refine M.run 2 (pc' := 7) (lv' := [some (vr o), some (vi ((s : Nat) : Int)), some (vi ((49 + 7 * (24 * s + 0) : Nat) : Int)), none, none, none]) (st' := [vr o]) rfl ?_
  refine M.get fl_X11_7 rfl (isM_o hM) (kf := 0) (v := vr (am 0)) rfl ?_
  refine M.run 3 (pc' := 13) (lv' := [some (vr o), some (vi ((s : Nat) : Int)), some (vi ((49 + 7 * (24 * s + 0) : Nat) : Int)), none, none, none]) (st' := [vi (((49 + 7 * (24 * s + 0) : Nat) : Int) + 0), vr (am 0)]) rfl ?_
  refine M.ialdN (49 + 7 * (24 * s + 0) + 0) rfl (isM_a hM) (by omega) (by decide) ?_
  rw [show a (49 + 7 * (24 * s + 0) + 0) = gR (D.2.1 s) 0 0 from Rp_lx hR hs.1 hs.2 (x := (49 + 7 * (24 * s + 0))) (k := 0) (by omega) (by decide)]
  refine M.run 2 (pc' := 16) (lv' := [some (vr o), some (vi ((s : Nat) : Int)), some (vi ((49 + 7 * (24 * s + 0) : Nat) : Int)), some (vi (gR (D.2.1 s) 0 0)), none, none]) (st' := [vr o]) rfl ?_
  refine M.get fl_X11_7 rfl (isM_o hM) (kf := 0) (v := vr (am 0)) rfl ?_
  refine M.run 3 (pc' := 22) (lv' := [some (vr o), some (vi ((s : Nat) : Int)), some (vi ((49 + 7 * (24 * s + 0) : Nat) : Int)), some (vi (gR (D.2.1 s) 0 0)), none, none]) (st' := [vi (((49 + 7 * (24 * s + 0) : Nat) : Int) + 1), vr (am 0)]) rfl ?_
  refine M.ialdN (49 + 7 * (24 * s + 0) + 1) rfl (isM_a hM) (by omega) (by decide) ?_
  rw [show a (49 + 7 * (24 * s + 0) + 1) = gR (D.2.1 s) 0 1 from Rp_lx hR hs.1 hs.2 (x := (49 + 7 * (24 * s + 0))) (k := 1) (by omega) (by decide)]
  rw [show gR (D.2.1 s) 0 1 = (((gR (D.2.1 s) 0 1).toNat : Nat) : Int) from (Int.toNat_of_nonneg (by omega)).symm]
  refine M.run 2 (pc' := 26) (lv' := [some (vr o), some (vi ((s : Nat) : Int)), some (vi ((49 + 7 * (24 * s + 0) : Nat) : Int)), some (vi (gR (D.2.1 s) 0 0)), some (vi (((gR (D.2.1 s) 0 1).toNat : Nat) : Int)), none]) (st' := [vi (gR (D.2.1 s) 0 0)]) rfl ?_
  refine M.if_ne (tgt := 49) rfl (qI (by omega)) (by decide) (fun h26 => ?_) (fun h26 => ?_)
  · skip
    refine M.run 1 (pc' := 50) (lv' := [some (vr o), some (vi ((s : Nat) : Int)), some (vi ((49 + 7 * (24 * s + 0) : Nat) : Int)), some (vi (gR (D.2.1 s) 0 0)), some (vi (((gR (D.2.1 s) 0 1).toNat : Nat) : Int)), none]) (st' := [vi 0]) rfl ?_
    have eBy : mBy (gR (D.2.1 s) 0) = 0 := by first | exact if_pos h26 | exact if_neg h26
    have hbb : 0 ≤ 0 ∧ 0 ≤ 30 := by omega
    refine M.run 2 (pc' := 53) (lv' := [some (vr o), some (vi ((s : Nat) : Int)), some (vi ((49 + 7 * (24 * s + 0) : Nat) : Int)), some (vi (gR (D.2.1 s) 0 0)), some (vi (((gR (D.2.1 s) 0 1).toNat : Nat) : Int)), some (vi 0)]) (st' := [vr o]) rfl ?_
    refine M.get fl_X11_7 rfl (isM_o hM) (kf := 0) (v := vr (am 0)) rfl ?_
    refine M.run 2 (pc' := 59) (lv' := [some (vr o), some (vi ((s : Nat) : Int)), some (vi ((49 + 7 * (24 * s + 0) : Nat) : Int)), some (vi (gR (D.2.1 s) 0 0)), some (vi (((gR (D.2.1 s) 0 1).toNat : Nat) : Int)), some (vi 0)]) (st' := [vi 21, vr (am 0), vi 21, vr (am 0)]) rfl ?_
    refine M.ialdN (21) rfl (isM_a hM) (by decide) (by decide) ?_
    rw [show a 21 = D.1 21 from Rp_s hR (k := 21) (by decide) (by decide) (by decide)]
    refine M.run 2 (pc' := 62) (lv' := [some (vr o), some (vi ((s : Nat) : Int)), some (vi ((49 + 7 * (24 * s + 0) : Nat) : Int)), some (vi (gR (D.2.1 s) 0 0)), some (vi (((gR (D.2.1 s) 0 1).toNat : Nat) : Int)), some (vi 0)]) (st' := [vi ((D.1 21) + 1), vi 21, vr (am 0)]) rfl ?_
    refine M.iastN (21) rfl (isM_a hM) (by decide) (by decide) ?_
    have hM6 := isM_setA hM (uN a 21 ((D.1 21) + 1))
    generalize up w (am 0) (Ar 0 30042 (uN a 21 ((D.1 21) + 1))) = w5 at hM6 ⊢
    have hd7x := Dok_mono (m := (n + 31)) (by omega) hd
    have hR7 : Rp _ (mS 21 ((D.1 21) + 1) D) := Rp_us hR ((D.1 21) + 1) (k := 21) (by omega) (by omega) (by omega)
    have hF7 := Fr_u (k := 21) (v := (D.1 21) + 1) hF (by omega) (by omega)
    have hd7 := Dok_S (k := 21) (v := (D.1 21) + 1) hd7x (fun _ _ _ => by unfold Shi; (repeat' split) <;> omega)
    have es7 : (mS 21 ((D.1 21) + 1) D).1 = uN D.1 21 ((D.1 21) + 1) := rfl
    refine M.run 1 (pc' := 64) (lv' := [some (vr o), some (vi ((s : Nat) : Int)), some (vi ((49 + 7 * (24 * s + 0) : Nat) : Int)), some (vi (gR (D.2.1 s) 0 0)), some (vi (((gR (D.2.1 s) 0 1).toNat : Nat) : Int)), some (vi 0)]) (st' := [vr o]) rfl ?_
    refine M.get fl_X11_7 rfl (isM_o hM6) (kf := 0) (v := vr (am 0)) rfl ?_
    refine M.run 4 (pc' := 73) (lv' := [some (vr o), some (vi ((s : Nat) : Int)), some (vi ((49 + 7 * (24 * s + 0) : Nat) : Int)), some (vi (gR (D.2.1 s) 0 0)), some (vi (((gR (D.2.1 s) 0 1).toNat : Nat) : Int)), some (vi 0)]) (st' := [vi (46 + (((gR (D.2.1 s) 0 1).toNat : Nat) : Int)), vr (am 0), vi (46 + (((gR (D.2.1 s) 0 1).toNat : Nat) : Int)), vr (am 0)]) rfl ?_
    refine M.ialdN (46 + ((gR (D.2.1 s) 0 1).toNat)) rfl (isM_a hM6) (by omega) (by decide) ?_
    rw [show (uN a 21 ((D.1 21) + 1)) (46 + ((gR (D.2.1 s) 0 1).toNat)) = D.1 (46 + ((gR (D.2.1 s) 0 1).toNat)) from (Rp_s hR7 (k := 46 + ((gR (D.2.1 s) 0 1).toNat)) (by omega) (by omega) (by omega)).trans (((congrFun es7 _)).trans (uN_o (by omega)))]
    refine M.run 2 (pc' := 77) (lv' := [some (vr o), some (vi ((s : Nat) : Int)), some (vi ((49 + 7 * (24 * s + 0) : Nat) : Int)), some (vi (gR (D.2.1 s) 0 0)), some (vi (((gR (D.2.1 s) 0 1).toNat : Nat) : Int)), some (vi 0)]) (st' := [vi ((D.1 (46 + ((gR (D.2.1 s) 0 1).toNat))) + 0), vi (46 + (((gR (D.2.1 s) 0 1).toNat : Nat) : Int)), vr (am 0)]) rfl ?_
    refine M.iastN (46 + ((gR (D.2.1 s) 0 1).toNat)) rfl (isM_a hM6) (by omega) (by decide) ?_
    have hM9 := isM_setA hM6 (uN (uN a 21 ((D.1 21) + 1)) (46 + ((gR (D.2.1 s) 0 1).toNat)) ((D.1 (46 + ((gR (D.2.1 s) 0 1).toNat))) + 0))
    generalize up w5 (am 0) (Ar 0 30042 (uN (uN a 21 ((D.1 21) + 1)) (46 + ((gR (D.2.1 s) 0 1).toNat)) ((D.1 (46 + ((gR (D.2.1 s) 0 1).toNat))) + 0))) = w8 at hM9 ⊢
    have hR10 : Rp _ (mS (46 + ((gR (D.2.1 s) 0 1).toNat)) ((D.1 (46 + ((gR (D.2.1 s) 0 1).toNat))) + 0) (mS 21 ((D.1 21) + 1) D)) := Rp_us hR7 ((D.1 (46 + ((gR (D.2.1 s) 0 1).toNat))) + 0) (k := 46 + ((gR (D.2.1 s) 0 1).toNat)) (by omega) (by omega) (by omega)
    have hF10 := Fr_u (k := 46 + ((gR (D.2.1 s) 0 1).toNat)) (v := (D.1 (46 + ((gR (D.2.1 s) 0 1).toNat))) + 0) hF7 (by omega) (by omega)
    have hd10 := Dok_S (k := 46 + ((gR (D.2.1 s) 0 1).toNat)) (v := (D.1 (46 + ((gR (D.2.1 s) 0 1).toNat))) + 0) hd7 (fun _ _ _ => by unfold Shi; (repeat' split) <;> omega)
    have es10 : (mS (46 + ((gR (D.2.1 s) 0 1).toNat)) ((D.1 (46 + ((gR (D.2.1 s) 0 1).toNat))) + 0) (mS 21 ((D.1 21) + 1) D)).1 = uN (uN D.1 21 ((D.1 21) + 1)) (46 + ((gR (D.2.1 s) 0 1).toNat)) ((D.1 (46 + ((gR (D.2.1 s) 0 1).toNat))) + 0) := by show uN _ _ _ = _; rw [es7]
    have eD11 : mS1 s D = (mS (46 + ((gR (D.2.1 s) 0 1).toNat)) ((D.1 (46 + ((gR (D.2.1 s) 0 1).toNat))) + 0) (mS 21 ((D.1 21) + 1) D)) := by unfold mS1; rw [eBy]
    have hR11 : Rp (uN (uN a 21 ((D.1 21) + 1)) (46 + ((gR (D.2.1 s) 0 1).toNat)) ((D.1 (46 + ((gR (D.2.1 s) 0 1).toNat))) + 0)) (mS1 s D) := by rw [eD11]; exact hR10
    have hd11 : Dok (n + 31) (mS1 s D) := by rw [eD11]; exact hd10
    refine M.run 1 (pc' := 79) (lv' := [some (vr o), some (vi ((s : Nat) : Int)), some (vi ((49 + 7 * (24 * s + 0) : Nat) : Int)), some (vi (gR (D.2.1 s) 0 0)), some (vi (((gR (D.2.1 s) 0 1).toNat : Nat) : Int)), some (vi 0)]) (st' := [vr o]) rfl ?_
    refine M.get fl_X11_362 rfl (isM_o hM9) (kf := 23) (v := vi (u 23)) rfl ?_
    refine M.if_ne (tgt := 131) rfl (qI (by omega)) (by decide) (fun h82 => ?_) (fun h82 => ?_)
    · skip
      refine M.run 3 (pc' := 134) (lv' := [some (vr o), some (vi ((s : Nat) : Int)), some (vi ((49 + 7 * (24 * s + 0) : Nat) : Int)), some (vi (gR (D.2.1 s) 0 0)), some (vi (((gR (D.2.1 s) 0 1).toNat : Nat) : Int)), some (vi 0)]) (st' := [vi ((49 + 7 * (24 * s + 0) : Nat) : Int), vi ((s : Nat) : Int), vr o]) rfl ?_
      refine M.callV (eX11_fly l G o am u a0 b0 (mS1 s D) _ ht hd11 (by omega)  s ⟨hs.1, hs.2, hfl⟩ (49 + 7 * (24 * s + 0)) (by omega)) cv_X11_372 cd_X11_fly rfl (st := []) rfl (isM_o hM9) (by decide) (by decide) rfl (Nat.zero_le _) (Nat.zero_le _) ⟨_, _, hM9, hR11, hF10, hB⟩ (fun r13 w14 q15 => ?_)
      obtain ⟨q15r, a12, b12, hM12, hR12, hF12, hB12⟩ := q15
      rw [q15r]
      have hd12 : Dok (n + 31) (mFly a0 s (mS1 s D)) := Dok_fly ht hd11 hs hfl
      have es12 : (mFly a0 s (mS1 s D)).1 = (mS1 s D).1 := rfl
      have eD17 : mS2 X a0 (u 23) s (gR (D.2.1 s) 0) (mS1 s D) = (mFly a0 s (mS1 s D)) := by unfold mS2; rw [eBy, if_neg h82]
      have hR17 : Rp a12 (mS2 X a0 (u 23) s (gR (D.2.1 s) 0) (mS1 s D)) := by rw [eD17]; exact hR12
      have hd17 : Dok (n + 31) (mS2 X a0 (u 23) s (gR (D.2.1 s) 0) (mS1 s D)) := by rw [eD17]; exact hd12
      have hs2 : s < 2 ∧ 0 < (((mS2 X a0 (u 23) s (gR (D.2.1 s) 0) (mS1 s D))).2.1 s).length := ⟨hs.1, by rw [mS2_2]; exact hs.2⟩
      refine M.run 1 (pc' := 138) (lv' := [some (vr o), some (vi ((s : Nat) : Int)), some (vi ((49 + 7 * (24 * s + 0) : Nat) : Int)), some (vi (gR (D.2.1 s) 0 0)), some (vi (((gR (D.2.1 s) 0 1).toNat : Nat) : Int)), some (vi 0)]) (st' := [vi (gR (D.2.1 s) 0 0)]) rfl ?_
      refine M.if_ne (tgt := 152) rfl (qI (by omega)) (by decide) (fun h138 => ?_) (fun h138 => ?_)
      · skip
        refine M.run 2 (pc' := 154) (lv' := [some (vr o), some (vi ((s : Nat) : Int)), some (vi ((49 + 7 * (24 * s + 0) : Nat) : Int)), some (vi (gR (D.2.1 s) 0 0)), some (vi (((gR (D.2.1 s) 0 1).toNat : Nat) : Int)), some (vi 0)]) (st' := [vi 1, vi (gR (D.2.1 s) 0 0)]) rfl ?_
        refine M.icmp_eq (tgt := 162) rfl (qI (by omega)) (qI (by decide)) (by decide) (fun h154 => ?_) (fun h154 => ?_)
        · skip
          refine M.run 3 (pc' := 165) (lv' := [some (vr o), some (vi ((s : Nat) : Int)), some (vi ((49 + 7 * (24 * s + 0) : Nat) : Int)), some (vi (gR (D.2.1 s) 0 0)), some (vi (((gR (D.2.1 s) 0 1).toNat : Nat) : Int)), some (vi 0)]) (st' := [vi ((49 + 7 * (24 * s + 0) : Nat) : Int), vi ((s : Nat) : Int), vr o]) rfl ?_
          refine M.callV (eX11_startTimer l G o am u a0 b0 (mS2 X a0 (u 23) s (gR (D.2.1 s) 0) (mS1 s D)) _ ht hd17 (by omega)  s hs2 (49 + 7 * (24 * s + 0)) (by omega) X hX) cv_X11_375 cd_X11_startTimer rfl (st := []) rfl (isM_o hM12) (by decide) (by decide) rfl (Nat.zero_le _) (Nat.zero_le _) ⟨_, _, hM12, hR17, hF12, hB12⟩ (fun r19 w20 q21 => ?_)
          obtain ⟨q21r, a18, b18, hM18, hR18, hF18, hB18⟩ := q21
          rw [q21r]
          have hd18 : Dok (n + 31) (mTimer X a0 s (mS2 X a0 (u 23) s (gR (D.2.1 s) 0) (mS1 s D))) := Dok_timer ht hd17 hs2
          have es18 : (mTimer X a0 s (mS2 X a0 (u 23) s (gR (D.2.1 s) 0) (mS1 s D))).1 = (mTimer X a0 s (mS2 X a0 (u 23) s (gR (D.2.1 s) 0) (mS1 s D))).1 := rfl
          have eD23 : mS3 X a0 s (gR (D.2.1 s) 0) (mS2 X a0 (u 23) s (gR (D.2.1 s) 0) (mS1 s D)) = (mTimer X a0 s (mS2 X a0 (u 23) s (gR (D.2.1 s) 0) (mS1 s D))) := if_pos (Or.inr (Or.inl h154))
          have hR23 : Rp a18 (mS3 X a0 s (gR (D.2.1 s) 0) (mS2 X a0 (u 23) s (gR (D.2.1 s) 0) (mS1 s D))) := by rw [eD23]; exact hR18
          have hd23 : Dok (n + 31) (mS3 X a0 s (gR (D.2.1 s) 0) (mS2 X a0 (u 23) s (gR (D.2.1 s) 0) (mS1 s D))) := by rw [eD23]; exact hd18
          have hs3 : 0 < (((mS3 X a0 s (gR (D.2.1 s) 0) (mS2 X a0 (u 23) s (gR (D.2.1 s) 0) (mS1 s D)))).2.1 s).length := by rw [mS3_2]; exact hs2.2
          refine M.run 3 (pc' := 171) (lv' := [some (vr o), some (vi ((s : Nat) : Int)), some (vi ((49 + 7 * (24 * s + 0) : Nat) : Int)), some (vi (gR (D.2.1 s) 0 0)), some (vi (((gR (D.2.1 s) 0 1).toNat : Nat) : Int)), some (vi 0)]) (st' := [vi 0, vi ((s : Nat) : Int), vr o]) rfl ?_
          refine M.callV (eX11_takeOut l G o am u a0 b0 (mS3 X a0 s (gR (D.2.1 s) 0) (mS2 X a0 (u 23) s (gR (D.2.1 s) 0) (mS1 s D))) _ ht hd23 (by omega)  s hs.1 0 hs3) cv_X11_301 cd_X11_takeOut rfl (st := []) rfl (isM_o hM18) (by decide) (by decide) rfl (Nat.zero_le _) (Nat.zero_le _) ⟨_, _, hM18, hR23, hF18, hB18⟩ (fun r25 w26 q27 => ?_)
          obtain ⟨q27r, a24, b24, hM24, hR24, hF24, hB24⟩ := q27
          rw [q27r]
          have hd24 : Dok (n + 31) (((mS3 X a0 s (gR (D.2.1 s) 0) (mS2 X a0 (u 23) s (gR (D.2.1 s) 0) (mS1 s D))).1, lsS (mS3 X a0 s (gR (D.2.1 s) 0) (mS2 X a0 (u 23) s (gR (D.2.1 s) 0) (mS1 s D))).2.1 s (((mS3 X a0 s (gR (D.2.1 s) 0) (mS2 X a0 (u 23) s (gR (D.2.1 s) 0) (mS1 s D))).2.1 s).eraseIdx 0), (mS3 X a0 s (gR (D.2.1 s) 0) (mS2 X a0 (u 23) s (gR (D.2.1 s) 0) (mS1 s D))).2.2)) := Dok_takeO hd23
          have es24 : (((mS3 X a0 s (gR (D.2.1 s) 0) (mS2 X a0 (u 23) s (gR (D.2.1 s) 0) (mS1 s D))).1, lsS (mS3 X a0 s (gR (D.2.1 s) 0) (mS2 X a0 (u 23) s (gR (D.2.1 s) 0) (mS1 s D))).2.1 s (((mS3 X a0 s (gR (D.2.1 s) 0) (mS2 X a0 (u 23) s (gR (D.2.1 s) 0) (mS1 s D))).2.1 s).eraseIdx 0), (mS3 X a0 s (gR (D.2.1 s) 0) (mS2 X a0 (u 23) s (gR (D.2.1 s) 0) (mS1 s D))).2.2)).1 = (mS3 X a0 s (gR (D.2.1 s) 0) (mS2 X a0 (u 23) s (gR (D.2.1 s) 0) (mS1 s D))).1 := rfl
          exact M.vret rfl (Nat.zero_le _) (Nat.zero_le _) ⟨rfl, _, _, hM24, hR24, hF24, hB24⟩
        · skip
          refine M.run 2 (pc' := 159) (lv' := [some (vr o), some (vi ((s : Nat) : Int)), some (vi ((49 + 7 * (24 * s + 0) : Nat) : Int)), some (vi (gR (D.2.1 s) 0 0)), some (vi (((gR (D.2.1 s) 0 1).toNat : Nat) : Int)), some (vi 0)]) (st' := [vi 3, vi (gR (D.2.1 s) 0 0)]) rfl ?_
          refine M.icmp_ne (tgt := 168) rfl (qI (by omega)) (qI (by decide)) (by decide) (fun h159 => ?_) (fun h159 => ?_)
          · skip
            have eD29 : mS3 X a0 s (gR (D.2.1 s) 0) (mS2 X a0 (u 23) s (gR (D.2.1 s) 0) (mS1 s D)) = (mS2 X a0 (u 23) s (gR (D.2.1 s) 0) (mS1 s D)) := if_neg (by omega)
            have hR29 : Rp a12 (mS3 X a0 s (gR (D.2.1 s) 0) (mS2 X a0 (u 23) s (gR (D.2.1 s) 0) (mS1 s D))) := by rw [eD29]; exact hR17
            have hd29 : Dok (n + 31) (mS3 X a0 s (gR (D.2.1 s) 0) (mS2 X a0 (u 23) s (gR (D.2.1 s) 0) (mS1 s D))) := by rw [eD29]; exact hd17
            have hs3 : 0 < (((mS3 X a0 s (gR (D.2.1 s) 0) (mS2 X a0 (u 23) s (gR (D.2.1 s) 0) (mS1 s D)))).2.1 s).length := by rw [mS3_2]; exact hs2.2
            refine M.run 3 (pc' := 171) (lv' := [some (vr o), some (vi ((s : Nat) : Int)), some (vi ((49 + 7 * (24 * s + 0) : Nat) : Int)), some (vi (gR (D.2.1 s) 0 0)), some (vi (((gR (D.2.1 s) 0 1).toNat : Nat) : Int)), some (vi 0)]) (st' := [vi 0, vi ((s : Nat) : Int), vr o]) rfl ?_
            refine M.callV (eX11_takeOut l G o am u a0 b0 (mS3 X a0 s (gR (D.2.1 s) 0) (mS2 X a0 (u 23) s (gR (D.2.1 s) 0) (mS1 s D))) _ ht hd29 (by omega)  s hs.1 0 hs3) cv_X11_301 cd_X11_takeOut rfl (st := []) rfl (isM_o hM12) (by decide) (by decide) rfl (Nat.zero_le _) (Nat.zero_le _) ⟨_, _, hM12, hR29, hF12, hB12⟩ (fun r31 w32 q33 => ?_)
            obtain ⟨q33r, a30, b30, hM30, hR30, hF30, hB30⟩ := q33
            rw [q33r]
            have hd30 : Dok (n + 31) (((mS3 X a0 s (gR (D.2.1 s) 0) (mS2 X a0 (u 23) s (gR (D.2.1 s) 0) (mS1 s D))).1, lsS (mS3 X a0 s (gR (D.2.1 s) 0) (mS2 X a0 (u 23) s (gR (D.2.1 s) 0) (mS1 s D))).2.1 s (((mS3 X a0 s (gR (D.2.1 s) 0) (mS2 X a0 (u 23) s (gR (D.2.1 s) 0) (mS1 s D))).2.1 s).eraseIdx 0), (mS3 X a0 s (gR (D.2.1 s) 0) (mS2 X a0 (u 23) s (gR (D.2.1 s) 0) (mS1 s D))).2.2)) := Dok_takeO hd29
            have es30 : (((mS3 X a0 s (gR (D.2.1 s) 0) (mS2 X a0 (u 23) s (gR (D.2.1 s) 0) (mS1 s D))).1, lsS (mS3 X a0 s (gR (D.2.1 s) 0) (mS2 X a0 (u 23) s (gR (D.2.1 s) 0) (mS1 s D))).2.1 s (((mS3 X a0 s (gR (D.2.1 s) 0) (mS2 X a0 (u 23) s (gR (D.2.1 s) 0) (mS1 s D))).2.1 s).eraseIdx 0), (mS3 X a0 s (gR (D.2.1 s) 0) (mS2 X a0 (u 23) s (gR (D.2.1 s) 0) (mS1 s D))).2.2)).1 = (mS3 X a0 s (gR (D.2.1 s) 0) (mS2 X a0 (u 23) s (gR (D.2.1 s) 0) (mS1 s D))).1 := rfl
            exact M.vret rfl (Nat.zero_le _) (Nat.zero_le _) ⟨rfl, _, _, hM30, hR30, hF30, hB30⟩
          · skip
            refine M.run 3 (pc' := 165) (lv' := [some (vr o), some (vi ((s : Nat) : Int)), some (vi ((49 + 7 * (24 * s + 0) : Nat) : Int)), some (vi (gR (D.2.1 s) 0 0)), some (vi (((gR (D.2.1 s) 0 1).toNat : Nat) : Int)), some (vi 0)]) (st' := [vi ((49 + 7 * (24 * s + 0) : Nat) : Int), vi ((s : Nat) : Int), vr o]) rfl ?_
            refine M.callV (eX11_startTimer l G o am u a0 b0 (mS2 X a0 (u 23) s (gR (D.2.1 s) 0) (mS1 s D)) _ ht hd17 (by omega)  s hs2 (49 + 7 * (24 * s + 0)) (by omega) X hX) cv_X11_375 cd_X11_startTimer rfl (st := []) rfl (isM_o hM12) (by decide) (by decide) rfl (Nat.zero_le _) (Nat.zero_le _) ⟨_, _, hM12, hR17, hF12, hB12⟩ (fun r36 w37 q38 => ?_)
            obtain ⟨q38r, a35, b35, hM35, hR35, hF35, hB35⟩ := q38
            rw [q38r]
            have hd35 : Dok (n + 31) (mTimer X a0 s (mS2 X a0 (u 23) s (gR (D.2.1 s) 0) (mS1 s D))) := Dok_timer ht hd17 hs2
            have es35 : (mTimer X a0 s (mS2 X a0 (u 23) s (gR (D.2.1 s) 0) (mS1 s D))).1 = (mTimer X a0 s (mS2 X a0 (u 23) s (gR (D.2.1 s) 0) (mS1 s D))).1 := rfl
            have eD40 : mS3 X a0 s (gR (D.2.1 s) 0) (mS2 X a0 (u 23) s (gR (D.2.1 s) 0) (mS1 s D)) = (mTimer X a0 s (mS2 X a0 (u 23) s (gR (D.2.1 s) 0) (mS1 s D))) := if_pos (Or.inr (Or.inr h159))
            have hR40 : Rp a35 (mS3 X a0 s (gR (D.2.1 s) 0) (mS2 X a0 (u 23) s (gR (D.2.1 s) 0) (mS1 s D))) := by rw [eD40]; exact hR35
            have hd40 : Dok (n + 31) (mS3 X a0 s (gR (D.2.1 s) 0) (mS2 X a0 (u 23) s (gR (D.2.1 s) 0) (mS1 s D))) := by rw [eD40]; exact hd35
            have hs3 : 0 < (((mS3 X a0 s (gR (D.2.1 s) 0) (mS2 X a0 (u 23) s (gR (D.2.1 s) 0) (mS1 s D)))).2.1 s).length := by rw [mS3_2]; exact hs2.2
            refine M.run 3 (pc' := 171) (lv' := [some (vr o), some (vi ((s : Nat) : Int)), some (vi ((49 + 7 * (24 * s + 0) : Nat) : Int)), some (vi (gR (D.2.1 s) 0 0)), some (vi (((gR (D.2.1 s) 0 1).toNat : Nat) : Int)), some (vi 0)]) (st' := [vi 0, vi ((s : Nat) : Int), vr o]) rfl ?_
            refine M.callV (eX11_takeOut l G o am u a0 b0 (mS3 X a0 s (gR (D.2.1 s) 0) (mS2 X a0 (u 23) s (gR (D.2.1 s) 0) (mS1 s D))) _ ht hd40 (by omega)  s hs.1 0 hs3) cv_X11_301 cd_X11_takeOut rfl (st := []) rfl (isM_o hM35) (by decide) (by decide) rfl (Nat.zero_le _) (Nat.zero_le _) ⟨_, _, hM35, hR40, hF35, hB35⟩ (fun r42 w43 q44 => ?_)
            obtain ⟨q44r, a41, b41, hM41, hR41, hF41, hB41⟩ := q44
            rw [q44r]
            have hd41 : Dok (n + 31) (((mS3 X a0 s (gR (D.2.1 s) 0) (mS2 X a0 (u 23) s (gR (D.2.1 s) 0) (mS1 s D))).1, lsS (mS3 X a0 s (gR (D.2.1 s) 0) (mS2 X a0 (u 23) s (gR (D.2.1 s) 0) (mS1 s D))).2.1 s (((mS3 X a0 s (gR (D.2.1 s) 0) (mS2 X a0 (u 23) s (gR (D.2.1 s) 0) (mS1 s D))).2.1 s).eraseIdx 0), (mS3 X a0 s (gR (D.2.1 s) 0) (mS2 X a0 (u 23) s (gR (D.2.1 s) 0) (mS1 s D))).2.2)) := Dok_takeO hd40
            have es41 : (((mS3 X a0 s (gR (D.2.1 s) 0) (mS2 X a0 (u 23) s (gR (D.2.1 s) 0) (mS1 s D))).1, lsS (mS3 X a0 s (gR (D.2.1 s) 0) (mS2 X a0 (u 23) s (gR (D.2.1 s) 0) (mS1 s D))).2.1 s (((mS3 X a0 s (gR (D.2.1 s) 0) (mS2 X a0 (u 23) s (gR (D.2.1 s) 0) (mS1 s D))).2.1 s).eraseIdx 0), (mS3 X a0 s (gR (D.2.1 s) 0) (mS2 X a0 (u 23) s (gR (D.2.1 s) 0) (mS1 s D))).2.2)).1 = (mS3 X a0 s (gR (D.2.1 s) 0) (mS2 X a0 (u 23) s (gR (D.2.1 s) 0) (mS1 s D))).1 := rfl
            exact M.vret rfl (Nat.zero_le _) (Nat.zero_le _) ⟨rfl, _, _, hM41, hR41, hF41, hB41⟩
      · skip
        refine M.run 1 (pc' := 142) (lv' := [some (vr o), some (vi ((s : Nat) : Int)), some (vi ((49 + 7 * (24 * s + 0) : Nat) : Int)), some (vi (gR (D.2.1 s) 0 0)), some (vi (((gR (D.2.1 s) 0 1).toNat : Nat) : Int)), some (vi 0)]) (st' := [vr o]) rfl ?_
        refine M.get fl_X11_7 rfl (isM_o hM12) (kf := 0) (v := vr (am 0)) rfl ?_
        refine M.run 3 (pc' := 148) (lv' := [some (vr o), some (vi ((s : Nat) : Int)), some (vi ((49 + 7 * (24 * s + 0) : Nat) : Int)), some (vi (gR (D.2.1 s) 0 0)), some (vi (((gR (D.2.1 s) 0 1).toNat : Nat) : Int)), some (vi 0)]) (st' := [vi (((49 + 7 * (24 * s + 0) : Nat) : Int) + 2), vr (am 0)]) rfl ?_
        refine M.ialdN (49 + 7 * (24 * s + 0) + 2) rfl (isM_a hM12) (by omega) (by decide) ?_
        rw [show a12 (49 + 7 * (24 * s + 0) + 2) = gR (D.2.1 s) 0 2 from (show _ = gR (D.2.1 s) 0 2 from by have q := Rp_lx hR17 hs2.1 hs2.2 (x := (49 + 7 * (24 * s + 0))) (k := 2) (by omega) (by decide); rw [mS2_2] at q; exact q)]
        refine M.if_gt (tgt := 162) rfl (qI (by omega)) (by decide) (fun h149 => ?_) (fun h149 => ?_)
        · skip
          refine M.run 3 (pc' := 165) (lv' := [some (vr o), some (vi ((s : Nat) : Int)), some (vi ((49 + 7 * (24 * s + 0) : Nat) : Int)), some (vi (gR (D.2.1 s) 0 0)), some (vi (((gR (D.2.1 s) 0 1).toNat : Nat) : Int)), some (vi 0)]) (st' := [vi ((49 + 7 * (24 * s + 0) : Nat) : Int), vi ((s : Nat) : Int), vr o]) rfl ?_
          refine M.callV (eX11_startTimer l G o am u a0 b0 (mS2 X a0 (u 23) s (gR (D.2.1 s) 0) (mS1 s D)) _ ht hd17 (by omega)  s hs2 (49 + 7 * (24 * s + 0)) (by omega) X hX) cv_X11_375 cd_X11_startTimer rfl (st := []) rfl (isM_o hM12) (by decide) (by decide) rfl (Nat.zero_le _) (Nat.zero_le _) ⟨_, _, hM12, hR17, hF12, hB12⟩ (fun r47 w48 q49 => ?_)
          obtain ⟨q49r, a46, b46, hM46, hR46, hF46, hB46⟩ := q49
          rw [q49r]
          have hd46 : Dok (n + 31) (mTimer X a0 s (mS2 X a0 (u 23) s (gR (D.2.1 s) 0) (mS1 s D))) := Dok_timer ht hd17 hs2
          have es46 : (mTimer X a0 s (mS2 X a0 (u 23) s (gR (D.2.1 s) 0) (mS1 s D))).1 = (mTimer X a0 s (mS2 X a0 (u 23) s (gR (D.2.1 s) 0) (mS1 s D))).1 := rfl
          have eD51 : mS3 X a0 s (gR (D.2.1 s) 0) (mS2 X a0 (u 23) s (gR (D.2.1 s) 0) (mS1 s D)) = (mTimer X a0 s (mS2 X a0 (u 23) s (gR (D.2.1 s) 0) (mS1 s D))) := if_pos (Or.inl (And.intro h138 h149))
          have hR51 : Rp a46 (mS3 X a0 s (gR (D.2.1 s) 0) (mS2 X a0 (u 23) s (gR (D.2.1 s) 0) (mS1 s D))) := by rw [eD51]; exact hR46
          have hd51 : Dok (n + 31) (mS3 X a0 s (gR (D.2.1 s) 0) (mS2 X a0 (u 23) s (gR (D.2.1 s) 0) (mS1 s D))) := by rw [eD51]; exact hd46
          have hs3 : 0 < (((mS3 X a0 s (gR (D.2.1 s) 0) (mS2 X a0 (u 23) s (gR (D.2.1 s) 0) (mS1 s D)))).2.1 s).length := by rw [mS3_2]; exact hs2.2
          refine M.run 3 (pc' := 171) (lv' := [some (vr o), some (vi ((s : Nat) : Int)), some (vi ((49 + 7 * (24 * s + 0) : Nat) : Int)), some (vi (gR (D.2.1 s) 0 0)), some (vi (((gR (D.2.1 s) 0 1).toNat : Nat) : Int)), some (vi 0)]) (st' := [vi 0, vi ((s : Nat) : Int), vr o]) rfl ?_
          refine M.callV (eX11_takeOut l G o am u a0 b0 (mS3 X a0 s (gR (D.2.1 s) 0) (mS2 X a0 (u 23) s (gR (D.2.1 s) 0) (mS1 s D))) _ ht hd51 (by omega)  s hs.1 0 hs3) cv_X11_301 cd_X11_takeOut rfl (st := []) rfl (isM_o hM46) (by decide) (by decide) rfl (Nat.zero_le _) (Nat.zero_le _) ⟨_, _, hM46, hR51, hF46, hB46⟩ (fun r53 w54 q55 => ?_)
          obtain ⟨q55r, a52, b52, hM52, hR52, hF52, hB52⟩ := q55
          rw [q55r]
          have hd52 : Dok (n + 31) (((mS3 X a0 s (gR (D.2.1 s) 0) (mS2 X a0 (u 23) s (gR (D.2.1 s) 0) (mS1 s D))).1, lsS (mS3 X a0 s (gR (D.2.1 s) 0) (mS2 X a0 (u 23) s (gR (D.2.1 s) 0) (mS1 s D))).2.1 s (((mS3 X a0 s (gR (D.2.1 s) 0) (mS2 X a0 (u 23) s (gR (D.2.1 s) 0) (mS1 s D))).2.1 s).eraseIdx 0), (mS3 X a0 s (gR (D.2.1 s) 0) (mS2 X a0 (u 23) s (gR (D.2.1 s) 0) (mS1 s D))).2.2)) := Dok_takeO hd51
          have es52 : (((mS3 X a0 s (gR (D.2.1 s) 0) (mS2 X a0 (u 23) s (gR (D.2.1 s) 0) (mS1 s D))).1, lsS (mS3 X a0 s (gR (D.2.1 s) 0) (mS2 X a0 (u 23) s (gR (D.2.1 s) 0) (mS1 s D))).2.1 s (((mS3 X a0 s (gR (D.2.1 s) 0) (mS2 X a0 (u 23) s (gR (D.2.1 s) 0) (mS1 s D))).2.1 s).eraseIdx 0), (mS3 X a0 s (gR (D.2.1 s) 0) (mS2 X a0 (u 23) s (gR (D.2.1 s) 0) (mS1 s D))).2.2)).1 = (mS3 X a0 s (gR (D.2.1 s) 0) (mS2 X a0 (u 23) s (gR (D.2.1 s) 0) (mS1 s D))).1 := rfl
          exact M.vret rfl (Nat.zero_le _) (Nat.zero_le _) ⟨rfl, _, _, hM52, hR52, hF52, hB52⟩
        · skip
          refine M.run 2 (pc' := 154) (lv' := [some (vr o), some (vi ((s : Nat) : Int)), some (vi ((49 + 7 * (24 * s + 0) : Nat) : Int)), some (vi (gR (D.2.1 s) 0 0)), some (vi (((gR (D.2.1 s) 0 1).toNat : Nat) : Int)), some (vi 0)]) (st' := [vi 1, vi (gR (D.2.1 s) 0 0)]) rfl ?_
          refine M.icmp_eq (tgt := 162) rfl (qI (by omega)) (qI (by decide)) (by decide) (fun h154 => ?_) (fun h154 => ?_)
          · skip
            refine M.run 3 (pc' := 165) (lv' := [some (vr o), some (vi ((s : Nat) : Int)), some (vi ((49 + 7 * (24 * s + 0) : Nat) : Int)), some (vi (gR (D.2.1 s) 0 0)), some (vi (((gR (D.2.1 s) 0 1).toNat : Nat) : Int)), some (vi 0)]) (st' := [vi ((49 + 7 * (24 * s + 0) : Nat) : Int), vi ((s : Nat) : Int), vr o]) rfl ?_
            refine M.callV (eX11_startTimer l G o am u a0 b0 (mS2 X a0 (u 23) s (gR (D.2.1 s) 0) (mS1 s D)) _ ht hd17 (by omega)  s hs2 (49 + 7 * (24 * s + 0)) (by omega) X hX) cv_X11_375 cd_X11_startTimer rfl (st := []) rfl (isM_o hM12) (by decide) (by decide) rfl (Nat.zero_le _) (Nat.zero_le _) ⟨_, _, hM12, hR17, hF12, hB12⟩ (fun r58 w59 q60 => ?_)
            obtain ⟨q60r, a57, b57, hM57, hR57, hF57, hB57⟩ := q60
            rw [q60r]
            have hd57 : Dok (n + 31) (mTimer X a0 s (mS2 X a0 (u 23) s (gR (D.2.1 s) 0) (mS1 s D))) := Dok_timer ht hd17 hs2
            have es57 : (mTimer X a0 s (mS2 X a0 (u 23) s (gR (D.2.1 s) 0) (mS1 s D))).1 = (mTimer X a0 s (mS2 X a0 (u 23) s (gR (D.2.1 s) 0) (mS1 s D))).1 := rfl
            have eD62 : mS3 X a0 s (gR (D.2.1 s) 0) (mS2 X a0 (u 23) s (gR (D.2.1 s) 0) (mS1 s D)) = (mTimer X a0 s (mS2 X a0 (u 23) s (gR (D.2.1 s) 0) (mS1 s D))) := if_pos (Or.inr (Or.inl h154))
            have hR62 : Rp a57 (mS3 X a0 s (gR (D.2.1 s) 0) (mS2 X a0 (u 23) s (gR (D.2.1 s) 0) (mS1 s D))) := by rw [eD62]; exact hR57
            have hd62 : Dok (n + 31) (mS3 X a0 s (gR (D.2.1 s) 0) (mS2 X a0 (u 23) s (gR (D.2.1 s) 0) (mS1 s D))) := by rw [eD62]; exact hd57
            have hs3 : 0 < (((mS3 X a0 s (gR (D.2.1 s) 0) (mS2 X a0 (u 23) s (gR (D.2.1 s) 0) (mS1 s D)))).2.1 s).length := by rw [mS3_2]; exact hs2.2
            refine M.run 3 (pc' := 171) (lv' := [some (vr o), some (vi ((s : Nat) : Int)), some (vi ((49 + 7 * (24 * s + 0) : Nat) : Int)), some (vi (gR (D.2.1 s) 0 0)), some (vi (((gR (D.2.1 s) 0 1).toNat : Nat) : Int)), some (vi 0)]) (st' := [vi 0, vi ((s : Nat) : Int), vr o]) rfl ?_
            refine M.callV (eX11_takeOut l G o am u a0 b0 (mS3 X a0 s (gR (D.2.1 s) 0) (mS2 X a0 (u 23) s (gR (D.2.1 s) 0) (mS1 s D))) _ ht hd62 (by omega)  s hs.1 0 hs3) cv_X11_301 cd_X11_takeOut rfl (st := []) rfl (isM_o hM57) (by decide) (by decide) rfl (Nat.zero_le _) (Nat.zero_le _) ⟨_, _, hM57, hR62, hF57, hB57⟩ (fun r64 w65 q66 => ?_)
            obtain ⟨q66r, a63, b63, hM63, hR63, hF63, hB63⟩ := q66
            rw [q66r]
            have hd63 : Dok (n + 31) (((mS3 X a0 s (gR (D.2.1 s) 0) (mS2 X a0 (u 23) s (gR (D.2.1 s) 0) (mS1 s D))).1, lsS (mS3 X a0 s (gR (D.2.1 s) 0) (mS2 X a0 (u 23) s (gR (D.2.1 s) 0) (mS1 s D))).2.1 s (((mS3 X a0 s (gR (D.2.1 s) 0) (mS2 X a0 (u 23) s (gR (D.2.1 s) 0) (mS1 s D))).2.1 s).eraseIdx 0), (mS3 X a0 s (gR (D.2.1 s) 0) (mS2 X a0 (u 23) s (gR (D.2.1 s) 0) (mS1 s D))).2.2)) := Dok_takeO hd62
            have es63 : (((mS3 X a0 s (gR (D.2.1 s) 0) (mS2 X a0 (u 23) s (gR (D.2.1 s) 0) (mS1 s D))).1, lsS (mS3 X a0 s (gR (D.2.1 s) 0) (mS2 X a0 (u 23) s (gR (D.2.1 s) 0) (mS1 s D))).2.1 s (((mS3 X a0 s (gR (D.2.1 s) 0) (mS2 X a0 (u 23) s (gR (D.2.1 s) 0) (mS1 s D))).2.1 s).eraseIdx 0), (mS3 X a0 s (gR (D.2.1 s) 0) (mS2 X a0 (u 23) s (gR (D.2.1 s) 0) (mS1 s D))).2.2)).1 = (mS3 X a0 s (gR (D.2.1 s) 0) (mS2 X a0 (u 23) s (gR (D.2.1 s) 0) (mS1 s D))).1 := rfl
            exact M.vret rfl (Nat.zero_le _) (Nat.zero_le _) ⟨rfl, _, _, hM63, hR63, hF63, hB63⟩
          · skip
            refine M.run 2 (pc' := 159) (lv' := [some (vr o), some (vi ((s : Nat) : Int)), some (vi ((49 + 7 * (24 * s + 0) : Nat) : Int)), some (vi (gR (D.2.1 s) 0 0)), some (vi (((gR (D.2.1 s) 0 1).toNat : Nat) : Int)), some (vi 0)]) (st' := [vi 3, vi (gR (D.2.1 s) 0 0)]) rfl ?_
            refine M.icmp_ne (tgt := 168) rfl (qI (by omega)) (qI (by decide)) (by decide) (fun h159 => ?_) (fun h159 => ?_)
            · skip
              have eD68 : mS3 X a0 s (gR (D.2.1 s) 0) (mS2 X a0 (u 23) s (gR (D.2.1 s) 0) (mS1 s D)) = (mS2 X a0 (u 23) s (gR (D.2.1 s) 0) (mS1 s D)) := if_neg (by omega)
              have hR68 : Rp a12 (mS3 X a0 s (gR (D.2.1 s) 0) (mS2 X a0 (u 23) s (gR (D.2.1 s) 0) (mS1 s D))) := by rw [eD68]; exact hR17
              have hd68 : Dok (n + 31) (mS3 X a0 s (gR (D.2.1 s) 0) (mS2 X a0 (u 23) s (gR (D.2.1 s) 0) (mS1 s D))) := by rw [eD68]; exact hd17
              have hs3 : 0 < (((mS3 X a0 s (gR (D.2.1 s) 0) (mS2 X a0 (u 23) s (gR (D.2.1 s) 0) (mS1 s D)))).2.1 s).length := by rw [mS3_2]; exact hs2.2
              refine M.run 3 (pc' := 171) (lv' := [some (vr o), some (vi ((s : Nat) : Int)), some (vi ((49 + 7 * (24 * s + 0) : Nat) : Int)), some (vi (gR (D.2.1 s) 0 0)), some (vi (((gR (D.2.1 s) 0 1).toNat : Nat) : Int)), some (vi 0)]) (st' := [vi 0, vi ((s : Nat) : Int), vr o]) rfl ?_
              refine M.callV (eX11_takeOut l G o am u a0 b0 (mS3 X a0 s (gR (D.2.1 s) 0) (mS2 X a0 (u 23) s (gR (D.2.1 s) 0) (mS1 s D))) _ ht hd68 (by omega)  s hs.1 0 hs3) cv_X11_301 cd_X11_takeOut rfl (st := []) rfl (isM_o hM12) (by decide) (by decide) rfl (Nat.zero_le _) (Nat.zero_le _) ⟨_, _, hM12, hR68, hF12, hB12⟩ (fun r70 w71 q72 => ?_)
              obtain ⟨q72r, a69, b69, hM69, hR69, hF69, hB69⟩ := q72
              rw [q72r]
              have hd69 : Dok (n + 31) (((mS3 X a0 s (gR (D.2.1 s) 0) (mS2 X a0 (u 23) s (gR (D.2.1 s) 0) (mS1 s D))).1, lsS (mS3 X a0 s (gR (D.2.1 s) 0) (mS2 X a0 (u 23) s (gR (D.2.1 s) 0) (mS1 s D))).2.1 s (((mS3 X a0 s (gR (D.2.1 s) 0) (mS2 X a0 (u 23) s (gR (D.2.1 s) 0) (mS1 s D))).2.1 s).eraseIdx 0), (mS3 X a0 s (gR (D.2.1 s) 0) (mS2 X a0 (u 23) s (gR (D.2.1 s) 0) (mS1 s D))).2.2)) := Dok_takeO hd68
              have es69 : (((mS3 X a0 s (gR (D.2.1 s) 0) (mS2 X a0 (u 23) s (gR (D.2.1 s) 0) (mS1 s D))).1, lsS (mS3 X a0 s (gR (D.2.1 s) 0) (mS2 X a0 (u 23) s (gR (D.2.1 s) 0) (mS1 s D))).2.1 s (((mS3 X a0 s (gR (D.2.1 s) 0) (mS2 X a0 (u 23) s (gR (D.2.1 s) 0) (mS1 s D))).2.1 s).eraseIdx 0), (mS3 X a0 s (gR (D.2.1 s) 0) (mS2 X a0 (u 23) s (gR (D.2.1 s) 0) (mS1 s D))).2.2)).1 = (mS3 X a0 s (gR (D.2.1 s) 0) (mS2 X a0 (u 23) s (gR (D.2.1 s) 0) (mS1 s D))).1 := rfl
              exact M.vret rfl (Nat.zero_le _) (Nat.zero_le _) ⟨rfl, _, _, hM69, hR69, hF69, hB69⟩
            · skip
              refine M.run 3 (pc' := 165) (lv' := [some (vr o), some (vi ((s : Nat) : Int)), some (vi ((49 + 7 * (24 * s + 0) : Nat) : Int)), some (vi (gR (D.2.1 s) 0 0)), some (vi (((gR (D.2.1 s) 0 1).toNat : Nat) : Int)), some (vi 0)]) (st' := [vi ((49 + 7 * (24 * s + 0) : Nat) : Int), vi ((s : Nat) : Int), vr o]) rfl ?_
              refine M.callV (eX11_startTimer l G o am u a0 b0 (mS2 X a0 (u 23) s (gR (D.2.1 s) 0) (mS1 s D)) _ ht hd17 (by omega)  s hs2 (49 + 7 * (24 * s + 0)) (by omega) X hX) cv_X11_375 cd_X11_startTimer rfl (st := []) rfl (isM_o hM12) (by decide) (by decide) rfl (Nat.zero_le _) (Nat.zero_le _) ⟨_, _, hM12, hR17, hF12, hB12⟩ (fun r75 w76 q77 => ?_)
              obtain ⟨q77r, a74, b74, hM74, hR74, hF74, hB74⟩ := q77
              rw [q77r]
              have hd74 : Dok (n + 31) (mTimer X a0 s (mS2 X a0 (u 23) s (gR (D.2.1 s) 0) (mS1 s D))) := Dok_timer ht hd17 hs2
              have es74 : (mTimer X a0 s (mS2 X a0 (u 23) s (gR (D.2.1 s) 0) (mS1 s D))).1 = (mTimer X a0 s (mS2 X a0 (u 23) s (gR (D.2.1 s) 0) (mS1 s D))).1 := rfl
              have eD79 : mS3 X a0 s (gR (D.2.1 s) 0) (mS2 X a0 (u 23) s (gR (D.2.1 s) 0) (mS1 s D)) = (mTimer X a0 s (mS2 X a0 (u 23) s (gR (D.2.1 s) 0) (mS1 s D))) := if_pos (Or.inr (Or.inr h159))
              have hR79 : Rp a74 (mS3 X a0 s (gR (D.2.1 s) 0) (mS2 X a0 (u 23) s (gR (D.2.1 s) 0) (mS1 s D))) := by rw [eD79]; exact hR74
              have hd79 : Dok (n + 31) (mS3 X a0 s (gR (D.2.1 s) 0) (mS2 X a0 (u 23) s (gR (D.2.1 s) 0) (mS1 s D))) := by rw [eD79]; exact hd74
              have hs3 : 0 < (((mS3 X a0 s (gR (D.2.1 s) 0) (mS2 X a0 (u 23) s (gR (D.2.1 s) 0) (mS1 s D)))).2.1 s).length := by rw [mS3_2]; exact hs2.2
              refine M.run 3 (pc' := 171) (lv' := [some (vr o), some (vi ((s : Nat) : Int)), some (vi ((49 + 7 * (24 * s + 0) : Nat) : Int)), some (vi (gR (D.2.1 s) 0 0)), some (vi (((gR (D.2.1 s) 0 1).toNat : Nat) : Int)), some (vi 0)]) (st' := [vi 0, vi ((s : Nat) : Int), vr o]) rfl ?_
              refine M.callV (eX11_takeOut l G o am u a0 b0 (mS3 X a0 s (gR (D.2.1 s) 0) (mS2 X a0 (u 23) s (gR (D.2.1 s) 0) (mS1 s D))) _ ht hd79 (by omega)  s hs.1 0 hs3) cv_X11_301 cd_X11_takeOut rfl (st := []) rfl (isM_o hM74) (by decide) (by decide) rfl (Nat.zero_le _) (Nat.zero_le _) ⟨_, _, hM74, hR79, hF74, hB74⟩ (fun r81 w82 q83 => ?_)
              obtain ⟨q83r, a80, b80, hM80, hR80, hF80, hB80⟩ := q83
              rw [q83r]
              have hd80 : Dok (n + 31) (((mS3 X a0 s (gR (D.2.1 s) 0) (mS2 X a0 (u 23) s (gR (D.2.1 s) 0) (mS1 s D))).1, lsS (mS3 X a0 s (gR (D.2.1 s) 0) (mS2 X a0 (u 23) s (gR (D.2.1 s) 0) (mS1 s D))).2.1 s (((mS3 X a0 s (gR (D.2.1 s) 0) (mS2 X a0 (u 23) s (gR (D.2.1 s) 0) (mS1 s D))).2.1 s).eraseIdx 0), (mS3 X a0 s (gR (D.2.1 s) 0) (mS2 X a0 (u 23) s (gR (D.2.1 s) 0) (mS1 s D))).2.2)) := Dok_takeO hd79
              have es80 : (((mS3 X a0 s (gR (D.2.1 s) 0) (mS2 X a0 (u 23) s (gR (D.2.1 s) 0) (mS1 s D))).1, lsS (mS3 X a0 s (gR (D.2.1 s) 0) (mS2 X a0 (u 23) s (gR (D.2.1 s) 0) (mS1 s D))).2.1 s (((mS3 X a0 s (gR (D.2.1 s) 0) (mS2 X a0 (u 23) s (gR (D.2.1 s) 0) (mS1 s D))).2.1 s).eraseIdx 0), (mS3 X a0 s (gR (D.2.1 s) 0) (mS2 X a0 (u 23) s (gR (D.2.1 s) 0) (mS1 s D))).2.2)).1 = (mS3 X a0 s (gR (D.2.1 s) 0) (mS2 X a0 (u 23) s (gR (D.2.1 s) 0) (mS1 s D))).1 := rfl
              exact M.vret rfl (Nat.zero_le _) (Nat.zero_le _) ⟨rfl, _, _, hM80, hR80, hF80, hB80⟩
    · skip
      refine M.run 2 (pc' := 88) (lv' := [some (vr o), some (vi ((s : Nat) : Int)), some (vi ((49 + 7 * (24 * s + 0) : Nat) : Int)), some (vi (gR (D.2.1 s) 0 0)), some (vi (((gR (D.2.1 s) 0 1).toNat : Nat) : Int)), some (vi 0)]) (st' := [vi 10, vr o]) rfl ?_
      refine M.callV (eX11_drawnBy l G o am u a0 b0 (mS1 s D) _ ht hd11 (by omega)  ) cv_X11_365 cd_X11_drawnBy rfl (st := []) rfl (isM_o hM9) (by decide) (by decide) rfl (Nat.zero_le _) (Nat.zero_le _) ⟨_, _, hM9, hR11, hF10, hB⟩ (fun r86 w87 q88 => ?_)
      obtain ⟨q88r, a85, b85, hM85, hR85, hF85, hB85⟩ := q88
      rw [q88r]
      have hd85 : Dok (n + 31) (mAnew (mS1 s D)) := Dok_anew hd11
      have es85 : (mAnew (mS1 s D)).1 = (mAnew (mS1 s D)).1 := rfl
      have hdw := tm_b (x := (mS1 s D).1 19) (m := 10) (Dok_x hd11).1 (by decide)
      refine M.run 2 (pc' := 93) (lv' := [some (vr o), some (vi ((s : Nat) : Int)), some (vi ((49 + 7 * (24 * s + 0) : Nat) : Int)), some (vi (gR (D.2.1 s) 0 0)), some (vi (((gR (D.2.1 s) 0 1).toNat : Nat) : Int)), some (vi 0)]) (st' := [vr o, vr o, vi (((mS1 s D).1 19).tmod 10)]) rfl ?_
      refine M.get fl_X11_7 rfl (isM_o hM85) (kf := 0) (v := vr (am 0)) rfl ?_
      refine M.run 1 (pc' := 97) (lv' := [some (vr o), some (vi ((s : Nat) : Int)), some (vi ((49 + 7 * (24 * s + 0) : Nat) : Int)), some (vi (gR (D.2.1 s) 0 0)), some (vi (((gR (D.2.1 s) 0 1).toNat : Nat) : Int)), some (vi 0)]) (st' := [vi 2, vr (am 0), vr o, vi (((mS1 s D).1 19).tmod 10)]) rfl ?_
      refine M.ialdN (2) rfl (isM_a hM85) (by decide) (by decide) ?_
      rw [show a85 2 = a0 2 from hF85 2 (Or.inl (by decide))]
      refine M.run 3 (pc' := 103) (lv' := [some (vr o), some (vi ((s : Nat) : Int)), some (vi ((49 + 7 * (24 * s + 0) : Nat) : Int)), some (vi (gR (D.2.1 s) 0 0)), some (vi (((gR (D.2.1 s) 0 1).toNat : Nat) : Int)), some (vi 0)]) (st' := [vi 0, vi (((gR (D.2.1 s) 0 1).toNat : Nat) : Int), vi (gR (D.2.1 s) 0 0), vi (a0 2), vr o, vi (((mS1 s D).1 19).tmod 10)]) rfl ?_
      refine M.callV (eX11_losesBy l G o am u a0 b0 (mAnew (mS1 s D)) _ ht hd85 (by omega)  (a0 2) (gR (D.2.1 s) 0 0) (((gR (D.2.1 s) 0 1).toNat : Nat) : Int) 0 (by omega) (by omega) (by omega) X hX.1) cv_X11_368 cd_X11_losesBy rfl (st := [vi (((mS1 s D).1 19).tmod 10)]) rfl (isM_o hM85) (by decide) (by decide) rfl (Nat.zero_le _) (Nat.zero_le _) ⟨_, _, hM85, hR85, hF85, hB85⟩ (fun r91 w92 q93 => ?_)
      obtain ⟨q93r, a90, b90, hM90, hR90, hF90, hB90⟩ := q93
      rw [q93r]
      have hd90 : Dok (n + 31) ((mAnew (mS1 s D))) := hd85
      have es90 : ((mAnew (mS1 s D))).1 = (mAnew (mS1 s D)).1 := rfl
      have hlo := mLossA_b (X := X) (a := stA a0 (mAnew (mS1 s D))) (z := (a0 2)) (kind := (gR (D.2.1 s) 0 0)) (c := (((gR (D.2.1 s) 0 1).toNat : Nat) : Int)) (x := 0)
      refine M.icmp_ge (tgt := 131) rfl (qI (by omega)) (qI (by omega)) (by decide) (fun h106 => ?_) (fun h106 => ?_)
      · skip
        refine M.run 3 (pc' := 134) (lv' := [some (vr o), some (vi ((s : Nat) : Int)), some (vi ((49 + 7 * (24 * s + 0) : Nat) : Int)), some (vi (gR (D.2.1 s) 0 0)), some (vi (((gR (D.2.1 s) 0 1).toNat : Nat) : Int)), some (vi 0)]) (st' := [vi ((49 + 7 * (24 * s + 0) : Nat) : Int), vi ((s : Nat) : Int), vr o]) rfl ?_
        refine M.callV (eX11_fly l G o am u a0 b0 ((mAnew (mS1 s D))) _ ht hd90 (by omega)  s ⟨hs.1, hs.2, hfl⟩ (49 + 7 * (24 * s + 0)) (by omega)) cv_X11_372 cd_X11_fly rfl (st := []) rfl (isM_o hM90) (by decide) (by decide) rfl (Nat.zero_le _) (Nat.zero_le _) ⟨_, _, hM90, hR90, hF90, hB90⟩ (fun r96 w97 q98 => ?_)
        obtain ⟨q98r, a95, b95, hM95, hR95, hF95, hB95⟩ := q98
        rw [q98r]
        have hd95 : Dok (n + 31) (mFly a0 s ((mAnew (mS1 s D)))) := Dok_fly ht hd90 hs hfl
        have es95 : (mFly a0 s ((mAnew (mS1 s D)))).1 = (mAnew (mS1 s D)).1 := es90
        have eD100 : mS2 X a0 (u 23) s (gR (D.2.1 s) 0) (mS1 s D) = (mFly a0 s ((mAnew (mS1 s D)))) := by unfold mS2; rw [eBy, if_pos h82, if_neg (Int.not_lt.mpr h106)]
        have hR100 : Rp a95 (mS2 X a0 (u 23) s (gR (D.2.1 s) 0) (mS1 s D)) := by rw [eD100]; exact hR95
        have hd100 : Dok (n + 31) (mS2 X a0 (u 23) s (gR (D.2.1 s) 0) (mS1 s D)) := by rw [eD100]; exact hd95
        have hs2 : s < 2 ∧ 0 < (((mS2 X a0 (u 23) s (gR (D.2.1 s) 0) (mS1 s D))).2.1 s).length := ⟨hs.1, by rw [mS2_2]; exact hs.2⟩
        refine M.run 1 (pc' := 138) (lv' := [some (vr o), some (vi ((s : Nat) : Int)), some (vi ((49 + 7 * (24 * s + 0) : Nat) : Int)), some (vi (gR (D.2.1 s) 0 0)), some (vi (((gR (D.2.1 s) 0 1).toNat : Nat) : Int)), some (vi 0)]) (st' := [vi (gR (D.2.1 s) 0 0)]) rfl ?_
        refine M.if_ne (tgt := 152) rfl (qI (by omega)) (by decide) (fun h138 => ?_) (fun h138 => ?_)
        · skip
          refine M.run 2 (pc' := 154) (lv' := [some (vr o), some (vi ((s : Nat) : Int)), some (vi ((49 + 7 * (24 * s + 0) : Nat) : Int)), some (vi (gR (D.2.1 s) 0 0)), some (vi (((gR (D.2.1 s) 0 1).toNat : Nat) : Int)), some (vi 0)]) (st' := [vi 1, vi (gR (D.2.1 s) 0 0)]) rfl ?_
          refine M.icmp_eq (tgt := 162) rfl (qI (by omega)) (qI (by decide)) (by decide) (fun h154 => ?_) (fun h154 => ?_)
          · skip
            refine M.run 3 (pc' := 165) (lv' := [some (vr o), some (vi ((s : Nat) : Int)), some (vi ((49 + 7 * (24 * s + 0) : Nat) : Int)), some (vi (gR (D.2.1 s) 0 0)), some (vi (((gR (D.2.1 s) 0 1).toNat : Nat) : Int)), some (vi 0)]) (st' := [vi ((49 + 7 * (24 * s + 0) : Nat) : Int), vi ((s : Nat) : Int), vr o]) rfl ?_
            refine M.callV (eX11_startTimer l G o am u a0 b0 (mS2 X a0 (u 23) s (gR (D.2.1 s) 0) (mS1 s D)) _ ht hd100 (by omega)  s hs2 (49 + 7 * (24 * s + 0)) (by omega) X hX) cv_X11_375 cd_X11_startTimer rfl (st := []) rfl (isM_o hM95) (by decide) (by decide) rfl (Nat.zero_le _) (Nat.zero_le _) ⟨_, _, hM95, hR100, hF95, hB95⟩ (fun r102 w103 q104 => ?_)
            obtain ⟨q104r, a101, b101, hM101, hR101, hF101, hB101⟩ := q104
            rw [q104r]
            have hd101 : Dok (n + 31) (mTimer X a0 s (mS2 X a0 (u 23) s (gR (D.2.1 s) 0) (mS1 s D))) := Dok_timer ht hd100 hs2
            have es101 : (mTimer X a0 s (mS2 X a0 (u 23) s (gR (D.2.1 s) 0) (mS1 s D))).1 = (mTimer X a0 s (mS2 X a0 (u 23) s (gR (D.2.1 s) 0) (mS1 s D))).1 := rfl
            have eD106 : mS3 X a0 s (gR (D.2.1 s) 0) (mS2 X a0 (u 23) s (gR (D.2.1 s) 0) (mS1 s D)) = (mTimer X a0 s (mS2 X a0 (u 23) s (gR (D.2.1 s) 0) (mS1 s D))) := if_pos (Or.inr (Or.inl h154))
            have hR106 : Rp a101 (mS3 X a0 s (gR (D.2.1 s) 0) (mS2 X a0 (u 23) s (gR (D.2.1 s) 0) (mS1 s D))) := by rw [eD106]; exact hR101
            have hd106 : Dok (n + 31) (mS3 X a0 s (gR (D.2.1 s) 0) (mS2 X a0 (u 23) s (gR (D.2.1 s) 0) (mS1 s D))) := by rw [eD106]; exact hd101
            have hs3 : 0 < (((mS3 X a0 s (gR (D.2.1 s) 0) (mS2 X a0 (u 23) s (gR (D.2.1 s) 0) (mS1 s D)))).2.1 s).length := by rw [mS3_2]; exact hs2.2
            refine M.run 3 (pc' := 171) (lv' := [some (vr o), some (vi ((s : Nat) : Int)), some (vi ((49 + 7 * (24 * s + 0) : Nat) : Int)), some (vi (gR (D.2.1 s) 0 0)), some (vi (((gR (D.2.1 s) 0 1).toNat : Nat) : Int)), some (vi 0)]) (st' := [vi 0, vi ((s : Nat) : Int), vr o]) rfl ?_
            refine M.callV (eX11_takeOut l G o am u a0 b0 (mS3 X a0 s (gR (D.2.1 s) 0) (mS2 X a0 (u 23) s (gR (D.2.1 s) 0) (mS1 s D))) _ ht hd106 (by omega)  s hs.1 0 hs3) cv_X11_301 cd_X11_takeOut rfl (st := []) rfl (isM_o hM101) (by decide) (by decide) rfl (Nat.zero_le _) (Nat.zero_le _) ⟨_, _, hM101, hR106, hF101, hB101⟩ (fun r108 w109 q110 => ?_)
            obtain ⟨q110r, a107, b107, hM107, hR107, hF107, hB107⟩ := q110
            rw [q110r]
            have hd107 : Dok (n + 31) (((mS3 X a0 s (gR (D.2.1 s) 0) (mS2 X a0 (u 23) s (gR (D.2.1 s) 0) (mS1 s D))).1, lsS (mS3 X a0 s (gR (D.2.1 s) 0) (mS2 X a0 (u 23) s (gR (D.2.1 s) 0) (mS1 s D))).2.1 s (((mS3 X a0 s (gR (D.2.1 s) 0) (mS2 X a0 (u 23) s (gR (D.2.1 s) 0) (mS1 s D))).2.1 s).eraseIdx 0), (mS3 X a0 s (gR (D.2.1 s) 0) (mS2 X a0 (u 23) s (gR (D.2.1 s) 0) (mS1 s D))).2.2)) := Dok_takeO hd106
            have es107 : (((mS3 X a0 s (gR (D.2.1 s) 0) (mS2 X a0 (u 23) s (gR (D.2.1 s) 0) (mS1 s D))).1, lsS (mS3 X a0 s (gR (D.2.1 s) 0) (mS2 X a0 (u 23) s (gR (D.2.1 s) 0) (mS1 s D))).2.1 s (((mS3 X a0 s (gR (D.2.1 s) 0) (mS2 X a0 (u 23) s (gR (D.2.1 s) 0) (mS1 s D))).2.1 s).eraseIdx 0), (mS3 X a0 s (gR (D.2.1 s) 0) (mS2 X a0 (u 23) s (gR (D.2.1 s) 0) (mS1 s D))).2.2)).1 = (mS3 X a0 s (gR (D.2.1 s) 0) (mS2 X a0 (u 23) s (gR (D.2.1 s) 0) (mS1 s D))).1 := rfl
            exact M.vret rfl (Nat.zero_le _) (Nat.zero_le _) ⟨rfl, _, _, hM107, hR107, hF107, hB107⟩
          · skip
            refine M.run 2 (pc' := 159) (lv' := [some (vr o), some (vi ((s : Nat) : Int)), some (vi ((49 + 7 * (24 * s + 0) : Nat) : Int)), some (vi (gR (D.2.1 s) 0 0)), some (vi (((gR (D.2.1 s) 0 1).toNat : Nat) : Int)), some (vi 0)]) (st' := [vi 3, vi (gR (D.2.1 s) 0 0)]) rfl ?_
            refine M.icmp_ne (tgt := 168) rfl (qI (by omega)) (qI (by decide)) (by decide) (fun h159 => ?_) (fun h159 => ?_)
            · skip
              have eD112 : mS3 X a0 s (gR (D.2.1 s) 0) (mS2 X a0 (u 23) s (gR (D.2.1 s) 0) (mS1 s D)) = (mS2 X a0 (u 23) s (gR (D.2.1 s) 0) (mS1 s D)) := if_neg (by omega)
              have hR112 : Rp a95 (mS3 X a0 s (gR (D.2.1 s) 0) (mS2 X a0 (u 23) s (gR (D.2.1 s) 0) (mS1 s D))) := by rw [eD112]; exact hR100
              have hd112 : Dok (n + 31) (mS3 X a0 s (gR (D.2.1 s) 0) (mS2 X a0 (u 23) s (gR (D.2.1 s) 0) (mS1 s D))) := by rw [eD112]; exact hd100
              have hs3 : 0 < (((mS3 X a0 s (gR (D.2.1 s) 0) (mS2 X a0 (u 23) s (gR (D.2.1 s) 0) (mS1 s D)))).2.1 s).length := by rw [mS3_2]; exact hs2.2
              refine M.run 3 (pc' := 171) (lv' := [some (vr o), some (vi ((s : Nat) : Int)), some (vi ((49 + 7 * (24 * s + 0) : Nat) : Int)), some (vi (gR (D.2.1 s) 0 0)), some (vi (((gR (D.2.1 s) 0 1).toNat : Nat) : Int)), some (vi 0)]) (st' := [vi 0, vi ((s : Nat) : Int), vr o]) rfl ?_
              refine M.callV (eX11_takeOut l G o am u a0 b0 (mS3 X a0 s (gR (D.2.1 s) 0) (mS2 X a0 (u 23) s (gR (D.2.1 s) 0) (mS1 s D))) _ ht hd112 (by omega)  s hs.1 0 hs3) cv_X11_301 cd_X11_takeOut rfl (st := []) rfl (isM_o hM95) (by decide) (by decide) rfl (Nat.zero_le _) (Nat.zero_le _) ⟨_, _, hM95, hR112, hF95, hB95⟩ (fun r114 w115 q116 => ?_)
              obtain ⟨q116r, a113, b113, hM113, hR113, hF113, hB113⟩ := q116
              rw [q116r]
              have hd113 : Dok (n + 31) (((mS3 X a0 s (gR (D.2.1 s) 0) (mS2 X a0 (u 23) s (gR (D.2.1 s) 0) (mS1 s D))).1, lsS (mS3 X a0 s (gR (D.2.1 s) 0) (mS2 X a0 (u 23) s (gR (D.2.1 s) 0) (mS1 s D))).2.1 s (((mS3 X a0 s (gR (D.2.1 s) 0) (mS2 X a0 (u 23) s (gR (D.2.1 s) 0) (mS1 s D))).2.1 s).eraseIdx 0), (mS3 X a0 s (gR (D.2.1 s) 0) (mS2 X a0 (u 23) s (gR (D.2.1 s) 0) (mS1 s D))).2.2)) := Dok_takeO hd112
              have es113 : (((mS3 X a0 s (gR (D.2.1 s) 0) (mS2 X a0 (u 23) s (gR (D.2.1 s) 0) (mS1 s D))).1, lsS (mS3 X a0 s (gR (D.2.1 s) 0) (mS2 X a0 (u 23) s (gR (D.2.1 s) 0) (mS1 s D))).2.1 s (((mS3 X a0 s (gR (D.2.1 s) 0) (mS2 X a0 (u 23) s (gR (D.2.1 s) 0) (mS1 s D))).2.1 s).eraseIdx 0), (mS3 X a0 s (gR (D.2.1 s) 0) (mS2 X a0 (u 23) s (gR (D.2.1 s) 0) (mS1 s D))).2.2)).1 = (mS3 X a0 s (gR (D.2.1 s) 0) (mS2 X a0 (u 23) s (gR (D.2.1 s) 0) (mS1 s D))).1 := rfl
              exact M.vret rfl (Nat.zero_le _) (Nat.zero_le _) ⟨rfl, _, _, hM113, hR113, hF113, hB113⟩
            · skip
              refine M.run 3 (pc' := 165) (lv' := [some (vr o), some (vi ((s : Nat) : Int)), some (vi ((49 + 7 * (24 * s + 0) : Nat) : Int)), some (vi (gR (D.2.1 s) 0 0)), some (vi (((gR (D.2.1 s) 0 1).toNat : Nat) : Int)), some (vi 0)]) (st' := [vi ((49 + 7 * (24 * s + 0) : Nat) : Int), vi ((s : Nat) : Int), vr o]) rfl ?_
              refine M.callV (eX11_startTimer l G o am u a0 b0 (mS2 X a0 (u 23) s (gR (D.2.1 s) 0) (mS1 s D)) _ ht hd100 (by omega)  s hs2 (49 + 7 * (24 * s + 0)) (by omega) X hX) cv_X11_375 cd_X11_startTimer rfl (st := []) rfl (isM_o hM95) (by decide) (by decide) rfl (Nat.zero_le _) (Nat.zero_le _) ⟨_, _, hM95, hR100, hF95, hB95⟩ (fun r119 w120 q121 => ?_)
              obtain ⟨q121r, a118, b118, hM118, hR118, hF118, hB118⟩ := q121
              rw [q121r]
              have hd118 : Dok (n + 31) (mTimer X a0 s (mS2 X a0 (u 23) s (gR (D.2.1 s) 0) (mS1 s D))) := Dok_timer ht hd100 hs2
              have es118 : (mTimer X a0 s (mS2 X a0 (u 23) s (gR (D.2.1 s) 0) (mS1 s D))).1 = (mTimer X a0 s (mS2 X a0 (u 23) s (gR (D.2.1 s) 0) (mS1 s D))).1 := rfl
              have eD123 : mS3 X a0 s (gR (D.2.1 s) 0) (mS2 X a0 (u 23) s (gR (D.2.1 s) 0) (mS1 s D)) = (mTimer X a0 s (mS2 X a0 (u 23) s (gR (D.2.1 s) 0) (mS1 s D))) := if_pos (Or.inr (Or.inr h159))
              have hR123 : Rp a118 (mS3 X a0 s (gR (D.2.1 s) 0) (mS2 X a0 (u 23) s (gR (D.2.1 s) 0) (mS1 s D))) := by rw [eD123]; exact hR118
              have hd123 : Dok (n + 31) (mS3 X a0 s (gR (D.2.1 s) 0) (mS2 X a0 (u 23) s (gR (D.2.1 s) 0) (mS1 s D))) := by rw [eD123]; exact hd118
              have hs3 : 0 < (((mS3 X a0 s (gR (D.2.1 s) 0) (mS2 X a0 (u 23) s (gR (D.2.1 s) 0) (mS1 s D)))).2.1 s).length := by rw [mS3_2]; exact hs2.2
              refine M.run 3 (pc' := 171) (lv' := [some (vr o), some (vi ((s : Nat) : Int)), some (vi ((49 + 7 * (24 * s + 0) : Nat) : Int)), some (vi (gR (D.2.1 s) 0 0)), some (vi (((gR (D.2.1 s) 0 1).toNat : Nat) : Int)), some (vi 0)]) (st' := [vi 0, vi ((s : Nat) : Int), vr o]) rfl ?_
              refine M.callV (eX11_takeOut l G o am u a0 b0 (mS3 X a0 s (gR (D.2.1 s) 0) (mS2 X a0 (u 23) s (gR (D.2.1 s) 0) (mS1 s D))) _ ht hd123 (by omega)  s hs.1 0 hs3) cv_X11_301 cd_X11_takeOut rfl (st := []) rfl (isM_o hM118) (by decide) (by decide) rfl (Nat.zero_le _) (Nat.zero_le _) ⟨_, _, hM118, hR123, hF118, hB118⟩ (fun r125 w126 q127 => ?_)
              obtain ⟨q127r, a124, b124, hM124, hR124, hF124, hB124⟩ := q127
              rw [q127r]
              have hd124 : Dok (n + 31) (((mS3 X a0 s (gR (D.2.1 s) 0) (mS2 X a0 (u 23) s (gR (D.2.1 s) 0) (mS1 s D))).1, lsS (mS3 X a0 s (gR (D.2.1 s) 0) (mS2 X a0 (u 23) s (gR (D.2.1 s) 0) (mS1 s D))).2.1 s (((mS3 X a0 s (gR (D.2.1 s) 0) (mS2 X a0 (u 23) s (gR (D.2.1 s) 0) (mS1 s D))).2.1 s).eraseIdx 0), (mS3 X a0 s (gR (D.2.1 s) 0) (mS2 X a0 (u 23) s (gR (D.2.1 s) 0) (mS1 s D))).2.2)) := Dok_takeO hd123
              have es124 : (((mS3 X a0 s (gR (D.2.1 s) 0) (mS2 X a0 (u 23) s (gR (D.2.1 s) 0) (mS1 s D))).1, lsS (mS3 X a0 s (gR (D.2.1 s) 0) (mS2 X a0 (u 23) s (gR (D.2.1 s) 0) (mS1 s D))).2.1 s (((mS3 X a0 s (gR (D.2.1 s) 0) (mS2 X a0 (u 23) s (gR (D.2.1 s) 0) (mS1 s D))).2.1 s).eraseIdx 0), (mS3 X a0 s (gR (D.2.1 s) 0) (mS2 X a0 (u 23) s (gR (D.2.1 s) 0) (mS1 s D))).2.2)).1 = (mS3 X a0 s (gR (D.2.1 s) 0) (mS2 X a0 (u 23) s (gR (D.2.1 s) 0) (mS1 s D))).1 := rfl
              exact M.vret rfl (Nat.zero_le _) (Nat.zero_le _) ⟨rfl, _, _, hM124, hR124, hF124, hB124⟩
        · skip
          refine M.run 1 (pc' := 142) (lv' := [some (vr o), some (vi ((s : Nat) : Int)), some (vi ((49 + 7 * (24 * s + 0) : Nat) : Int)), some (vi (gR (D.2.1 s) 0 0)), some (vi (((gR (D.2.1 s) 0 1).toNat : Nat) : Int)), some (vi 0)]) (st' := [vr o]) rfl ?_
          refine M.get fl_X11_7 rfl (isM_o hM95) (kf := 0) (v := vr (am 0)) rfl ?_
          refine M.run 3 (pc' := 148) (lv' := [some (vr o), some (vi ((s : Nat) : Int)), some (vi ((49 + 7 * (24 * s + 0) : Nat) : Int)), some (vi (gR (D.2.1 s) 0 0)), some (vi (((gR (D.2.1 s) 0 1).toNat : Nat) : Int)), some (vi 0)]) (st' := [vi (((49 + 7 * (24 * s + 0) : Nat) : Int) + 2), vr (am 0)]) rfl ?_
          refine M.ialdN (49 + 7 * (24 * s + 0) + 2) rfl (isM_a hM95) (by omega) (by decide) ?_
          rw [show a95 (49 + 7 * (24 * s + 0) + 2) = gR (D.2.1 s) 0 2 from (show _ = gR (D.2.1 s) 0 2 from by have q := Rp_lx hR100 hs2.1 hs2.2 (x := (49 + 7 * (24 * s + 0))) (k := 2) (by omega) (by decide); rw [mS2_2] at q; exact q)]
          refine M.if_gt (tgt := 162) rfl (qI (by omega)) (by decide) (fun h149 => ?_) (fun h149 => ?_)
          · skip
            refine M.run 3 (pc' := 165) (lv' := [some (vr o), some (vi ((s : Nat) : Int)), some (vi ((49 + 7 * (24 * s + 0) : Nat) : Int)), some (vi (gR (D.2.1 s) 0 0)), some (vi (((gR (D.2.1 s) 0 1).toNat : Nat) : Int)), some (vi 0)]) (st' := [vi ((49 + 7 * (24 * s + 0) : Nat) : Int), vi ((s : Nat) : Int), vr o]) rfl ?_
            refine M.callV (eX11_startTimer l G o am u a0 b0 (mS2 X a0 (u 23) s (gR (D.2.1 s) 0) (mS1 s D)) _ ht hd100 (by omega)  s hs2 (49 + 7 * (24 * s + 0)) (by omega) X hX) cv_X11_375 cd_X11_startTimer rfl (st := []) rfl (isM_o hM95) (by decide) (by decide) rfl (Nat.zero_le _) (Nat.zero_le _) ⟨_, _, hM95, hR100, hF95, hB95⟩ (fun r130 w131 q132 => ?_)
            obtain ⟨q132r, a129, b129, hM129, hR129, hF129, hB129⟩ := q132
            rw [q132r]
            have hd129 : Dok (n + 31) (mTimer X a0 s (mS2 X a0 (u 23) s (gR (D.2.1 s) 0) (mS1 s D))) := Dok_timer ht hd100 hs2
            have es129 : (mTimer X a0 s (mS2 X a0 (u 23) s (gR (D.2.1 s) 0) (mS1 s D))).1 = (mTimer X a0 s (mS2 X a0 (u 23) s (gR (D.2.1 s) 0) (mS1 s D))).1 := rfl
            have eD134 : mS3 X a0 s (gR (D.2.1 s) 0) (mS2 X a0 (u 23) s (gR (D.2.1 s) 0) (mS1 s D)) = (mTimer X a0 s (mS2 X a0 (u 23) s (gR (D.2.1 s) 0) (mS1 s D))) := if_pos (Or.inl (And.intro h138 h149))
            have hR134 : Rp a129 (mS3 X a0 s (gR (D.2.1 s) 0) (mS2 X a0 (u 23) s (gR (D.2.1 s) 0) (mS1 s D))) := by rw [eD134]; exact hR129
            have hd134 : Dok (n + 31) (mS3 X a0 s (gR (D.2.1 s) 0) (mS2 X a0 (u 23) s (gR (D.2.1 s) 0) (mS1 s D))) := by rw [eD134]; exact hd129
            have hs3 : 0 < (((mS3 X a0 s (gR (D.2.1 s) 0) (mS2 X a0 (u 23) s (gR (D.2.1 s) 0) (mS1 s D)))).2.1 s).length := by rw [mS3_2]; exact hs2.2
            refine M.run 3 (pc' := 171) (lv' := [some (vr o), some (vi ((s : Nat) : Int)), some (vi ((49 + 7 * (24 * s + 0) : Nat) : Int)), some (vi (gR (D.2.1 s) 0 0)), some (vi (((gR (D.2.1 s) 0 1).toNat : Nat) : Int)), some (vi 0)]) (st' := [vi 0, vi ((s : Nat) : Int), vr o]) rfl ?_
            refine M.callV (eX11_takeOut l G o am u a0 b0 (mS3 X a0 s (gR (D.2.1 s) 0) (mS2 X a0 (u 23) s (gR (D.2.1 s) 0) (mS1 s D))) _ ht hd134 (by omega)  s hs.1 0 hs3) cv_X11_301 cd_X11_takeOut rfl (st := []) rfl (isM_o hM129) (by decide) (by decide) rfl (Nat.zero_le _) (Nat.zero_le _) ⟨_, _, hM129, hR134, hF129, hB129⟩ (fun r136 w137 q138 => ?_)
            obtain ⟨q138r, a135, b135, hM135, hR135, hF135, hB135⟩ := q138
            rw [q138r]
            have hd135 : Dok (n + 31) (((mS3 X a0 s (gR (D.2.1 s) 0) (mS2 X a0 (u 23) s (gR (D.2.1 s) 0) (mS1 s D))).1, lsS (mS3 X a0 s (gR (D.2.1 s) 0) (mS2 X a0 (u 23) s (gR (D.2.1 s) 0) (mS1 s D))).2.1 s (((mS3 X a0 s (gR (D.2.1 s) 0) (mS2 X a0 (u 23) s (gR (D.2.1 s) 0) (mS1 s D))).2.1 s).eraseIdx 0), (mS3 X a0 s (gR (D.2.1 s) 0) (mS2 X a0 (u 23) s (gR (D.2.1 s) 0) (mS1 s D))).2.2)) := Dok_takeO hd134
            have es135 : (((mS3 X a0 s (gR (D.2.1 s) 0) (mS2 X a0 (u 23) s (gR (D.2.1 s) 0) (mS1 s D))).1, lsS (mS3 X a0 s (gR (D.2.1 s) 0) (mS2 X a0 (u 23) s (gR (D.2.1 s) 0) (mS1 s D))).2.1 s (((mS3 X a0 s (gR (D.2.1 s) 0) (mS2 X a0 (u 23) s (gR (D.2.1 s) 0) (mS1 s D))).2.1 s).eraseIdx 0), (mS3 X a0 s (gR (D.2.1 s) 0) (mS2 X a0 (u 23) s (gR (D.2.1 s) 0) (mS1 s D))).2.2)).1 = (mS3 X a0 s (gR (D.2.1 s) 0) (mS2 X a0 (u 23) s (gR (D.2.1 s) 0) (mS1 s D))).1 := rfl
            exact M.vret rfl (Nat.zero_le _) (Nat.zero_le _) ⟨rfl, _, _, hM135, hR135, hF135, hB135⟩
          · skip
            refine M.run 2 (pc' := 154) (lv' := [some (vr o), some (vi ((s : Nat) : Int)), some (vi ((49 + 7 * (24 * s + 0) : Nat) : Int)), some (vi (gR (D.2.1 s) 0 0)), some (vi (((gR (D.2.1 s) 0 1).toNat : Nat) : Int)), some (vi 0)]) (st' := [vi 1, vi (gR (D.2.1 s) 0 0)]) rfl ?_
            refine M.icmp_eq (tgt := 162) rfl (qI (by omega)) (qI (by decide)) (by decide) (fun h154 => ?_) (fun h154 => ?_)
            · skip
              refine M.run 3 (pc' := 165) (lv' := [some (vr o), some (vi ((s : Nat) : Int)), some (vi ((49 + 7 * (24 * s + 0) : Nat) : Int)), some (vi (gR (D.2.1 s) 0 0)), some (vi (((gR (D.2.1 s) 0 1).toNat : Nat) : Int)), some (vi 0)]) (st' := [vi ((49 + 7 * (24 * s + 0) : Nat) : Int), vi ((s : Nat) : Int), vr o]) rfl ?_
              refine M.callV (eX11_startTimer l G o am u a0 b0 (mS2 X a0 (u 23) s (gR (D.2.1 s) 0) (mS1 s D)) _ ht hd100 (by omega)  s hs2 (49 + 7 * (24 * s + 0)) (by omega) X hX) cv_X11_375 cd_X11_startTimer rfl (st := []) rfl (isM_o hM95) (by decide) (by decide) rfl (Nat.zero_le _) (Nat.zero_le _) ⟨_, _, hM95, hR100, hF95, hB95⟩ (fun r141 w142 q143 => ?_)
              obtain ⟨q143r, a140, b140, hM140, hR140, hF140, hB140⟩ := q143
              rw [q143r]
              have hd140 : Dok (n + 31) (mTimer X a0 s (mS2 X a0 (u 23) s (gR (D.2.1 s) 0) (mS1 s D))) := Dok_timer ht hd100 hs2
              have es140 : (mTimer X a0 s (mS2 X a0 (u 23) s (gR (D.2.1 s) 0) (mS1 s D))).1 = (mTimer X a0 s (mS2 X a0 (u 23) s (gR (D.2.1 s) 0) (mS1 s D))).1 := rfl
              have eD145 : mS3 X a0 s (gR (D.2.1 s) 0) (mS2 X a0 (u 23) s (gR (D.2.1 s) 0) (mS1 s D)) = (mTimer X a0 s (mS2 X a0 (u 23) s (gR (D.2.1 s) 0) (mS1 s D))) := if_pos (Or.inr (Or.inl h154))
              have hR145 : Rp a140 (mS3 X a0 s (gR (D.2.1 s) 0) (mS2 X a0 (u 23) s (gR (D.2.1 s) 0) (mS1 s D))) := by rw [eD145]; exact hR140
              have hd145 : Dok (n + 31) (mS3 X a0 s (gR (D.2.1 s) 0) (mS2 X a0 (u 23) s (gR (D.2.1 s) 0) (mS1 s D))) := by rw [eD145]; exact hd140
              have hs3 : 0 < (((mS3 X a0 s (gR (D.2.1 s) 0) (mS2 X a0 (u 23) s (gR (D.2.1 s) 0) (mS1 s D)))).2.1 s).length := by rw [mS3_2]; exact hs2.2
              refine M.run 3 (pc' := 171) (lv' := [some (vr o), some (vi ((s : Nat) : Int)), some (vi ((49 + 7 * (24 * s + 0) : Nat) : Int)), some (vi (gR (D.2.1 s) 0 0)), some (vi (((gR (D.2.1 s) 0 1).toNat : Nat) : Int)), some (vi 0)]) (st' := [vi 0, vi ((s : Nat) : Int), vr o]) rfl ?_
              refine M.callV (eX11_takeOut l G o am u a0 b0 (mS3 X a0 s (gR (D.2.1 s) 0) (mS2 X a0 (u 23) s (gR (D.2.1 s) 0) (mS1 s D))) _ ht hd145 (by omega)  s hs.1 0 hs3) cv_X11_301 cd_X11_takeOut rfl (st := []) rfl (isM_o hM140) (by decide) (by decide) rfl (Nat.zero_le _) (Nat.zero_le _) ⟨_, _, hM140, hR145, hF140, hB140⟩ (fun r147 w148 q149 => ?_)
              obtain ⟨q149r, a146, b146, hM146, hR146, hF146, hB146⟩ := q149
              rw [q149r]
              have hd146 : Dok (n + 31) (((mS3 X a0 s (gR (D.2.1 s) 0) (mS2 X a0 (u 23) s (gR (D.2.1 s) 0) (mS1 s D))).1, lsS (mS3 X a0 s (gR (D.2.1 s) 0) (mS2 X a0 (u 23) s (gR (D.2.1 s) 0) (mS1 s D))).2.1 s (((mS3 X a0 s (gR (D.2.1 s) 0) (mS2 X a0 (u 23) s (gR (D.2.1 s) 0) (mS1 s D))).2.1 s).eraseIdx 0), (mS3 X a0 s (gR (D.2.1 s) 0) (mS2 X a0 (u 23) s (gR (D.2.1 s) 0) (mS1 s D))).2.2)) := Dok_takeO hd145
              have es146 : (((mS3 X a0 s (gR (D.2.1 s) 0) (mS2 X a0 (u 23) s (gR (D.2.1 s) 0) (mS1 s D))).1, lsS (mS3 X a0 s (gR (D.2.1 s) 0) (mS2 X a0 (u 23) s (gR (D.2.1 s) 0) (mS1 s D))).2.1 s (((mS3 X a0 s (gR (D.2.1 s) 0) (mS2 X a0 (u 23) s (gR (D.2.1 s) 0) (mS1 s D))).2.1 s).eraseIdx 0), (mS3 X a0 s (gR (D.2.1 s) 0) (mS2 X a0 (u 23) s (gR (D.2.1 s) 0) (mS1 s D))).2.2)).1 = (mS3 X a0 s (gR (D.2.1 s) 0) (mS2 X a0 (u 23) s (gR (D.2.1 s) 0) (mS1 s D))).1 := rfl
              exact M.vret rfl (Nat.zero_le _) (Nat.zero_le _) ⟨rfl, _, _, hM146, hR146, hF146, hB146⟩
            · skip
              refine M.run 2 (pc' := 159) (lv' := [some (vr o), some (vi ((s : Nat) : Int)), some (vi ((49 + 7 * (24 * s + 0) : Nat) : Int)), some (vi (gR (D.2.1 s) 0 0)), some (vi (((gR (D.2.1 s) 0 1).toNat : Nat) : Int)), some (vi 0)]) (st' := [vi 3, vi (gR (D.2.1 s) 0 0)]) rfl ?_
              refine M.icmp_ne (tgt := 168) rfl (qI (by omega)) (qI (by decide)) (by decide) (fun h159 => ?_) (fun h159 => ?_)
              · skip
                have eD151 : mS3 X a0 s (gR (D.2.1 s) 0) (mS2 X a0 (u 23) s (gR (D.2.1 s) 0) (mS1 s D)) = (mS2 X a0 (u 23) s (gR (D.2.1 s) 0) (mS1 s D)) := if_neg (by omega)
                have hR151 : Rp a95 (mS3 X a0 s (gR (D.2.1 s) 0) (mS2 X a0 (u 23) s (gR (D.2.1 s) 0) (mS1 s D))) := by rw [eD151]; exact hR100
                have hd151 : Dok (n + 31) (mS3 X a0 s (gR (D.2.1 s) 0) (mS2 X a0 (u 23) s (gR (D.2.1 s) 0) (mS1 s D))) := by rw [eD151]; exact hd100
                have hs3 : 0 < (((mS3 X a0 s (gR (D.2.1 s) 0) (mS2 X a0 (u 23) s (gR (D.2.1 s) 0) (mS1 s D)))).2.1 s).length := by rw [mS3_2]; exact hs2.2
                refine M.run 3 (pc' := 171) (lv' := [some (vr o), some (vi ((s : Nat) : Int)), some (vi ((49 + 7 * (24 * s + 0) : Nat) : Int)), some (vi (gR (D.2.1 s) 0 0)), some (vi (((gR (D.2.1 s) 0 1).toNat : Nat) : Int)), some (vi 0)]) (st' := [vi 0, vi ((s : Nat) : Int), vr o]) rfl ?_
                refine M.callV (eX11_takeOut l G o am u a0 b0 (mS3 X a0 s (gR (D.2.1 s) 0) (mS2 X a0 (u 23) s (gR (D.2.1 s) 0) (mS1 s D))) _ ht hd151 (by omega)  s hs.1 0 hs3) cv_X11_301 cd_X11_takeOut rfl (st := []) rfl (isM_o hM95) (by decide) (by decide) rfl (Nat.zero_le _) (Nat.zero_le _) ⟨_, _, hM95, hR151, hF95, hB95⟩ (fun r153 w154 q155 => ?_)
                obtain ⟨q155r, a152, b152, hM152, hR152, hF152, hB152⟩ := q155
                rw [q155r]
                have hd152 : Dok (n + 31) (((mS3 X a0 s (gR (D.2.1 s) 0) (mS2 X a0 (u 23) s (gR (D.2.1 s) 0) (mS1 s D))).1, lsS (mS3 X a0 s (gR (D.2.1 s) 0) (mS2 X a0 (u 23) s (gR (D.2.1 s) 0) (mS1 s D))).2.1 s (((mS3 X a0 s (gR (D.2.1 s) 0) (mS2 X a0 (u 23) s (gR (D.2.1 s) 0) (mS1 s D))).2.1 s).eraseIdx 0), (mS3 X a0 s (gR (D.2.1 s) 0) (mS2 X a0 (u 23) s (gR (D.2.1 s) 0) (mS1 s D))).2.2)) := Dok_takeO hd151
                have es152 : (((mS3 X a0 s (gR (D.2.1 s) 0) (mS2 X a0 (u 23) s (gR (D.2.1 s) 0) (mS1 s D))).1, lsS (mS3 X a0 s (gR (D.2.1 s) 0) (mS2 X a0 (u 23) s (gR (D.2.1 s) 0) (mS1 s D))).2.1 s (((mS3 X a0 s (gR (D.2.1 s) 0) (mS2 X a0 (u 23) s (gR (D.2.1 s) 0) (mS1 s D))).2.1 s).eraseIdx 0), (mS3 X a0 s (gR (D.2.1 s) 0) (mS2 X a0 (u 23) s (gR (D.2.1 s) 0) (mS1 s D))).2.2)).1 = (mS3 X a0 s (gR (D.2.1 s) 0) (mS2 X a0 (u 23) s (gR (D.2.1 s) 0) (mS1 s D))).1 := rfl
                exact M.vret rfl (Nat.zero_le _) (Nat.zero_le _) ⟨rfl, _, _, hM152, hR152, hF152, hB152⟩
              · skip
                refine M.run 3 (pc' := 165) (lv' := [some (vr o), some (vi ((s : Nat) : Int)), some (vi ((49 + 7 * (24 * s + 0) : Nat) : Int)), some (vi (gR (D.2.1 s) 0 0)), some (vi (((gR (D.2.1 s) 0 1).toNat : Nat) : Int)), some (vi 0)]) (st' := [vi ((49 + 7 * (24 * s + 0) : Nat) : Int), vi ((s : Nat) : Int), vr o]) rfl ?_
                refine M.callV (eX11_startTimer l G o am u a0 b0 (mS2 X a0 (u 23) s (gR (D.2.1 s) 0) (mS1 s D)) _ ht hd100 (by omega)  s hs2 (49 + 7 * (24 * s + 0)) (by omega) X hX) cv_X11_375 cd_X11_startTimer rfl (st := []) rfl (isM_o hM95) (by decide) (by decide) rfl (Nat.zero_le _) (Nat.zero_le _) ⟨_, _, hM95, hR100, hF95, hB95⟩ (fun r158 w159 q160 => ?_)
                obtain ⟨q160r, a157, b157, hM157, hR157, hF157, hB157⟩ := q160
                rw [q160r]
                have hd157 : Dok (n + 31) (mTimer X a0 s (mS2 X a0 (u 23) s (gR (D.2.1 s) 0) (mS1 s D))) := Dok_timer ht hd100 hs2
                have es157 : (mTimer X a0 s (mS2 X a0 (u 23) s (gR (D.2.1 s) 0) (mS1 s D))).1 = (mTimer X a0 s (mS2 X a0 (u 23) s (gR (D.2.1 s) 0) (mS1 s D))).1 := rfl
                have eD162 : mS3 X a0 s (gR (D.2.1 s) 0) (mS2 X a0 (u 23) s (gR (D.2.1 s) 0) (mS1 s D)) = (mTimer X a0 s (mS2 X a0 (u 23) s (gR (D.2.1 s) 0) (mS1 s D))) := if_pos (Or.inr (Or.inr h159))
                have hR162 : Rp a157 (mS3 X a0 s (gR (D.2.1 s) 0) (mS2 X a0 (u 23) s (gR (D.2.1 s) 0) (mS1 s D))) := by rw [eD162]; exact hR157
                have hd162 : Dok (n + 31) (mS3 X a0 s (gR (D.2.1 s) 0) (mS2 X a0 (u 23) s (gR (D.2.1 s) 0) (mS1 s D))) := by rw [eD162]; exact hd157
                have hs3 : 0 < (((mS3 X a0 s (gR (D.2.1 s) 0) (mS2 X a0 (u 23) s (gR (D.2.1 s) 0) (mS1 s D)))).2.1 s).length := by rw [mS3_2]; exact hs2.2
                refine M.run 3 (pc' := 171) (lv' := [some (vr o), some (vi ((s : Nat) : Int)), some (vi ((49 + 7 * (24 * s + 0) : Nat) : Int)), some (vi (gR (D.2.1 s) 0 0)), some (vi (((gR (D.2.1 s) 0 1).toNat : Nat) : Int)), some (vi 0)]) (st' := [vi 0, vi ((s : Nat) : Int), vr o]) rfl ?_
                refine M.callV (eX11_takeOut l G o am u a0 b0 (mS3 X a0 s (gR (D.2.1 s) 0) (mS2 X a0 (u 23) s (gR (D.2.1 s) 0) (mS1 s D))) _ ht hd162 (by omega)  s hs.1 0 hs3) cv_X11_301 cd_X11_takeOut rfl (st := []) rfl (isM_o hM157) (by decide) (by decide) rfl (Nat.zero_le _) (Nat.zero_le _) ⟨_, _, hM157, hR162, hF157, hB157⟩ (fun r164 w165 q166 => ?_)
                obtain ⟨q166r, a163, b163, hM163, hR163, hF163, hB163⟩ := q166
                rw [q166r]
                have hd163 : Dok (n + 31) (((mS3 X a0 s (gR (D.2.1 s) 0) (mS2 X a0 (u 23) s (gR (D.2.1 s) 0) (mS1 s D))).1, lsS (mS3 X a0 s (gR (D.2.1 s) 0) (mS2 X a0 (u 23) s (gR (D.2.1 s) 0) (mS1 s D))).2.1 s (((mS3 X a0 s (gR (D.2.1 s) 0) (mS2 X a0 (u 23) s (gR (D.2.1 s) 0) (mS1 s D))).2.1 s).eraseIdx 0), (mS3 X a0 s (gR (D.2.1 s) 0) (mS2 X a0 (u 23) s (gR (D.2.1 s) 0) (mS1 s D))).2.2)) := Dok_takeO hd162
                have es163 : (((mS3 X a0 s (gR (D.2.1 s) 0) (mS2 X a0 (u 23) s (gR (D.2.1 s) 0) (mS1 s D))).1, lsS (mS3 X a0 s (gR (D.2.1 s) 0) (mS2 X a0 (u 23) s (gR (D.2.1 s) 0) (mS1 s D))).2.1 s (((mS3 X a0 s (gR (D.2.1 s) 0) (mS2 X a0 (u 23) s (gR (D.2.1 s) 0) (mS1 s D))).2.1 s).eraseIdx 0), (mS3 X a0 s (gR (D.2.1 s) 0) (mS2 X a0 (u 23) s (gR (D.2.1 s) 0) (mS1 s D))).2.2)).1 = (mS3 X a0 s (gR (D.2.1 s) 0) (mS2 X a0 (u 23) s (gR (D.2.1 s) 0) (mS1 s D))).1 := rfl
                exact M.vret rfl (Nat.zero_le _) (Nat.zero_le _) ⟨rfl, _, _, hM163, hR163, hF163, hB163⟩
      · skip
        have hk18x := Dok_clk hd90
        have hk22x := Dok_lost hd90
        have hk22y : (((mAnew (mS1 s D)))).1 22 = D.1 22 := mAn_22.trans mS1_22
        refine M.run 1 (pc' := 110) (lv' := [some (vr o), some (vi ((s : Nat) : Int)), some (vi ((49 + 7 * (24 * s + 0) : Nat) : Int)), some (vi (gR (D.2.1 s) 0 0)), some (vi (((gR (D.2.1 s) 0 1).toNat : Nat) : Int)), some (vi 0)]) (st' := [vr o]) rfl ?_
        refine M.get fl_X11_7 rfl (isM_o hM90) (kf := 0) (v := vr (am 0)) rfl ?_
        refine M.run 2 (pc' := 116) (lv' := [some (vr o), some (vi ((s : Nat) : Int)), some (vi ((49 + 7 * (24 * s + 0) : Nat) : Int)), some (vi (gR (D.2.1 s) 0 0)), some (vi (((gR (D.2.1 s) 0 1).toNat : Nat) : Int)), some (vi 0)]) (st' := [vi 22, vr (am 0), vi 22, vr (am 0)]) rfl ?_
        refine M.ialdN (22) rfl (isM_a hM90) (by decide) (by decide) ?_
        rw [show a90 22 = (mAnew (mS1 s D)).1 22 from (Rp_s hR90 (k := 22) (by decide) (by decide) (by decide)).trans ((congrFun es90 _))]
        refine M.run 2 (pc' := 119) (lv' := [some (vr o), some (vi ((s : Nat) : Int)), some (vi ((49 + 7 * (24 * s + 0) : Nat) : Int)), some (vi (gR (D.2.1 s) 0 0)), some (vi (((gR (D.2.1 s) 0 1).toNat : Nat) : Int)), some (vi 0)]) (st' := [vi (((mAnew (mS1 s D)).1 22) + 1), vi 22, vr (am 0)]) rfl ?_
        refine M.iastN (22) rfl (isM_a hM90) (by decide) (by decide) ?_
        have hM169 := isM_setA hM90 (uN a90 22 (((mAnew (mS1 s D)).1 22) + 1))
        generalize up w92 (am 0) (Ar 0 30042 (uN a90 22 (((mAnew (mS1 s D)).1 22) + 1))) = w168 at hM169 ⊢
        have hR170 : Rp _ (mS 22 (((mAnew (mS1 s D)).1 22) + 1) ((mAnew (mS1 s D)))) := Rp_us hR90 (((mAnew (mS1 s D)).1 22) + 1) (k := 22) (by omega) (by omega) (by omega)
        have hF170 := Fr_u (k := 22) (v := ((mAnew (mS1 s D)).1 22) + 1) hF90 (by omega) (by omega)
        have hd170 := Dok_S (k := 22) (v := ((mAnew (mS1 s D)).1 22) + 1) hd90 (fun _ _ _ => by unfold Shi; (repeat' split) <;> omega)
        have es170 : (mS 22 (((mAnew (mS1 s D)).1 22) + 1) ((mAnew (mS1 s D)))).1 = uN ((mAnew (mS1 s D)).1) 22 (((mAnew (mS1 s D)).1 22) + 1) := by show uN _ _ _ = _; rw [es90]
        refine M.run 4 (pc' := 125) (lv' := [some (vr o), some (vi ((s : Nat) : Int)), some (vi ((49 + 7 * (24 * s + 0) : Nat) : Int)), some (vi (gR (D.2.1 s) 0 0)), some (vi (((gR (D.2.1 s) 0 1).toNat : Nat) : Int)), some (vi 0)]) (st' := [vi (gR (D.2.1 s) 0 0), vi (((gR (D.2.1 s) 0 1).toNat : Nat) : Int), vi 4, vr o]) rfl ?_
        refine M.callV (eX11_writeDown l G o am u a0 b0 (mS 22 (((mAnew (mS1 s D)).1 22) + 1) ((mAnew (mS1 s D)))) _ ht hd170 (by omega)  ((mAnew (mS1 s D)).1 18) (((congrFun es170 _)).trans (uN_o (by omega))) 4 (((gR (D.2.1 s) 0 1).toNat : Nat) : Int) (gR (D.2.1 s) 0 0) (by omega)) cv_X11_321 cd_X11_writeDown rfl (st := []) rfl (isM_o hM169) (by decide) (by decide) rfl (Nat.zero_le _) (Nat.zero_le _) ⟨_, _, hM169, hR170, hF170, hB90⟩ (fun r172 w173 q174 => ?_)
        obtain ⟨q174r, a171, b171, hM171, hR171, hF171, hB171⟩ := q174
        rw [q174r]
        have hd171 : Dok (n + 31) (mNote (rwB ((mAnew (mS1 s D)).1 18) 4 (((gR (D.2.1 s) 0 1).toNat : Nat) : Int) (gR (D.2.1 s) 0 0)) (mS 22 (((mAnew (mS1 s D)).1 22) + 1) ((mAnew (mS1 s D))))) := Dok_note hd170 (bokOk_B (by omega))
        have es171 : (mNote (rwB ((mAnew (mS1 s D)).1 18) 4 (((gR (D.2.1 s) 0 1).toNat : Nat) : Int) (gR (D.2.1 s) 0 0)) (mS 22 (((mAnew (mS1 s D)).1 22) + 1) ((mAnew (mS1 s D))))).1 = uN ((mAnew (mS1 s D)).1) 22 (((mAnew (mS1 s D)).1 22) + 1) := es170
        refine M.run 1 (pc' := 137) (lv' := [some (vr o), some (vi ((s : Nat) : Int)), some (vi ((49 + 7 * (24 * s + 0) : Nat) : Int)), some (vi (gR (D.2.1 s) 0 0)), some (vi (((gR (D.2.1 s) 0 1).toNat : Nat) : Int)), some (vi 0)]) (st' := []) rfl ?_
        have eD176 : mS2 X a0 (u 23) s (gR (D.2.1 s) 0) (mS1 s D) = (mNote (rwB ((mAnew (mS1 s D)).1 18) 4 (((gR (D.2.1 s) 0 1).toNat : Nat) : Int) (gR (D.2.1 s) 0 0)) (mS 22 (((mAnew (mS1 s D)).1 22) + 1) ((mAnew (mS1 s D))))) := by unfold mS2; rw [eBy, if_pos h82, if_pos (Int.not_le.mp h106)]
        have hR176 : Rp a171 (mS2 X a0 (u 23) s (gR (D.2.1 s) 0) (mS1 s D)) := by rw [eD176]; exact hR171
        have hd176 : Dok (n + 31) (mS2 X a0 (u 23) s (gR (D.2.1 s) 0) (mS1 s D)) := by rw [eD176]; exact hd171
        have hs2 : s < 2 ∧ 0 < (((mS2 X a0 (u 23) s (gR (D.2.1 s) 0) (mS1 s D))).2.1 s).length := ⟨hs.1, by rw [mS2_2]; exact hs.2⟩
        refine M.run 1 (pc' := 138) (lv' := [some (vr o), some (vi ((s : Nat) : Int)), some (vi ((49 + 7 * (24 * s + 0) : Nat) : Int)), some (vi (gR (D.2.1 s) 0 0)), some (vi (((gR (D.2.1 s) 0 1).toNat : Nat) : Int)), some (vi 0)]) (st' := [vi (gR (D.2.1 s) 0 0)]) rfl ?_
        refine M.if_ne (tgt := 152) rfl (qI (by omega)) (by decide) (fun h138 => ?_) (fun h138 => ?_)
        · skip
          refine M.run 2 (pc' := 154) (lv' := [some (vr o), some (vi ((s : Nat) : Int)), some (vi ((49 + 7 * (24 * s + 0) : Nat) : Int)), some (vi (gR (D.2.1 s) 0 0)), some (vi (((gR (D.2.1 s) 0 1).toNat : Nat) : Int)), some (vi 0)]) (st' := [vi 1, vi (gR (D.2.1 s) 0 0)]) rfl ?_
          refine M.icmp_eq (tgt := 162) rfl (qI (by omega)) (qI (by decide)) (by decide) (fun h154 => ?_) (fun h154 => ?_)
          · skip
            refine M.run 3 (pc' := 165) (lv' := [some (vr o), some (vi ((s : Nat) : Int)), some (vi ((49 + 7 * (24 * s + 0) : Nat) : Int)), some (vi (gR (D.2.1 s) 0 0)), some (vi (((gR (D.2.1 s) 0 1).toNat : Nat) : Int)), some (vi 0)]) (st' := [vi ((49 + 7 * (24 * s + 0) : Nat) : Int), vi ((s : Nat) : Int), vr o]) rfl ?_
            refine M.callV (eX11_startTimer l G o am u a0 b0 (mS2 X a0 (u 23) s (gR (D.2.1 s) 0) (mS1 s D)) _ ht hd176 (by omega)  s hs2 (49 + 7 * (24 * s + 0)) (by omega) X hX) cv_X11_375 cd_X11_startTimer rfl (st := []) rfl (isM_o hM171) (by decide) (by decide) rfl (Nat.zero_le _) (Nat.zero_le _) ⟨_, _, hM171, hR176, hF171, hB171⟩ (fun r178 w179 q180 => ?_)
            obtain ⟨q180r, a177, b177, hM177, hR177, hF177, hB177⟩ := q180
            rw [q180r]
            have hd177 : Dok (n + 31) (mTimer X a0 s (mS2 X a0 (u 23) s (gR (D.2.1 s) 0) (mS1 s D))) := Dok_timer ht hd176 hs2
            have es177 : (mTimer X a0 s (mS2 X a0 (u 23) s (gR (D.2.1 s) 0) (mS1 s D))).1 = (mTimer X a0 s (mS2 X a0 (u 23) s (gR (D.2.1 s) 0) (mS1 s D))).1 := rfl
            have eD182 : mS3 X a0 s (gR (D.2.1 s) 0) (mS2 X a0 (u 23) s (gR (D.2.1 s) 0) (mS1 s D)) = (mTimer X a0 s (mS2 X a0 (u 23) s (gR (D.2.1 s) 0) (mS1 s D))) := if_pos (Or.inr (Or.inl h154))
            have hR182 : Rp a177 (mS3 X a0 s (gR (D.2.1 s) 0) (mS2 X a0 (u 23) s (gR (D.2.1 s) 0) (mS1 s D))) := by rw [eD182]; exact hR177
            have hd182 : Dok (n + 31) (mS3 X a0 s (gR (D.2.1 s) 0) (mS2 X a0 (u 23) s (gR (D.2.1 s) 0) (mS1 s D))) := by rw [eD182]; exact hd177
            have hs3 : 0 < (((mS3 X a0 s (gR (D.2.1 s) 0) (mS2 X a0 (u 23) s (gR (D.2.1 s) 0) (mS1 s D)))).2.1 s).length := by rw [mS3_2]; exact hs2.2
            refine M.run 3 (pc' := 171) (lv' := [some (vr o), some (vi ((s : Nat) : Int)), some (vi ((49 + 7 * (24 * s + 0) : Nat) : Int)), some (vi (gR (D.2.1 s) 0 0)), some (vi (((gR (D.2.1 s) 0 1).toNat : Nat) : Int)), some (vi 0)]) (st' := [vi 0, vi ((s : Nat) : Int), vr o]) rfl ?_
            refine M.callV (eX11_takeOut l G o am u a0 b0 (mS3 X a0 s (gR (D.2.1 s) 0) (mS2 X a0 (u 23) s (gR (D.2.1 s) 0) (mS1 s D))) _ ht hd182 (by omega)  s hs.1 0 hs3) cv_X11_301 cd_X11_takeOut rfl (st := []) rfl (isM_o hM177) (by decide) (by decide) rfl (Nat.zero_le _) (Nat.zero_le _) ⟨_, _, hM177, hR182, hF177, hB177⟩ (fun r184 w185 q186 => ?_)
            obtain ⟨q186r, a183, b183, hM183, hR183, hF183, hB183⟩ := q186
            rw [q186r]
            have hd183 : Dok (n + 31) (((mS3 X a0 s (gR (D.2.1 s) 0) (mS2 X a0 (u 23) s (gR (D.2.1 s) 0) (mS1 s D))).1, lsS (mS3 X a0 s (gR (D.2.1 s) 0) (mS2 X a0 (u 23) s (gR (D.2.1 s) 0) (mS1 s D))).2.1 s (((mS3 X a0 s (gR (D.2.1 s) 0) (mS2 X a0 (u 23) s (gR (D.2.1 s) 0) (mS1 s D))).2.1 s).eraseIdx 0), (mS3 X a0 s (gR (D.2.1 s) 0) (mS2 X a0 (u 23) s (gR (D.2.1 s) 0) (mS1 s D))).2.2)) := Dok_takeO hd182
            have es183 : (((mS3 X a0 s (gR (D.2.1 s) 0) (mS2 X a0 (u 23) s (gR (D.2.1 s) 0) (mS1 s D))).1, lsS (mS3 X a0 s (gR (D.2.1 s) 0) (mS2 X a0 (u 23) s (gR (D.2.1 s) 0) (mS1 s D))).2.1 s (((mS3 X a0 s (gR (D.2.1 s) 0) (mS2 X a0 (u 23) s (gR (D.2.1 s) 0) (mS1 s D))).2.1 s).eraseIdx 0), (mS3 X a0 s (gR (D.2.1 s) 0) (mS2 X a0 (u 23) s (gR (D.2.1 s) 0) (mS1 s D))).2.2)).1 = (mS3 X a0 s (gR (D.2.1 s) 0) (mS2 X a0 (u 23) s (gR (D.2.1 s) 0) (mS1 s D))).1 := rfl
            exact M.vret rfl (Nat.zero_le _) (Nat.zero_le _) ⟨rfl, _, _, hM183, hR183, hF183, hB183⟩
          · skip
            refine M.run 2 (pc' := 159) (lv' := [some (vr o), some (vi ((s : Nat) : Int)), some (vi ((49 + 7 * (24 * s + 0) : Nat) : Int)), some (vi (gR (D.2.1 s) 0 0)), some (vi (((gR (D.2.1 s) 0 1).toNat : Nat) : Int)), some (vi 0)]) (st' := [vi 3, vi (gR (D.2.1 s) 0 0)]) rfl ?_
            refine M.icmp_ne (tgt := 168) rfl (qI (by omega)) (qI (by decide)) (by decide) (fun h159 => ?_) (fun h159 => ?_)
            · skip
              have eD188 : mS3 X a0 s (gR (D.2.1 s) 0) (mS2 X a0 (u 23) s (gR (D.2.1 s) 0) (mS1 s D)) = (mS2 X a0 (u 23) s (gR (D.2.1 s) 0) (mS1 s D)) := if_neg (by omega)
              have hR188 : Rp a171 (mS3 X a0 s (gR (D.2.1 s) 0) (mS2 X a0 (u 23) s (gR (D.2.1 s) 0) (mS1 s D))) := by rw [eD188]; exact hR176
              have hd188 : Dok (n + 31) (mS3 X a0 s (gR (D.2.1 s) 0) (mS2 X a0 (u 23) s (gR (D.2.1 s) 0) (mS1 s D))) := by rw [eD188]; exact hd176
              have hs3 : 0 < (((mS3 X a0 s (gR (D.2.1 s) 0) (mS2 X a0 (u 23) s (gR (D.2.1 s) 0) (mS1 s D)))).2.1 s).length := by rw [mS3_2]; exact hs2.2
              refine M.run 3 (pc' := 171) (lv' := [some (vr o), some (vi ((s : Nat) : Int)), some (vi ((49 + 7 * (24 * s + 0) : Nat) : Int)), some (vi (gR (D.2.1 s) 0 0)), some (vi (((gR (D.2.1 s) 0 1).toNat : Nat) : Int)), some (vi 0)]) (st' := [vi 0, vi ((s : Nat) : Int), vr o]) rfl ?_
              refine M.callV (eX11_takeOut l G o am u a0 b0 (mS3 X a0 s (gR (D.2.1 s) 0) (mS2 X a0 (u 23) s (gR (D.2.1 s) 0) (mS1 s D))) _ ht hd188 (by omega)  s hs.1 0 hs3) cv_X11_301 cd_X11_takeOut rfl (st := []) rfl (isM_o hM171) (by decide) (by decide) rfl (Nat.zero_le _) (Nat.zero_le _) ⟨_, _, hM171, hR188, hF171, hB171⟩ (fun r190 w191 q192 => ?_)
              obtain ⟨q192r, a189, b189, hM189, hR189, hF189, hB189⟩ := q192
              rw [q192r]
              have hd189 : Dok (n + 31) (((mS3 X a0 s (gR (D.2.1 s) 0) (mS2 X a0 (u 23) s (gR (D.2.1 s) 0) (mS1 s D))).1, lsS (mS3 X a0 s (gR (D.2.1 s) 0) (mS2 X a0 (u 23) s (gR (D.2.1 s) 0) (mS1 s D))).2.1 s (((mS3 X a0 s (gR (D.2.1 s) 0) (mS2 X a0 (u 23) s (gR (D.2.1 s) 0) (mS1 s D))).2.1 s).eraseIdx 0), (mS3 X a0 s (gR (D.2.1 s) 0) (mS2 X a0 (u 23) s (gR (D.2.1 s) 0) (mS1 s D))).2.2)) := Dok_takeO hd188
              have es189 : (((mS3 X a0 s (gR (D.2.1 s) 0) (mS2 X a0 (u 23) s (gR (D.2.1 s) 0) (mS1 s D))).1, lsS (mS3 X a0 s (gR (D.2.1 s) 0) (mS2 X a0 (u 23) s (gR (D.2.1 s) 0) (mS1 s D))).2.1 s (((mS3 X a0 s (gR (D.2.1 s) 0) (mS2 X a0 (u 23) s (gR (D.2.1 s) 0) (mS1 s D))).2.1 s).eraseIdx 0), (mS3 X a0 s (gR (D.2.1 s) 0) (mS2 X a0 (u 23) s (gR (D.2.1 s) 0) (mS1 s D))).2.2)).1 = (mS3 X a0 s (gR (D.2.1 s) 0) (mS2 X a0 (u 23) s (gR (D.2.1 s) 0) (mS1 s D))).1 := rfl
              exact M.vret rfl (Nat.zero_le _) (Nat.zero_le _) ⟨rfl, _, _, hM189, hR189, hF189, hB189⟩
            · skip
              refine M.run 3 (pc' := 165) (lv' := [some (vr o), some (vi ((s : Nat) : Int)), some (vi ((49 + 7 * (24 * s + 0) : Nat) : Int)), some (vi (gR (D.2.1 s) 0 0)), some (vi (((gR (D.2.1 s) 0 1).toNat : Nat) : Int)), some (vi 0)]) (st' := [vi ((49 + 7 * (24 * s + 0) : Nat) : Int), vi ((s : Nat) : Int), vr o]) rfl ?_
              refine M.callV (eX11_startTimer l G o am u a0 b0 (mS2 X a0 (u 23) s (gR (D.2.1 s) 0) (mS1 s D)) _ ht hd176 (by omega)  s hs2 (49 + 7 * (24 * s + 0)) (by omega) X hX) cv_X11_375 cd_X11_startTimer rfl (st := []) rfl (isM_o hM171) (by decide) (by decide) rfl (Nat.zero_le _) (Nat.zero_le _) ⟨_, _, hM171, hR176, hF171, hB171⟩ (fun r195 w196 q197 => ?_)
              obtain ⟨q197r, a194, b194, hM194, hR194, hF194, hB194⟩ := q197
              rw [q197r]
              have hd194 : Dok (n + 31) (mTimer X a0 s (mS2 X a0 (u 23) s (gR (D.2.1 s) 0) (mS1 s D))) := Dok_timer ht hd176 hs2
              have es194 : (mTimer X a0 s (mS2 X a0 (u 23) s (gR (D.2.1 s) 0) (mS1 s D))).1 = (mTimer X a0 s (mS2 X a0 (u 23) s (gR (D.2.1 s) 0) (mS1 s D))).1 := rfl
              have eD199 : mS3 X a0 s (gR (D.2.1 s) 0) (mS2 X a0 (u 23) s (gR (D.2.1 s) 0) (mS1 s D)) = (mTimer X a0 s (mS2 X a0 (u 23) s (gR (D.2.1 s) 0) (mS1 s D))) := if_pos (Or.inr (Or.inr h159))
              have hR199 : Rp a194 (mS3 X a0 s (gR (D.2.1 s) 0) (mS2 X a0 (u 23) s (gR (D.2.1 s) 0) (mS1 s D))) := by rw [eD199]; exact hR194
              have hd199 : Dok (n + 31) (mS3 X a0 s (gR (D.2.1 s) 0) (mS2 X a0 (u 23) s (gR (D.2.1 s) 0) (mS1 s D))) := by rw [eD199]; exact hd194
              have hs3 : 0 < (((mS3 X a0 s (gR (D.2.1 s) 0) (mS2 X a0 (u 23) s (gR (D.2.1 s) 0) (mS1 s D)))).2.1 s).length := by rw [mS3_2]; exact hs2.2
              refine M.run 3 (pc' := 171) (lv' := [some (vr o), some (vi ((s : Nat) : Int)), some (vi ((49 + 7 * (24 * s + 0) : Nat) : Int)), some (vi (gR (D.2.1 s) 0 0)), some (vi (((gR (D.2.1 s) 0 1).toNat : Nat) : Int)), some (vi 0)]) (st' := [vi 0, vi ((s : Nat) : Int), vr o]) rfl ?_
              refine M.callV (eX11_takeOut l G o am u a0 b0 (mS3 X a0 s (gR (D.2.1 s) 0) (mS2 X a0 (u 23) s (gR (D.2.1 s) 0) (mS1 s D))) _ ht hd199 (by omega)  s hs.1 0 hs3) cv_X11_301 cd_X11_takeOut rfl (st := []) rfl (isM_o hM194) (by decide) (by decide) rfl (Nat.zero_le _) (Nat.zero_le _) ⟨_, _, hM194, hR199, hF194, hB194⟩ (fun r201 w202 q203 => ?_)
              obtain ⟨q203r, a200, b200, hM200, hR200, hF200, hB200⟩ := q203
              rw [q203r]
              have hd200 : Dok (n + 31) (((mS3 X a0 s (gR (D.2.1 s) 0) (mS2 X a0 (u 23) s (gR (D.2.1 s) 0) (mS1 s D))).1, lsS (mS3 X a0 s (gR (D.2.1 s) 0) (mS2 X a0 (u 23) s (gR (D.2.1 s) 0) (mS1 s D))).2.1 s (((mS3 X a0 s (gR (D.2.1 s) 0) (mS2 X a0 (u 23) s (gR (D.2.1 s) 0) (mS1 s D))).2.1 s).eraseIdx 0), (mS3 X a0 s (gR (D.2.1 s) 0) (mS2 X a0 (u 23) s (gR (D.2.1 s) 0) (mS1 s D))).2.2)) := Dok_takeO hd199
              have es200 : (((mS3 X a0 s (gR (D.2.1 s) 0) (mS2 X a0 (u 23) s (gR (D.2.1 s) 0) (mS1 s D))).1, lsS (mS3 X a0 s (gR (D.2.1 s) 0) (mS2 X a0 (u 23) s (gR (D.2.1 s) 0) (mS1 s D))).2.1 s (((mS3 X a0 s (gR (D.2.1 s) 0) (mS2 X a0 (u 23) s (gR (D.2.1 s) 0) (mS1 s D))).2.1 s).eraseIdx 0), (mS3 X a0 s (gR (D.2.1 s) 0) (mS2 X a0 (u 23) s (gR (D.2.1 s) 0) (mS1 s D))).2.2)).1 = (mS3 X a0 s (gR (D.2.1 s) 0) (mS2 X a0 (u 23) s (gR (D.2.1 s) 0) (mS1 s D))).1 := rfl
              exact M.vret rfl (Nat.zero_le _) (Nat.zero_le _) ⟨rfl, _, _, hM200, hR200, hF200, hB200⟩
        · skip
          refine M.run 1 (pc' := 142) (lv' := [some (vr o), some (vi ((s : Nat) : Int)), some (vi ((49 + 7 * (24 * s + 0) : Nat) : Int)), some (vi (gR (D.2.1 s) 0 0)), some (vi (((gR (D.2.1 s) 0 1).toNat : Nat) : Int)), some (vi 0)]) (st' := [vr o]) rfl ?_
          refine M.get fl_X11_7 rfl (isM_o hM171) (kf := 0) (v := vr (am 0)) rfl ?_
          refine M.run 3 (pc' := 148) (lv' := [some (vr o), some (vi ((s : Nat) : Int)), some (vi ((49 + 7 * (24 * s + 0) : Nat) : Int)), some (vi (gR (D.2.1 s) 0 0)), some (vi (((gR (D.2.1 s) 0 1).toNat : Nat) : Int)), some (vi 0)]) (st' := [vi (((49 + 7 * (24 * s + 0) : Nat) : Int) + 2), vr (am 0)]) rfl ?_
          refine M.ialdN (49 + 7 * (24 * s + 0) + 2) rfl (isM_a hM171) (by omega) (by decide) ?_
          rw [show a171 (49 + 7 * (24 * s + 0) + 2) = gR (D.2.1 s) 0 2 from (show _ = gR (D.2.1 s) 0 2 from by have q := Rp_lx hR176 hs2.1 hs2.2 (x := (49 + 7 * (24 * s + 0))) (k := 2) (by omega) (by decide); rw [mS2_2] at q; exact q)]
          refine M.if_gt (tgt := 162) rfl (qI (by omega)) (by decide) (fun h149 => ?_) (fun h149 => ?_)
          · skip
            refine M.run 3 (pc' := 165) (lv' := [some (vr o), some (vi ((s : Nat) : Int)), some (vi ((49 + 7 * (24 * s + 0) : Nat) : Int)), some (vi (gR (D.2.1 s) 0 0)), some (vi (((gR (D.2.1 s) 0 1).toNat : Nat) : Int)), some (vi 0)]) (st' := [vi ((49 + 7 * (24 * s + 0) : Nat) : Int), vi ((s : Nat) : Int), vr o]) rfl ?_
            refine M.callV (eX11_startTimer l G o am u a0 b0 (mS2 X a0 (u 23) s (gR (D.2.1 s) 0) (mS1 s D)) _ ht hd176 (by omega)  s hs2 (49 + 7 * (24 * s + 0)) (by omega) X hX) cv_X11_375 cd_X11_startTimer rfl (st := []) rfl (isM_o hM171) (by decide) (by decide) rfl (Nat.zero_le _) (Nat.zero_le _) ⟨_, _, hM171, hR176, hF171, hB171⟩ (fun r206 w207 q208 => ?_)
            obtain ⟨q208r, a205, b205, hM205, hR205, hF205, hB205⟩ := q208
            rw [q208r]
            have hd205 : Dok (n + 31) (mTimer X a0 s (mS2 X a0 (u 23) s (gR (D.2.1 s) 0) (mS1 s D))) := Dok_timer ht hd176 hs2
            have es205 : (mTimer X a0 s (mS2 X a0 (u 23) s (gR (D.2.1 s) 0) (mS1 s D))).1 = (mTimer X a0 s (mS2 X a0 (u 23) s (gR (D.2.1 s) 0) (mS1 s D))).1 := rfl
            have eD210 : mS3 X a0 s (gR (D.2.1 s) 0) (mS2 X a0 (u 23) s (gR (D.2.1 s) 0) (mS1 s D)) = (mTimer X a0 s (mS2 X a0 (u 23) s (gR (D.2.1 s) 0) (mS1 s D))) := if_pos (Or.inl (And.intro h138 h149))
            have hR210 : Rp a205 (mS3 X a0 s (gR (D.2.1 s) 0) (mS2 X a0 (u 23) s (gR (D.2.1 s) 0) (mS1 s D))) := by rw [eD210]; exact hR205
            have hd210 : Dok (n + 31) (mS3 X a0 s (gR (D.2.1 s) 0) (mS2 X a0 (u 23) s (gR (D.2.1 s) 0) (mS1 s D))) := by rw [eD210]; exact hd205
            have hs3 : 0 < (((mS3 X a0 s (gR (D.2.1 s) 0) (mS2 X a0 (u 23) s (gR (D.2.1 s) 0) (mS1 s D)))).2.1 s).length := by rw [mS3_2]; exact hs2.2
            refine M.run 3 (pc' := 171) (lv' := [some (vr o), some (vi ((s : Nat) : Int)), some (vi ((49 + 7 * (24 * s + 0) : Nat) : Int)), some (vi (gR (D.2.1 s) 0 0)), some (vi (((gR (D.2.1 s) 0 1).toNat : Nat) : Int)), some (vi 0)]) (st' := [vi 0, vi ((s : Nat) : Int), vr o]) rfl ?_
            refine M.callV (eX11_takeOut l G o am u a0 b0 (mS3 X a0 s (gR (D.2.1 s) 0) (mS2 X a0 (u 23) s (gR (D.2.1 s) 0) (mS1 s D))) _ ht hd210 (by omega)  s hs.1 0 hs3) cv_X11_301 cd_X11_takeOut rfl (st := []) rfl (isM_o hM205) (by decide) (by decide) rfl (Nat.zero_le _) (Nat.zero_le _) ⟨_, _, hM205, hR210, hF205, hB205⟩ (fun r212 w213 q214 => ?_)
            obtain ⟨q214r, a211, b211, hM211, hR211, hF211, hB211⟩ := q214
            rw [q214r]
            have hd211 : Dok (n + 31) (((mS3 X a0 s (gR (D.2.1 s) 0) (mS2 X a0 (u 23) s (gR (D.2.1 s) 0) (mS1 s D))).1, lsS (mS3 X a0 s (gR (D.2.1 s) 0) (mS2 X a0 (u 23) s (gR (D.2.1 s) 0) (mS1 s D))).2.1 s (((mS3 X a0 s (gR (D.2.1 s) 0) (mS2 X a0 (u 23) s (gR (D.2.1 s) 0) (mS1 s D))).2.1 s).eraseIdx 0), (mS3 X a0 s (gR (D.2.1 s) 0) (mS2 X a0 (u 23) s (gR (D.2.1 s) 0) (mS1 s D))).2.2)) := Dok_takeO hd210
            have es211 : (((mS3 X a0 s (gR (D.2.1 s) 0) (mS2 X a0 (u 23) s (gR (D.2.1 s) 0) (mS1 s D))).1, lsS (mS3 X a0 s (gR (D.2.1 s) 0) (mS2 X a0 (u 23) s (gR (D.2.1 s) 0) (mS1 s D))).2.1 s (((mS3 X a0 s (gR (D.2.1 s) 0) (mS2 X a0 (u 23) s (gR (D.2.1 s) 0) (mS1 s D))).2.1 s).eraseIdx 0), (mS3 X a0 s (gR (D.2.1 s) 0) (mS2 X a0 (u 23) s (gR (D.2.1 s) 0) (mS1 s D))).2.2)).1 = (mS3 X a0 s (gR (D.2.1 s) 0) (mS2 X a0 (u 23) s (gR (D.2.1 s) 0) (mS1 s D))).1 := rfl
            exact M.vret rfl (Nat.zero_le _) (Nat.zero_le _) ⟨rfl, _, _, hM211, hR211, hF211, hB211⟩
          · skip
            refine M.run 2 (pc' := 154) (lv' := [some (vr o), some (vi ((s : Nat) : Int)), some (vi ((49 + 7 * (24 * s + 0) : Nat) : Int)), some (vi (gR (D.2.1 s) 0 0)), some (vi (((gR (D.2.1 s) 0 1).toNat : Nat) : Int)), some (vi 0)]) (st' := [vi 1, vi (gR (D.2.1 s) 0 0)]) rfl ?_
            refine M.icmp_eq (tgt := 162) rfl (qI (by omega)) (qI (by decide)) (by decide) (fun h154 => ?_) (fun h154 => ?_)
            · skip
              refine M.run 3 (pc' := 165) (lv' := [some (vr o), some (vi ((s : Nat) : Int)), some (vi ((49 + 7 * (24 * s + 0) : Nat) : Int)), some (vi (gR (D.2.1 s) 0 0)), some (vi (((gR (D.2.1 s) 0 1).toNat : Nat) : Int)), some (vi 0)]) (st' := [vi ((49 + 7 * (24 * s + 0) : Nat) : Int), vi ((s : Nat) : Int), vr o]) rfl ?_
              refine M.callV (eX11_startTimer l G o am u a0 b0 (mS2 X a0 (u 23) s (gR (D.2.1 s) 0) (mS1 s D)) _ ht hd176 (by omega)  s hs2 (49 + 7 * (24 * s + 0)) (by omega) X hX) cv_X11_375 cd_X11_startTimer rfl (st := []) rfl (isM_o hM171) (by decide) (by decide) rfl (Nat.zero_le _) (Nat.zero_le _) ⟨_, _, hM171, hR176, hF171, hB171⟩ (fun r217 w218 q219 => ?_)
              obtain ⟨q219r, a216, b216, hM216, hR216, hF216, hB216⟩ := q219
              rw [q219r]
              have hd216 : Dok (n + 31) (mTimer X a0 s (mS2 X a0 (u 23) s (gR (D.2.1 s) 0) (mS1 s D))) := Dok_timer ht hd176 hs2
              have es216 : (mTimer X a0 s (mS2 X a0 (u 23) s (gR (D.2.1 s) 0) (mS1 s D))).1 = (mTimer X a0 s (mS2 X a0 (u 23) s (gR (D.2.1 s) 0) (mS1 s D))).1 := rfl
              have eD221 : mS3 X a0 s (gR (D.2.1 s) 0) (mS2 X a0 (u 23) s (gR (D.2.1 s) 0) (mS1 s D)) = (mTimer X a0 s (mS2 X a0 (u 23) s (gR (D.2.1 s) 0) (mS1 s D))) := if_pos (Or.inr (Or.inl h154))
              have hR221 : Rp a216 (mS3 X a0 s (gR (D.2.1 s) 0) (mS2 X a0 (u 23) s (gR (D.2.1 s) 0) (mS1 s D))) := by rw [eD221]; exact hR216
              have hd221 : Dok (n + 31) (mS3 X a0 s (gR (D.2.1 s) 0) (mS2 X a0 (u 23) s (gR (D.2.1 s) 0) (mS1 s D))) := by rw [eD221]; exact hd216
              have hs3 : 0 < (((mS3 X a0 s (gR (D.2.1 s) 0) (mS2 X a0 (u 23) s (gR (D.2.1 s) 0) (mS1 s D)))).2.1 s).length := by rw [mS3_2]; exact hs2.2
              refine M.run 3 (pc' := 171) (lv' := [some (vr o), some (vi ((s : Nat) : Int)), some (vi ((49 + 7 * (24 * s + 0) : Nat) : Int)), some (vi (gR (D.2.1 s) 0 0)), some (vi (((gR (D.2.1 s) 0 1).toNat : Nat) : Int)), some (vi 0)]) (st' := [vi 0, vi ((s : Nat) : Int), vr o]) rfl ?_
              refine M.callV (eX11_takeOut l G o am u a0 b0 (mS3 X a0 s (gR (D.2.1 s) 0) (mS2 X a0 (u 23) s (gR (D.2.1 s) 0) (mS1 s D))) _ ht hd221 (by omega)  s hs.1 0 hs3) cv_X11_301 cd_X11_takeOut rfl (st := []) rfl (isM_o hM216) (by decide) (by decide) rfl (Nat.zero_le _) (Nat.zero_le _) ⟨_, _, hM216, hR221, hF216, hB216⟩ (fun r223 w224 q225 => ?_)
              obtain ⟨q225r, a222, b222, hM222, hR222, hF222, hB222⟩ := q225
              rw [q225r]
              have hd222 : Dok (n + 31) (((mS3 X a0 s (gR (D.2.1 s) 0) (mS2 X a0 (u 23) s (gR (D.2.1 s) 0) (mS1 s D))).1, lsS (mS3 X a0 s (gR (D.2.1 s) 0) (mS2 X a0 (u 23) s (gR (D.2.1 s) 0) (mS1 s D))).2.1 s (((mS3 X a0 s (gR (D.2.1 s) 0) (mS2 X a0 (u 23) s (gR (D.2.1 s) 0) (mS1 s D))).2.1 s).eraseIdx 0), (mS3 X a0 s (gR (D.2.1 s) 0) (mS2 X a0 (u 23) s (gR (D.2.1 s) 0) (mS1 s D))).2.2)) := Dok_takeO hd221
              have es222 : (((mS3 X a0 s (gR (D.2.1 s) 0) (mS2 X a0 (u 23) s (gR (D.2.1 s) 0) (mS1 s D))).1, lsS (mS3 X a0 s (gR (D.2.1 s) 0) (mS2 X a0 (u 23) s (gR (D.2.1 s) 0) (mS1 s D))).2.1 s (((mS3 X a0 s (gR (D.2.1 s) 0) (mS2 X a0 (u 23) s (gR (D.2.1 s) 0) (mS1 s D))).2.1 s).eraseIdx 0), (mS3 X a0 s (gR (D.2.1 s) 0) (mS2 X a0 (u 23) s (gR (D.2.1 s) 0) (mS1 s D))).2.2)).1 = (mS3 X a0 s (gR (D.2.1 s) 0) (mS2 X a0 (u 23) s (gR (D.2.1 s) 0) (mS1 s D))).1 := rfl
              exact M.vret rfl (Nat.zero_le _) (Nat.zero_le _) ⟨rfl, _, _, hM222, hR222, hF222, hB222⟩
            · skip
              refine M.run 2 (pc' := 159) (lv' := [some (vr o), some (vi ((s : Nat) : Int)), some (vi ((49 + 7 * (24 * s + 0) : Nat) : Int)), some (vi (gR (D.2.1 s) 0 0)), some (vi (((gR (D.2.1 s) 0 1).toNat : Nat) : Int)), some (vi 0)]) (st' := [vi 3, vi (gR (D.2.1 s) 0 0)]) rfl ?_
              refine M.icmp_ne (tgt := 168) rfl (qI (by omega)) (qI (by decide)) (by decide) (fun h159 => ?_) (fun h159 => ?_)
              · skip
                have eD227 : mS3 X a0 s (gR (D.2.1 s) 0) (mS2 X a0 (u 23) s (gR (D.2.1 s) 0) (mS1 s D)) = (mS2 X a0 (u 23) s (gR (D.2.1 s) 0) (mS1 s D)) := if_neg (by omega)
                have hR227 : Rp a171 (mS3 X a0 s (gR (D.2.1 s) 0) (mS2 X a0 (u 23) s (gR (D.2.1 s) 0) (mS1 s D))) := by rw [eD227]; exact hR176
                have hd227 : Dok (n + 31) (mS3 X a0 s (gR (D.2.1 s) 0) (mS2 X a0 (u 23) s (gR (D.2.1 s) 0) (mS1 s D))) := by rw [eD227]; exact hd176
                have hs3 : 0 < (((mS3 X a0 s (gR (D.2.1 s) 0) (mS2 X a0 (u 23) s (gR (D.2.1 s) 0) (mS1 s D)))).2.1 s).length := by rw [mS3_2]; exact hs2.2
                refine M.run 3 (pc' := 171) (lv' := [some (vr o), some (vi ((s : Nat) : Int)), some (vi ((49 + 7 * (24 * s + 0) : Nat) : Int)), some (vi (gR (D.2.1 s) 0 0)), some (vi (((gR (D.2.1 s) 0 1).toNat : Nat) : Int)), some (vi 0)]) (st' := [vi 0, vi ((s : Nat) : Int), vr o]) rfl ?_
                refine M.callV (eX11_takeOut l G o am u a0 b0 (mS3 X a0 s (gR (D.2.1 s) 0) (mS2 X a0 (u 23) s (gR (D.2.1 s) 0) (mS1 s D))) _ ht hd227 (by omega)  s hs.1 0 hs3) cv_X11_301 cd_X11_takeOut rfl (st := []) rfl (isM_o hM171) (by decide) (by decide) rfl (Nat.zero_le _) (Nat.zero_le _) ⟨_, _, hM171, hR227, hF171, hB171⟩ (fun r229 w230 q231 => ?_)
                obtain ⟨q231r, a228, b228, hM228, hR228, hF228, hB228⟩ := q231
                rw [q231r]
                have hd228 : Dok (n + 31) (((mS3 X a0 s (gR (D.2.1 s) 0) (mS2 X a0 (u 23) s (gR (D.2.1 s) 0) (mS1 s D))).1, lsS (mS3 X a0 s (gR (D.2.1 s) 0) (mS2 X a0 (u 23) s (gR (D.2.1 s) 0) (mS1 s D))).2.1 s (((mS3 X a0 s (gR (D.2.1 s) 0) (mS2 X a0 (u 23) s (gR (D.2.1 s) 0) (mS1 s D))).2.1 s).eraseIdx 0), (mS3 X a0 s (gR (D.2.1 s) 0) (mS2 X a0 (u 23) s (gR (D.2.1 s) 0) (mS1 s D))).2.2)) := Dok_takeO hd227
                have es228 : (((mS3 X a0 s (gR (D.2.1 s) 0) (mS2 X a0 (u 23) s (gR (D.2.1 s) 0) (mS1 s D))).1, lsS (mS3 X a0 s (gR (D.2.1 s) 0) (mS2 X a0 (u 23) s (gR (D.2.1 s) 0) (mS1 s D))).2.1 s (((mS3 X a0 s (gR (D.2.1 s) 0) (mS2 X a0 (u 23) s (gR (D.2.1 s) 0) (mS1 s D))).2.1 s).eraseIdx 0), (mS3 X a0 s (gR (D.2.1 s) 0) (mS2 X a0 (u 23) s (gR (D.2.1 s) 0) (mS1 s D))).2.2)).1 = (mS3 X a0 s (gR (D.2.1 s) 0) (mS2 X a0 (u 23) s (gR (D.2.1 s) 0) (mS1 s D))).1 := rfl
                exact M.vret rfl (Nat.zero_le _) (Nat.zero_le _) ⟨rfl, _, _, hM228, hR228, hF228, hB228⟩
              · skip
                refine M.run 3 (pc' := 165) (lv' := [some (vr o), some (vi ((s : Nat) : Int)), some (vi ((49 + 7 * (24 * s + 0) : Nat) : Int)), some (vi (gR (D.2.1 s) 0 0)), some (vi (((gR (D.2.1 s) 0 1).toNat : Nat) : Int)), some (vi 0)]) (st' := [vi ((49 + 7 * (24 * s + 0) : Nat) : Int), vi ((s : Nat) : Int), vr o]) rfl ?_
                refine M.callV (eX11_startTimer l G o am u a0 b0 (mS2 X a0 (u 23) s (gR (D.2.1 s) 0) (mS1 s D)) _ ht hd176 (by omega)  s hs2 (49 + 7 * (24 * s + 0)) (by omega) X hX) cv_X11_375 cd_X11_startTimer rfl (st := []) rfl (isM_o hM171) (by decide) (by decide) rfl (Nat.zero_le _) (Nat.zero_le _) ⟨_, _, hM171, hR176, hF171, hB171⟩ (fun r234 w235 q236 => ?_)
                obtain ⟨q236r, a233, b233, hM233, hR233, hF233, hB233⟩ := q236
                rw [q236r]
                have hd233 : Dok (n + 31) (mTimer X a0 s (mS2 X a0 (u 23) s (gR (D.2.1 s) 0) (mS1 s D))) := Dok_timer ht hd176 hs2
                have es233 : (mTimer X a0 s (mS2 X a0 (u 23) s (gR (D.2.1 s) 0) (mS1 s D))).1 = (mTimer X a0 s (mS2 X a0 (u 23) s (gR (D.2.1 s) 0) (mS1 s D))).1 := rfl
                have eD238 : mS3 X a0 s (gR (D.2.1 s) 0) (mS2 X a0 (u 23) s (gR (D.2.1 s) 0) (mS1 s D)) = (mTimer X a0 s (mS2 X a0 (u 23) s (gR (D.2.1 s) 0) (mS1 s D))) := if_pos (Or.inr (Or.inr h159))
                have hR238 : Rp a233 (mS3 X a0 s (gR (D.2.1 s) 0) (mS2 X a0 (u 23) s (gR (D.2.1 s) 0) (mS1 s D))) := by rw [eD238]; exact hR233
                have hd238 : Dok (n + 31) (mS3 X a0 s (gR (D.2.1 s) 0) (mS2 X a0 (u 23) s (gR (D.2.1 s) 0) (mS1 s D))) := by rw [eD238]; exact hd233
                have hs3 : 0 < (((mS3 X a0 s (gR (D.2.1 s) 0) (mS2 X a0 (u 23) s (gR (D.2.1 s) 0) (mS1 s D)))).2.1 s).length := by rw [mS3_2]; exact hs2.2
                refine M.run 3 (pc' := 171) (lv' := [some (vr o), some (vi ((s : Nat) : Int)), some (vi ((49 + 7 * (24 * s + 0) : Nat) : Int)), some (vi (gR (D.2.1 s) 0 0)), some (vi (((gR (D.2.1 s) 0 1).toNat : Nat) : Int)), some (vi 0)]) (st' := [vi 0, vi ((s : Nat) : Int), vr o]) rfl ?_
                refine M.callV (eX11_takeOut l G o am u a0 b0 (mS3 X a0 s (gR (D.2.1 s) 0) (mS2 X a0 (u 23) s (gR (D.2.1 s) 0) (mS1 s D))) _ ht hd238 (by omega)  s hs.1 0 hs3) cv_X11_301 cd_X11_takeOut rfl (st := []) rfl (isM_o hM233) (by decide) (by decide) rfl (Nat.zero_le _) (Nat.zero_le _) ⟨_, _, hM233, hR238, hF233, hB233⟩ (fun r240 w241 q242 => ?_)
                obtain ⟨q242r, a239, b239, hM239, hR239, hF239, hB239⟩ := q242
                rw [q242r]
                have hd239 : Dok (n + 31) (((mS3 X a0 s (gR (D.2.1 s) 0) (mS2 X a0 (u 23) s (gR (D.2.1 s) 0) (mS1 s D))).1, lsS (mS3 X a0 s (gR (D.2.1 s) 0) (mS2 X a0 (u 23) s (gR (D.2.1 s) 0) (mS1 s D))).2.1 s (((mS3 X a0 s (gR (D.2.1 s) 0) (mS2 X a0 (u 23) s (gR (D.2.1 s) 0) (mS1 s D))).2.1 s).eraseIdx 0), (mS3 X a0 s (gR (D.2.1 s) 0) (mS2 X a0 (u 23) s (gR (D.2.1 s) 0) (mS1 s D))).2.2)) := Dok_takeO hd238
                have es239 : (((mS3 X a0 s (gR (D.2.1 s) 0) (mS2 X a0 (u 23) s (gR (D.2.1 s) 0) (mS1 s D))).1, lsS (mS3 X a0 s (gR (D.2.1 s) 0) (mS2 X a0 (u 23) s (gR (D.2.1 s) 0) (mS1 s D))).2.1 s (((mS3 X a0 s (gR (D.2.1 s) 0) (mS2 X a0 (u 23) s (gR (D.2.1 s) 0) (mS1 s D))).2.1 s).eraseIdx 0), (mS3 X a0 s (gR (D.2.1 s) 0) (mS2 X a0 (u 23) s (gR (D.2.1 s) 0) (mS1 s D))).2.2)).1 = (mS3 X a0 s (gR (D.2.1 s) 0) (mS2 X a0 (u 23) s (gR (D.2.1 s) 0) (mS1 s D))).1 := rfl
                exact M.vret rfl (Nat.zero_le _) (Nat.zero_le _) ⟨rfl, _, _, hM239, hR239, hF239, hB239⟩
  · skip
    have q55 := q5 (by omega)
    refine M.run 1 (pc' := 30) (lv' := [some (vr o), some (vi ((s : Nat) : Int)), some (vi ((49 + 7 * (24 * s + 0) : Nat) : Int)), some (vi (gR (D.2.1 s) 0 0)), some (vi (((gR (D.2.1 s) 0 1).toNat : Nat) : Int)), none]) (st' := [vr o]) rfl ?_
    refine M.get fl_X11_7 rfl (isM_o hM) (kf := 0) (v := vr (am 0)) rfl ?_
    refine M.run 3 (pc' := 36) (lv' := [some (vr o), some (vi ((s : Nat) : Int)), some (vi ((49 + 7 * (24 * s + 0) : Nat) : Int)), some (vi (gR (D.2.1 s) 0 0)), some (vi (((gR (D.2.1 s) 0 1).toNat : Nat) : Int)), none]) (st' := [vi (((49 + 7 * (24 * s + 0) : Nat) : Int) + 4), vr (am 0)]) rfl ?_
    refine M.ialdN (49 + 7 * (24 * s + 0) + 4) rfl (isM_a hM) (by omega) (by decide) ?_
    rw [show a (49 + 7 * (24 * s + 0) + 4) = gR (D.2.1 s) 0 4 from Rp_lx hR hs.1 hs.2 (x := (49 + 7 * (24 * s + 0))) (k := 4) (by omega) (by decide)]
    refine M.run 1 (pc' := 38) (lv' := [some (vr o), some (vi ((s : Nat) : Int)), some (vi ((49 + 7 * (24 * s + 0) : Nat) : Int)), some (vi (gR (D.2.1 s) 0 0)), some (vi (((gR (D.2.1 s) 0 1).toNat : Nat) : Int)), none]) (st' := [vr o, vi (gR (D.2.1 s) 0 4)]) rfl ?_
    refine M.get fl_X11_7 rfl (isM_o hM) (kf := 0) (v := vr (am 0)) rfl ?_
    refine M.run 3 (pc' := 44) (lv' := [some (vr o), some (vi ((s : Nat) : Int)), some (vi ((49 + 7 * (24 * s + 0) : Nat) : Int)), some (vi (gR (D.2.1 s) 0 0)), some (vi (((gR (D.2.1 s) 0 1).toNat : Nat) : Int)), none]) (st' := [vi (((49 + 7 * (24 * s + 0) : Nat) : Int) + 3), vr (am 0), vi (gR (D.2.1 s) 0 4)]) rfl ?_
    refine M.ialdN (49 + 7 * (24 * s + 0) + 3) rfl (isM_a hM) (by omega) (by decide) ?_
    rw [show a (49 + 7 * (24 * s + 0) + 3) = gR (D.2.1 s) 0 3 from Rp_lx hR hs.1 hs.2 (x := (49 + 7 * (24 * s + 0))) (k := 3) (by omega) (by decide)]
    refine M.run 2 (pc' := 50) (lv' := [some (vr o), some (vi ((s : Nat) : Int)), some (vi ((49 + 7 * (24 * s + 0) : Nat) : Int)), some (vi (gR (D.2.1 s) 0 0)), some (vi (((gR (D.2.1 s) 0 1).toNat : Nat) : Int)), none]) (st' := [vi ((gR (D.2.1 s) 0 4) - (gR (D.2.1 s) 0 3))]) rfl ?_
    have eBy : mBy (gR (D.2.1 s) 0) = ((gR (D.2.1 s) 0 4) - (gR (D.2.1 s) 0 3)) := by first | exact if_pos h26 | exact if_neg h26
    have hbb : 0 ≤ ((gR (D.2.1 s) 0 4) - (gR (D.2.1 s) 0 3)) ∧ ((gR (D.2.1 s) 0 4) - (gR (D.2.1 s) 0 3)) ≤ 30 := by omega
    refine M.run 2 (pc' := 53) (lv' := [some (vr o), some (vi ((s : Nat) : Int)), some (vi ((49 + 7 * (24 * s + 0) : Nat) : Int)), some (vi (gR (D.2.1 s) 0 0)), some (vi (((gR (D.2.1 s) 0 1).toNat : Nat) : Int)), some (vi ((gR (D.2.1 s) 0 4) - (gR (D.2.1 s) 0 3)))]) (st' := [vr o]) rfl ?_
    refine M.get fl_X11_7 rfl (isM_o hM) (kf := 0) (v := vr (am 0)) rfl ?_
    refine M.run 2 (pc' := 59) (lv' := [some (vr o), some (vi ((s : Nat) : Int)), some (vi ((49 + 7 * (24 * s + 0) : Nat) : Int)), some (vi (gR (D.2.1 s) 0 0)), some (vi (((gR (D.2.1 s) 0 1).toNat : Nat) : Int)), some (vi ((gR (D.2.1 s) 0 4) - (gR (D.2.1 s) 0 3)))]) (st' := [vi 21, vr (am 0), vi 21, vr (am 0)]) rfl ?_
    refine M.ialdN (21) rfl (isM_a hM) (by decide) (by decide) ?_
    rw [show a 21 = D.1 21 from Rp_s hR (k := 21) (by decide) (by decide) (by decide)]
    refine M.run 2 (pc' := 62) (lv' := [some (vr o), some (vi ((s : Nat) : Int)), some (vi ((49 + 7 * (24 * s + 0) : Nat) : Int)), some (vi (gR (D.2.1 s) 0 0)), some (vi (((gR (D.2.1 s) 0 1).toNat : Nat) : Int)), some (vi ((gR (D.2.1 s) 0 4) - (gR (D.2.1 s) 0 3)))]) (st' := [vi ((D.1 21) + 1), vi 21, vr (am 0)]) rfl ?_
    refine M.iastN (21) rfl (isM_a hM) (by decide) (by decide) ?_
    have hM245 := isM_setA hM (uN a 21 ((D.1 21) + 1))
    generalize up w (am 0) (Ar 0 30042 (uN a 21 ((D.1 21) + 1))) = w244 at hM245 ⊢
    have hd246x := Dok_mono (m := (n + 31)) (by omega) hd
    have hR246 : Rp _ (mS 21 ((D.1 21) + 1) D) := Rp_us hR ((D.1 21) + 1) (k := 21) (by omega) (by omega) (by omega)
    have hF246 := Fr_u (k := 21) (v := (D.1 21) + 1) hF (by omega) (by omega)
    have hd246 := Dok_S (k := 21) (v := (D.1 21) + 1) hd246x (fun _ _ _ => by unfold Shi; (repeat' split) <;> omega)
    have es246 : (mS 21 ((D.1 21) + 1) D).1 = uN D.1 21 ((D.1 21) + 1) := rfl
    refine M.run 1 (pc' := 64) (lv' := [some (vr o), some (vi ((s : Nat) : Int)), some (vi ((49 + 7 * (24 * s + 0) : Nat) : Int)), some (vi (gR (D.2.1 s) 0 0)), some (vi (((gR (D.2.1 s) 0 1).toNat : Nat) : Int)), some (vi ((gR (D.2.1 s) 0 4) - (gR (D.2.1 s) 0 3)))]) (st' := [vr o]) rfl ?_
    refine M.get fl_X11_7 rfl (isM_o hM245) (kf := 0) (v := vr (am 0)) rfl ?_
    refine M.run 4 (pc' := 73) (lv' := [some (vr o), some (vi ((s : Nat) : Int)), some (vi ((49 + 7 * (24 * s + 0) : Nat) : Int)), some (vi (gR (D.2.1 s) 0 0)), some (vi (((gR (D.2.1 s) 0 1).toNat : Nat) : Int)), some (vi ((gR (D.2.1 s) 0 4) - (gR (D.2.1 s) 0 3)))]) (st' := [vi (46 + (((gR (D.2.1 s) 0 1).toNat : Nat) : Int)), vr (am 0), vi (46 + (((gR (D.2.1 s) 0 1).toNat : Nat) : Int)), vr (am 0)]) rfl ?_
    refine M.ialdN (46 + ((gR (D.2.1 s) 0 1).toNat)) rfl (isM_a hM245) (by omega) (by decide) ?_
    rw [show (uN a 21 ((D.1 21) + 1)) (46 + ((gR (D.2.1 s) 0 1).toNat)) = D.1 (46 + ((gR (D.2.1 s) 0 1).toNat)) from (Rp_s hR246 (k := 46 + ((gR (D.2.1 s) 0 1).toNat)) (by omega) (by omega) (by omega)).trans (((congrFun es246 _)).trans (uN_o (by omega)))]
    refine M.run 2 (pc' := 77) (lv' := [some (vr o), some (vi ((s : Nat) : Int)), some (vi ((49 + 7 * (24 * s + 0) : Nat) : Int)), some (vi (gR (D.2.1 s) 0 0)), some (vi (((gR (D.2.1 s) 0 1).toNat : Nat) : Int)), some (vi ((gR (D.2.1 s) 0 4) - (gR (D.2.1 s) 0 3)))]) (st' := [vi ((D.1 (46 + ((gR (D.2.1 s) 0 1).toNat))) + ((gR (D.2.1 s) 0 4) - (gR (D.2.1 s) 0 3))), vi (46 + (((gR (D.2.1 s) 0 1).toNat : Nat) : Int)), vr (am 0)]) rfl ?_
    refine M.iastN (46 + ((gR (D.2.1 s) 0 1).toNat)) rfl (isM_a hM245) (by omega) (by decide) ?_
    have hM248 := isM_setA hM245 (uN (uN a 21 ((D.1 21) + 1)) (46 + ((gR (D.2.1 s) 0 1).toNat)) ((D.1 (46 + ((gR (D.2.1 s) 0 1).toNat))) + ((gR (D.2.1 s) 0 4) - (gR (D.2.1 s) 0 3))))
    generalize up w244 (am 0) (Ar 0 30042 (uN (uN a 21 ((D.1 21) + 1)) (46 + ((gR (D.2.1 s) 0 1).toNat)) ((D.1 (46 + ((gR (D.2.1 s) 0 1).toNat))) + ((gR (D.2.1 s) 0 4) - (gR (D.2.1 s) 0 3))))) = w247 at hM248 ⊢
    have hR249 : Rp _ (mS (46 + ((gR (D.2.1 s) 0 1).toNat)) ((D.1 (46 + ((gR (D.2.1 s) 0 1).toNat))) + ((gR (D.2.1 s) 0 4) - (gR (D.2.1 s) 0 3))) (mS 21 ((D.1 21) + 1) D)) := Rp_us hR246 ((D.1 (46 + ((gR (D.2.1 s) 0 1).toNat))) + ((gR (D.2.1 s) 0 4) - (gR (D.2.1 s) 0 3))) (k := 46 + ((gR (D.2.1 s) 0 1).toNat)) (by omega) (by omega) (by omega)
    have hF249 := Fr_u (k := 46 + ((gR (D.2.1 s) 0 1).toNat)) (v := (D.1 (46 + ((gR (D.2.1 s) 0 1).toNat))) + ((gR (D.2.1 s) 0 4) - (gR (D.2.1 s) 0 3))) hF246 (by omega) (by omega)
    have hd249 := Dok_S (k := 46 + ((gR (D.2.1 s) 0 1).toNat)) (v := (D.1 (46 + ((gR (D.2.1 s) 0 1).toNat))) + ((gR (D.2.1 s) 0 4) - (gR (D.2.1 s) 0 3))) hd246 (fun _ _ _ => by unfold Shi; (repeat' split) <;> omega)
    have es249 : (mS (46 + ((gR (D.2.1 s) 0 1).toNat)) ((D.1 (46 + ((gR (D.2.1 s) 0 1).toNat))) + ((gR (D.2.1 s) 0 4) - (gR (D.2.1 s) 0 3))) (mS 21 ((D.1 21) + 1) D)).1 = uN (uN D.1 21 ((D.1 21) + 1)) (46 + ((gR (D.2.1 s) 0 1).toNat)) ((D.1 (46 + ((gR (D.2.1 s) 0 1).toNat))) + ((gR (D.2.1 s) 0 4) - (gR (D.2.1 s) 0 3))) := by show uN _ _ _ = _; rw [es246]
    have eD250 : mS1 s D = (mS (46 + ((gR (D.2.1 s) 0 1).toNat)) ((D.1 (46 + ((gR (D.2.1 s) 0 1).toNat))) + ((gR (D.2.1 s) 0 4) - (gR (D.2.1 s) 0 3))) (mS 21 ((D.1 21) + 1) D)) := by unfold mS1; rw [eBy]
    have hR250 : Rp (uN (uN a 21 ((D.1 21) + 1)) (46 + ((gR (D.2.1 s) 0 1).toNat)) ((D.1 (46 + ((gR (D.2.1 s) 0 1).toNat))) + ((gR (D.2.1 s) 0 4) - (gR (D.2.1 s) 0 3)))) (mS1 s D) := by rw [eD250]; exact hR249
    have hd250 : Dok (n + 31) (mS1 s D) := by rw [eD250]; exact hd249
    refine M.run 1 (pc' := 79) (lv' := [some (vr o), some (vi ((s : Nat) : Int)), some (vi ((49 + 7 * (24 * s + 0) : Nat) : Int)), some (vi (gR (D.2.1 s) 0 0)), some (vi (((gR (D.2.1 s) 0 1).toNat : Nat) : Int)), some (vi ((gR (D.2.1 s) 0 4) - (gR (D.2.1 s) 0 3)))]) (st' := [vr o]) rfl ?_
    refine M.get fl_X11_362 rfl (isM_o hM248) (kf := 23) (v := vi (u 23)) rfl ?_
    refine M.if_ne (tgt := 131) rfl (qI (by omega)) (by decide) (fun h82 => ?_) (fun h82 => ?_)
    · skip
      refine M.run 3 (pc' := 134) (lv' := [some (vr o), some (vi ((s : Nat) : Int)), some (vi ((49 + 7 * (24 * s + 0) : Nat) : Int)), some (vi (gR (D.2.1 s) 0 0)), some (vi (((gR (D.2.1 s) 0 1).toNat : Nat) : Int)), some (vi ((gR (D.2.1 s) 0 4) - (gR (D.2.1 s) 0 3)))]) (st' := [vi ((49 + 7 * (24 * s + 0) : Nat) : Int), vi ((s : Nat) : Int), vr o]) rfl ?_
      refine M.callV (eX11_fly l G o am u a0 b0 (mS1 s D) _ ht hd250 (by omega)  s ⟨hs.1, hs.2, hfl⟩ (49 + 7 * (24 * s + 0)) (by omega)) cv_X11_372 cd_X11_fly rfl (st := []) rfl (isM_o hM248) (by decide) (by decide) rfl (Nat.zero_le _) (Nat.zero_le _) ⟨_, _, hM248, hR250, hF249, hB⟩ (fun r252 w253 q254 => ?_)
      obtain ⟨q254r, a251, b251, hM251, hR251, hF251, hB251⟩ := q254
      rw [q254r]
      have hd251 : Dok (n + 31) (mFly a0 s (mS1 s D)) := Dok_fly ht hd250 hs hfl
      have es251 : (mFly a0 s (mS1 s D)).1 = (mS1 s D).1 := rfl
      have eD256 : mS2 X a0 (u 23) s (gR (D.2.1 s) 0) (mS1 s D) = (mFly a0 s (mS1 s D)) := by unfold mS2; rw [eBy, if_neg h82]
      have hR256 : Rp a251 (mS2 X a0 (u 23) s (gR (D.2.1 s) 0) (mS1 s D)) := by rw [eD256]; exact hR251
      have hd256 : Dok (n + 31) (mS2 X a0 (u 23) s (gR (D.2.1 s) 0) (mS1 s D)) := by rw [eD256]; exact hd251
      have hs2 : s < 2 ∧ 0 < (((mS2 X a0 (u 23) s (gR (D.2.1 s) 0) (mS1 s D))).2.1 s).length := ⟨hs.1, by rw [mS2_2]; exact hs.2⟩
      refine M.run 1 (pc' := 138) (lv' := [some (vr o), some (vi ((s : Nat) : Int)), some (vi ((49 + 7 * (24 * s + 0) : Nat) : Int)), some (vi (gR (D.2.1 s) 0 0)), some (vi (((gR (D.2.1 s) 0 1).toNat : Nat) : Int)), some (vi ((gR (D.2.1 s) 0 4) - (gR (D.2.1 s) 0 3)))]) (st' := [vi (gR (D.2.1 s) 0 0)]) rfl ?_
      refine M.if_ne (tgt := 152) rfl (qI (by omega)) (by decide) (fun h138 => ?_) (fun h138 => ?_)
      · skip
        refine M.run 2 (pc' := 154) (lv' := [some (vr o), some (vi ((s : Nat) : Int)), some (vi ((49 + 7 * (24 * s + 0) : Nat) : Int)), some (vi (gR (D.2.1 s) 0 0)), some (vi (((gR (D.2.1 s) 0 1).toNat : Nat) : Int)), some (vi ((gR (D.2.1 s) 0 4) - (gR (D.2.1 s) 0 3)))]) (st' := [vi 1, vi (gR (D.2.1 s) 0 0)]) rfl ?_
        refine M.icmp_eq (tgt := 162) rfl (qI (by omega)) (qI (by decide)) (by decide) (fun h154 => ?_) (fun h154 => ?_)
        · skip
          refine M.run 3 (pc' := 165) (lv' := [some (vr o), some (vi ((s : Nat) : Int)), some (vi ((49 + 7 * (24 * s + 0) : Nat) : Int)), some (vi (gR (D.2.1 s) 0 0)), some (vi (((gR (D.2.1 s) 0 1).toNat : Nat) : Int)), some (vi ((gR (D.2.1 s) 0 4) - (gR (D.2.1 s) 0 3)))]) (st' := [vi ((49 + 7 * (24 * s + 0) : Nat) : Int), vi ((s : Nat) : Int), vr o]) rfl ?_
          refine M.callV (eX11_startTimer l G o am u a0 b0 (mS2 X a0 (u 23) s (gR (D.2.1 s) 0) (mS1 s D)) _ ht hd256 (by omega)  s hs2 (49 + 7 * (24 * s + 0)) (by omega) X hX) cv_X11_375 cd_X11_startTimer rfl (st := []) rfl (isM_o hM251) (by decide) (by decide) rfl (Nat.zero_le _) (Nat.zero_le _) ⟨_, _, hM251, hR256, hF251, hB251⟩ (fun r258 w259 q260 => ?_)
          obtain ⟨q260r, a257, b257, hM257, hR257, hF257, hB257⟩ := q260
          rw [q260r]
          have hd257 : Dok (n + 31) (mTimer X a0 s (mS2 X a0 (u 23) s (gR (D.2.1 s) 0) (mS1 s D))) := Dok_timer ht hd256 hs2
          have es257 : (mTimer X a0 s (mS2 X a0 (u 23) s (gR (D.2.1 s) 0) (mS1 s D))).1 = (mTimer X a0 s (mS2 X a0 (u 23) s (gR (D.2.1 s) 0) (mS1 s D))).1 := rfl
          have eD262 : mS3 X a0 s (gR (D.2.1 s) 0) (mS2 X a0 (u 23) s (gR (D.2.1 s) 0) (mS1 s D)) = (mTimer X a0 s (mS2 X a0 (u 23) s (gR (D.2.1 s) 0) (mS1 s D))) := if_pos (Or.inr (Or.inl h154))
          have hR262 : Rp a257 (mS3 X a0 s (gR (D.2.1 s) 0) (mS2 X a0 (u 23) s (gR (D.2.1 s) 0) (mS1 s D))) := by rw [eD262]; exact hR257
          have hd262 : Dok (n + 31) (mS3 X a0 s (gR (D.2.1 s) 0) (mS2 X a0 (u 23) s (gR (D.2.1 s) 0) (mS1 s D))) := by rw [eD262]; exact hd257
          have hs3 : 0 < (((mS3 X a0 s (gR (D.2.1 s) 0) (mS2 X a0 (u 23) s (gR (D.2.1 s) 0) (mS1 s D)))).2.1 s).length := by rw [mS3_2]; exact hs2.2
          refine M.run 3 (pc' := 171) (lv' := [some (vr o), some (vi ((s : Nat) : Int)), some (vi ((49 + 7 * (24 * s + 0) : Nat) : Int)), some (vi (gR (D.2.1 s) 0 0)), some (vi (((gR (D.2.1 s) 0 1).toNat : Nat) : Int)), some (vi ((gR (D.2.1 s) 0 4) - (gR (D.2.1 s) 0 3)))]) (st' := [vi 0, vi ((s : Nat) : Int), vr o]) rfl ?_
          refine M.callV (eX11_takeOut l G o am u a0 b0 (mS3 X a0 s (gR (D.2.1 s) 0) (mS2 X a0 (u 23) s (gR (D.2.1 s) 0) (mS1 s D))) _ ht hd262 (by omega)  s hs.1 0 hs3) cv_X11_301 cd_X11_takeOut rfl (st := []) rfl (isM_o hM257) (by decide) (by decide) rfl (Nat.zero_le _) (Nat.zero_le _) ⟨_, _, hM257, hR262, hF257, hB257⟩ (fun r264 w265 q266 => ?_)
          obtain ⟨q266r, a263, b263, hM263, hR263, hF263, hB263⟩ := q266
          rw [q266r]
          have hd263 : Dok (n + 31) (((mS3 X a0 s (gR (D.2.1 s) 0) (mS2 X a0 (u 23) s (gR (D.2.1 s) 0) (mS1 s D))).1, lsS (mS3 X a0 s (gR (D.2.1 s) 0) (mS2 X a0 (u 23) s (gR (D.2.1 s) 0) (mS1 s D))).2.1 s (((mS3 X a0 s (gR (D.2.1 s) 0) (mS2 X a0 (u 23) s (gR (D.2.1 s) 0) (mS1 s D))).2.1 s).eraseIdx 0), (mS3 X a0 s (gR (D.2.1 s) 0) (mS2 X a0 (u 23) s (gR (D.2.1 s) 0) (mS1 s D))).2.2)) := Dok_takeO hd262
          have es263 : (((mS3 X a0 s (gR (D.2.1 s) 0) (mS2 X a0 (u 23) s (gR (D.2.1 s) 0) (mS1 s D))).1, lsS (mS3 X a0 s (gR (D.2.1 s) 0) (mS2 X a0 (u 23) s (gR (D.2.1 s) 0) (mS1 s D))).2.1 s (((mS3 X a0 s (gR (D.2.1 s) 0) (mS2 X a0 (u 23) s (gR (D.2.1 s) 0) (mS1 s D))).2.1 s).eraseIdx 0), (mS3 X a0 s (gR (D.2.1 s) 0) (mS2 X a0 (u 23) s (gR (D.2.1 s) 0) (mS1 s D))).2.2)).1 = (mS3 X a0 s (gR (D.2.1 s) 0) (mS2 X a0 (u 23) s (gR (D.2.1 s) 0) (mS1 s D))).1 := rfl
          exact M.vret rfl (Nat.zero_le _) (Nat.zero_le _) ⟨rfl, _, _, hM263, hR263, hF263, hB263⟩
        · skip
          refine M.run 2 (pc' := 159) (lv' := [some (vr o), some (vi ((s : Nat) : Int)), some (vi ((49 + 7 * (24 * s + 0) : Nat) : Int)), some (vi (gR (D.2.1 s) 0 0)), some (vi (((gR (D.2.1 s) 0 1).toNat : Nat) : Int)), some (vi ((gR (D.2.1 s) 0 4) - (gR (D.2.1 s) 0 3)))]) (st' := [vi 3, vi (gR (D.2.1 s) 0 0)]) rfl ?_
          refine M.icmp_ne (tgt := 168) rfl (qI (by omega)) (qI (by decide)) (by decide) (fun h159 => ?_) (fun h159 => ?_)
          · skip
            have eD268 : mS3 X a0 s (gR (D.2.1 s) 0) (mS2 X a0 (u 23) s (gR (D.2.1 s) 0) (mS1 s D)) = (mS2 X a0 (u 23) s (gR (D.2.1 s) 0) (mS1 s D)) := if_neg (by omega)
            have hR268 : Rp a251 (mS3 X a0 s (gR (D.2.1 s) 0) (mS2 X a0 (u 23) s (gR (D.2.1 s) 0) (mS1 s D))) := by rw [eD268]; exact hR256
            have hd268 : Dok (n + 31) (mS3 X a0 s (gR (D.2.1 s) 0) (mS2 X a0 (u 23) s (gR (D.2.1 s) 0) (mS1 s D))) := by rw [eD268]; exact hd256
            have hs3 : 0 < (((mS3 X a0 s (gR (D.2.1 s) 0) (mS2 X a0 (u 23) s (gR (D.2.1 s) 0) (mS1 s D)))).2.1 s).length := by rw [mS3_2]; exact hs2.2
            refine M.run 3 (pc' := 171) (lv' := [some (vr o), some (vi ((s : Nat) : Int)), some (vi ((49 + 7 * (24 * s + 0) : Nat) : Int)), some (vi (gR (D.2.1 s) 0 0)), some (vi (((gR (D.2.1 s) 0 1).toNat : Nat) : Int)), some (vi ((gR (D.2.1 s) 0 4) - (gR (D.2.1 s) 0 3)))]) (st' := [vi 0, vi ((s : Nat) : Int), vr o]) rfl ?_
            refine M.callV (eX11_takeOut l G o am u a0 b0 (mS3 X a0 s (gR (D.2.1 s) 0) (mS2 X a0 (u 23) s (gR (D.2.1 s) 0) (mS1 s D))) _ ht hd268 (by omega)  s hs.1 0 hs3) cv_X11_301 cd_X11_takeOut rfl (st := []) rfl (isM_o hM251) (by decide) (by decide) rfl (Nat.zero_le _) (Nat.zero_le _) ⟨_, _, hM251, hR268, hF251, hB251⟩ (fun r270 w271 q272 => ?_)
            obtain ⟨q272r, a269, b269, hM269, hR269, hF269, hB269⟩ := q272
            rw [q272r]
            have hd269 : Dok (n + 31) (((mS3 X a0 s (gR (D.2.1 s) 0) (mS2 X a0 (u 23) s (gR (D.2.1 s) 0) (mS1 s D))).1, lsS (mS3 X a0 s (gR (D.2.1 s) 0) (mS2 X a0 (u 23) s (gR (D.2.1 s) 0) (mS1 s D))).2.1 s (((mS3 X a0 s (gR (D.2.1 s) 0) (mS2 X a0 (u 23) s (gR (D.2.1 s) 0) (mS1 s D))).2.1 s).eraseIdx 0), (mS3 X a0 s (gR (D.2.1 s) 0) (mS2 X a0 (u 23) s (gR (D.2.1 s) 0) (mS1 s D))).2.2)) := Dok_takeO hd268
            have es269 : (((mS3 X a0 s (gR (D.2.1 s) 0) (mS2 X a0 (u 23) s (gR (D.2.1 s) 0) (mS1 s D))).1, lsS (mS3 X a0 s (gR (D.2.1 s) 0) (mS2 X a0 (u 23) s (gR (D.2.1 s) 0) (mS1 s D))).2.1 s (((mS3 X a0 s (gR (D.2.1 s) 0) (mS2 X a0 (u 23) s (gR (D.2.1 s) 0) (mS1 s D))).2.1 s).eraseIdx 0), (mS3 X a0 s (gR (D.2.1 s) 0) (mS2 X a0 (u 23) s (gR (D.2.1 s) 0) (mS1 s D))).2.2)).1 = (mS3 X a0 s (gR (D.2.1 s) 0) (mS2 X a0 (u 23) s (gR (D.2.1 s) 0) (mS1 s D))).1 := rfl
            exact M.vret rfl (Nat.zero_le _) (Nat.zero_le _) ⟨rfl, _, _, hM269, hR269, hF269, hB269⟩
          · skip
            refine M.run 3 (pc' := 165) (lv' := [some (vr o), some (vi ((s : Nat) : Int)), some (vi ((49 + 7 * (24 * s + 0) : Nat) : Int)), some (vi (gR (D.2.1 s) 0 0)), some (vi (((gR (D.2.1 s) 0 1).toNat : Nat) : Int)), some (vi ((gR (D.2.1 s) 0 4) - (gR (D.2.1 s) 0 3)))]) (st' := [vi ((49 + 7 * (24 * s + 0) : Nat) : Int), vi ((s : Nat) : Int), vr o]) rfl ?_
            refine M.callV (eX11_startTimer l G o am u a0 b0 (mS2 X a0 (u 23) s (gR (D.2.1 s) 0) (mS1 s D)) _ ht hd256 (by omega)  s hs2 (49 + 7 * (24 * s + 0)) (by omega) X hX) cv_X11_375 cd_X11_startTimer rfl (st := []) rfl (isM_o hM251) (by decide) (by decide) rfl (Nat.zero_le _) (Nat.zero_le _) ⟨_, _, hM251, hR256, hF251, hB251⟩ (fun r275 w276 q277 => ?_)
            obtain ⟨q277r, a274, b274, hM274, hR274, hF274, hB274⟩ := q277
            rw [q277r]
            have hd274 : Dok (n + 31) (mTimer X a0 s (mS2 X a0 (u 23) s (gR (D.2.1 s) 0) (mS1 s D))) := Dok_timer ht hd256 hs2
            have es274 : (mTimer X a0 s (mS2 X a0 (u 23) s (gR (D.2.1 s) 0) (mS1 s D))).1 = (mTimer X a0 s (mS2 X a0 (u 23) s (gR (D.2.1 s) 0) (mS1 s D))).1 := rfl
            have eD279 : mS3 X a0 s (gR (D.2.1 s) 0) (mS2 X a0 (u 23) s (gR (D.2.1 s) 0) (mS1 s D)) = (mTimer X a0 s (mS2 X a0 (u 23) s (gR (D.2.1 s) 0) (mS1 s D))) := if_pos (Or.inr (Or.inr h159))
            have hR279 : Rp a274 (mS3 X a0 s (gR (D.2.1 s) 0) (mS2 X a0 (u 23) s (gR (D.2.1 s) 0) (mS1 s D))) := by rw [eD279]; exact hR274
            have hd279 : Dok (n + 31) (mS3 X a0 s (gR (D.2.1 s) 0) (mS2 X a0 (u 23) s (gR (D.2.1 s) 0) (mS1 s D))) := by rw [eD279]; exact hd274
            have hs3 : 0 < (((mS3 X a0 s (gR (D.2.1 s) 0) (mS2 X a0 (u 23) s (gR (D.2.1 s) 0) (mS1 s D)))).2.1 s).length := by rw [mS3_2]; exact hs2.2
            refine M.run 3 (pc' := 171) (lv' := [some (vr o), some (vi ((s : Nat) : Int)), some (vi ((49 + 7 * (24 * s + 0) : Nat) : Int)), some (vi (gR (D.2.1 s) 0 0)), some (vi (((gR (D.2.1 s) 0 1).toNat : Nat) : Int)), some (vi ((gR (D.2.1 s) 0 4) - (gR (D.2.1 s) 0 3)))]) (st' := [vi 0, vi ((s : Nat) : Int), vr o]) rfl ?_
            refine M.callV (eX11_takeOut l G o am u a0 b0 (mS3 X a0 s (gR (D.2.1 s) 0) (mS2 X a0 (u 23) s (gR (D.2.1 s) 0) (mS1 s D))) _ ht hd279 (by omega)  s hs.1 0 hs3) cv_X11_301 cd_X11_takeOut rfl (st := []) rfl (isM_o hM274) (by decide) (by decide) rfl (Nat.zero_le _) (Nat.zero_le _) ⟨_, _, hM274, hR279, hF274, hB274⟩ (fun r281 w282 q283 => ?_)
            obtain ⟨q283r, a280, b280, hM280, hR280, hF280, hB280⟩ := q283
            rw [q283r]
            have hd280 : Dok (n + 31) (((mS3 X a0 s (gR (D.2.1 s) 0) (mS2 X a0 (u 23) s (gR (D.2.1 s) 0) (mS1 s D))).1, lsS (mS3 X a0 s (gR (D.2.1 s) 0) (mS2 X a0 (u 23) s (gR (D.2.1 s) 0) (mS1 s D))).2.1 s (((mS3 X a0 s (gR (D.2.1 s) 0) (mS2 X a0 (u 23) s (gR (D.2.1 s) 0) (mS1 s D))).2.1 s).eraseIdx 0), (mS3 X a0 s (gR (D.2.1 s) 0) (mS2 X a0 (u 23) s (gR (D.2.1 s) 0) (mS1 s D))).2.2)) := Dok_takeO hd279
            have es280 : (((mS3 X a0 s (gR (D.2.1 s) 0) (mS2 X a0 (u 23) s (gR (D.2.1 s) 0) (mS1 s D))).1, lsS (mS3 X a0 s (gR (D.2.1 s) 0) (mS2 X a0 (u 23) s (gR (D.2.1 s) 0) (mS1 s D))).2.1 s (((mS3 X a0 s (gR (D.2.1 s) 0) (mS2 X a0 (u 23) s (gR (D.2.1 s) 0) (mS1 s D))).2.1 s).eraseIdx 0), (mS3 X a0 s (gR (D.2.1 s) 0) (mS2 X a0 (u 23) s (gR (D.2.1 s) 0) (mS1 s D))).2.2)).1 = (mS3 X a0 s (gR (D.2.1 s) 0) (mS2 X a0 (u 23) s (gR (D.2.1 s) 0) (mS1 s D))).1 := rfl
            exact M.vret rfl (Nat.zero_le _) (Nat.zero_le _) ⟨rfl, _, _, hM280, hR280, hF280, hB280⟩
      · skip
        refine M.run 1 (pc' := 142) (lv' := [some (vr o), some (vi ((s : Nat) : Int)), some (vi ((49 + 7 * (24 * s + 0) : Nat) : Int)), some (vi (gR (D.2.1 s) 0 0)), some (vi (((gR (D.2.1 s) 0 1).toNat : Nat) : Int)), some (vi ((gR (D.2.1 s) 0 4) - (gR (D.2.1 s) 0 3)))]) (st' := [vr o]) rfl ?_
        refine M.get fl_X11_7 rfl (isM_o hM251) (kf := 0) (v := vr (am 0)) rfl ?_
        refine M.run 3 (pc' := 148) (lv' := [some (vr o), some (vi ((s : Nat) : Int)), some (vi ((49 + 7 * (24 * s + 0) : Nat) : Int)), some (vi (gR (D.2.1 s) 0 0)), some (vi (((gR (D.2.1 s) 0 1).toNat : Nat) : Int)), some (vi ((gR (D.2.1 s) 0 4) - (gR (D.2.1 s) 0 3)))]) (st' := [vi (((49 + 7 * (24 * s + 0) : Nat) : Int) + 2), vr (am 0)]) rfl ?_
        refine M.ialdN (49 + 7 * (24 * s + 0) + 2) rfl (isM_a hM251) (by omega) (by decide) ?_
        rw [show a251 (49 + 7 * (24 * s + 0) + 2) = gR (D.2.1 s) 0 2 from (show _ = gR (D.2.1 s) 0 2 from by have q := Rp_lx hR256 hs2.1 hs2.2 (x := (49 + 7 * (24 * s + 0))) (k := 2) (by omega) (by decide); rw [mS2_2] at q; exact q)]
        refine M.if_gt (tgt := 162) rfl (qI (by omega)) (by decide) (fun h149 => ?_) (fun h149 => ?_)
        · skip
          refine M.run 3 (pc' := 165) (lv' := [some (vr o), some (vi ((s : Nat) : Int)), some (vi ((49 + 7 * (24 * s + 0) : Nat) : Int)), some (vi (gR (D.2.1 s) 0 0)), some (vi (((gR (D.2.1 s) 0 1).toNat : Nat) : Int)), some (vi ((gR (D.2.1 s) 0 4) - (gR (D.2.1 s) 0 3)))]) (st' := [vi ((49 + 7 * (24 * s + 0) : Nat) : Int), vi ((s : Nat) : Int), vr o]) rfl ?_
          refine M.callV (eX11_startTimer l G o am u a0 b0 (mS2 X a0 (u 23) s (gR (D.2.1 s) 0) (mS1 s D)) _ ht hd256 (by omega)  s hs2 (49 + 7 * (24 * s + 0)) (by omega) X hX) cv_X11_375 cd_X11_startTimer rfl (st := []) rfl (isM_o hM251) (by decide) (by decide) rfl (Nat.zero_le _) (Nat.zero_le _) ⟨_, _, hM251, hR256, hF251, hB251⟩ (fun r286 w287 q288 => ?_)
          obtain ⟨q288r, a285, b285, hM285, hR285, hF285, hB285⟩ := q288
          rw [q288r]
          have hd285 : Dok (n + 31) (mTimer X a0 s (mS2 X a0 (u 23) s (gR (D.2.1 s) 0) (mS1 s D))) := Dok_timer ht hd256 hs2
          have es285 : (mTimer X a0 s (mS2 X a0 (u 23) s (gR (D.2.1 s) 0) (mS1 s D))).1 = (mTimer X a0 s (mS2 X a0 (u 23) s (gR (D.2.1 s) 0) (mS1 s D))).1 := rfl
          have eD290 : mS3 X a0 s (gR (D.2.1 s) 0) (mS2 X a0 (u 23) s (gR (D.2.1 s) 0) (mS1 s D)) = (mTimer X a0 s (mS2 X a0 (u 23) s (gR (D.2.1 s) 0) (mS1 s D))) := if_pos (Or.inl (And.intro h138 h149))
          have hR290 : Rp a285 (mS3 X a0 s (gR (D.2.1 s) 0) (mS2 X a0 (u 23) s (gR (D.2.1 s) 0) (mS1 s D))) := by rw [eD290]; exact hR285
          have hd290 : Dok (n + 31) (mS3 X a0 s (gR (D.2.1 s) 0) (mS2 X a0 (u 23) s (gR (D.2.1 s) 0) (mS1 s D))) := by rw [eD290]; exact hd285
          have hs3 : 0 < (((mS3 X a0 s (gR (D.2.1 s) 0) (mS2 X a0 (u 23) s (gR (D.2.1 s) 0) (mS1 s D)))).2.1 s).length := by rw [mS3_2]; exact hs2.2
          refine M.run 3 (pc' := 171) (lv' := [some (vr o), some (vi ((s : Nat) : Int)), some (vi ((49 + 7 * (24 * s + 0) : Nat) : Int)), some (vi (gR (D.2.1 s) 0 0)), some (vi (((gR (D.2.1 s) 0 1).toNat : Nat) : Int)), some (vi ((gR (D.2.1 s) 0 4) - (gR (D.2.1 s) 0 3)))]) (st' := [vi 0, vi ((s : Nat) : Int), vr o]) rfl ?_
          refine M.callV (eX11_takeOut l G o am u a0 b0 (mS3 X a0 s (gR (D.2.1 s) 0) (mS2 X a0 (u 23) s (gR (D.2.1 s) 0) (mS1 s D))) _ ht hd290 (by omega)  s hs.1 0 hs3) cv_X11_301 cd_X11_takeOut rfl (st := []) rfl (isM_o hM285) (by decide) (by decide) rfl (Nat.zero_le _) (Nat.zero_le _) ⟨_, _, hM285, hR290, hF285, hB285⟩ (fun r292 w293 q294 => ?_)
          obtain ⟨q294r, a291, b291, hM291, hR291, hF291, hB291⟩ := q294
          rw [q294r]
          have hd291 : Dok (n + 31) (((mS3 X a0 s (gR (D.2.1 s) 0) (mS2 X a0 (u 23) s (gR (D.2.1 s) 0) (mS1 s D))).1, lsS (mS3 X a0 s (gR (D.2.1 s) 0) (mS2 X a0 (u 23) s (gR (D.2.1 s) 0) (mS1 s D))).2.1 s (((mS3 X a0 s (gR (D.2.1 s) 0) (mS2 X a0 (u 23) s (gR (D.2.1 s) 0) (mS1 s D))).2.1 s).eraseIdx 0), (mS3 X a0 s (gR (D.2.1 s) 0) (mS2 X a0 (u 23) s (gR (D.2.1 s) 0) (mS1 s D))).2.2)) := Dok_takeO hd290
          have es291 : (((mS3 X a0 s (gR (D.2.1 s) 0) (mS2 X a0 (u 23) s (gR (D.2.1 s) 0) (mS1 s D))).1, lsS (mS3 X a0 s (gR (D.2.1 s) 0) (mS2 X a0 (u 23) s (gR (D.2.1 s) 0) (mS1 s D))).2.1 s (((mS3 X a0 s (gR (D.2.1 s) 0) (mS2 X a0 (u 23) s (gR (D.2.1 s) 0) (mS1 s D))).2.1 s).eraseIdx 0), (mS3 X a0 s (gR (D.2.1 s) 0) (mS2 X a0 (u 23) s (gR (D.2.1 s) 0) (mS1 s D))).2.2)).1 = (mS3 X a0 s (gR (D.2.1 s) 0) (mS2 X a0 (u 23) s (gR (D.2.1 s) 0) (mS1 s D))).1 := rfl
          exact M.vret rfl (Nat.zero_le _) (Nat.zero_le _) ⟨rfl, _, _, hM291, hR291, hF291, hB291⟩
        · skip
          refine M.run 2 (pc' := 154) (lv' := [some (vr o), some (vi ((s : Nat) : Int)), some (vi ((49 + 7 * (24 * s + 0) : Nat) : Int)), some (vi (gR (D.2.1 s) 0 0)), some (vi (((gR (D.2.1 s) 0 1).toNat : Nat) : Int)), some (vi ((gR (D.2.1 s) 0 4) - (gR (D.2.1 s) 0 3)))]) (st' := [vi 1, vi (gR (D.2.1 s) 0 0)]) rfl ?_
          refine M.icmp_eq (tgt := 162) rfl (qI (by omega)) (qI (by decide)) (by decide) (fun h154 => ?_) (fun h154 => ?_)
          · skip
            refine M.run 3 (pc' := 165) (lv' := [some (vr o), some (vi ((s : Nat) : Int)), some (vi ((49 + 7 * (24 * s + 0) : Nat) : Int)), some (vi (gR (D.2.1 s) 0 0)), some (vi (((gR (D.2.1 s) 0 1).toNat : Nat) : Int)), some (vi ((gR (D.2.1 s) 0 4) - (gR (D.2.1 s) 0 3)))]) (st' := [vi ((49 + 7 * (24 * s + 0) : Nat) : Int), vi ((s : Nat) : Int), vr o]) rfl ?_
            refine M.callV (eX11_startTimer l G o am u a0 b0 (mS2 X a0 (u 23) s (gR (D.2.1 s) 0) (mS1 s D)) _ ht hd256 (by omega)  s hs2 (49 + 7 * (24 * s + 0)) (by omega) X hX) cv_X11_375 cd_X11_startTimer rfl (st := []) rfl (isM_o hM251) (by decide) (by decide) rfl (Nat.zero_le _) (Nat.zero_le _) ⟨_, _, hM251, hR256, hF251, hB251⟩ (fun r297 w298 q299 => ?_)
            obtain ⟨q299r, a296, b296, hM296, hR296, hF296, hB296⟩ := q299
            rw [q299r]
            have hd296 : Dok (n + 31) (mTimer X a0 s (mS2 X a0 (u 23) s (gR (D.2.1 s) 0) (mS1 s D))) := Dok_timer ht hd256 hs2
            have es296 : (mTimer X a0 s (mS2 X a0 (u 23) s (gR (D.2.1 s) 0) (mS1 s D))).1 = (mTimer X a0 s (mS2 X a0 (u 23) s (gR (D.2.1 s) 0) (mS1 s D))).1 := rfl
            have eD301 : mS3 X a0 s (gR (D.2.1 s) 0) (mS2 X a0 (u 23) s (gR (D.2.1 s) 0) (mS1 s D)) = (mTimer X a0 s (mS2 X a0 (u 23) s (gR (D.2.1 s) 0) (mS1 s D))) := if_pos (Or.inr (Or.inl h154))
            have hR301 : Rp a296 (mS3 X a0 s (gR (D.2.1 s) 0) (mS2 X a0 (u 23) s (gR (D.2.1 s) 0) (mS1 s D))) := by rw [eD301]; exact hR296
            have hd301 : Dok (n + 31) (mS3 X a0 s (gR (D.2.1 s) 0) (mS2 X a0 (u 23) s (gR (D.2.1 s) 0) (mS1 s D))) := by rw [eD301]; exact hd296
            have hs3 : 0 < (((mS3 X a0 s (gR (D.2.1 s) 0) (mS2 X a0 (u 23) s (gR (D.2.1 s) 0) (mS1 s D)))).2.1 s).length := by rw [mS3_2]; exact hs2.2
            refine M.run 3 (pc' := 171) (lv' := [some (vr o), some (vi ((s : Nat) : Int)), some (vi ((49 + 7 * (24 * s + 0) : Nat) : Int)), some (vi (gR (D.2.1 s) 0 0)), some (vi (((gR (D.2.1 s) 0 1).toNat : Nat) : Int)), some (vi ((gR (D.2.1 s) 0 4) - (gR (D.2.1 s) 0 3)))]) (st' := [vi 0, vi ((s : Nat) : Int), vr o]) rfl ?_
            refine M.callV (eX11_takeOut l G o am u a0 b0 (mS3 X a0 s (gR (D.2.1 s) 0) (mS2 X a0 (u 23) s (gR (D.2.1 s) 0) (mS1 s D))) _ ht hd301 (by omega)  s hs.1 0 hs3) cv_X11_301 cd_X11_takeOut rfl (st := []) rfl (isM_o hM296) (by decide) (by decide) rfl (Nat.zero_le _) (Nat.zero_le _) ⟨_, _, hM296, hR301, hF296, hB296⟩ (fun r303 w304 q305 => ?_)
            obtain ⟨q305r, a302, b302, hM302, hR302, hF302, hB302⟩ := q305
            rw [q305r]
            have hd302 : Dok (n + 31) (((mS3 X a0 s (gR (D.2.1 s) 0) (mS2 X a0 (u 23) s (gR (D.2.1 s) 0) (mS1 s D))).1, lsS (mS3 X a0 s (gR (D.2.1 s) 0) (mS2 X a0 (u 23) s (gR (D.2.1 s) 0) (mS1 s D))).2.1 s (((mS3 X a0 s (gR (D.2.1 s) 0) (mS2 X a0 (u 23) s (gR (D.2.1 s) 0) (mS1 s D))).2.1 s).eraseIdx 0), (mS3 X a0 s (gR (D.2.1 s) 0) (mS2 X a0 (u 23) s (gR (D.2.1 s) 0) (mS1 s D))).2.2)) := Dok_takeO hd301
            have es302 : (((mS3 X a0 s (gR (D.2.1 s) 0) (mS2 X a0 (u 23) s (gR (D.2.1 s) 0) (mS1 s D))).1, lsS (mS3 X a0 s (gR (D.2.1 s) 0) (mS2 X a0 (u 23) s (gR (D.2.1 s) 0) (mS1 s D))).2.1 s (((mS3 X a0 s (gR (D.2.1 s) 0) (mS2 X a0 (u 23) s (gR (D.2.1 s) 0) (mS1 s D))).2.1 s).eraseIdx 0), (mS3 X a0 s (gR (D.2.1 s) 0) (mS2 X a0 (u 23) s (gR (D.2.1 s) 0) (mS1 s D))).2.2)).1 = (mS3 X a0 s (gR (D.2.1 s) 0) (mS2 X a0 (u 23) s (gR (D.2.1 s) 0) (mS1 s D))).1 := rfl
            exact M.vret rfl (Nat.zero_le _) (Nat.zero_le _) ⟨rfl, _, _, hM302, hR302, hF302, hB302⟩
          · skip
            refine M.run 2 (pc' := 159) (lv' := [some (vr o), some (vi ((s : Nat) : Int)), some (vi ((49 + 7 * (24 * s + 0) : Nat) : Int)), some (vi (gR (D.2.1 s) 0 0)), some (vi (((gR (D.2.1 s) 0 1).toNat : Nat) : Int)), some (vi ((gR (D.2.1 s) 0 4) - (gR (D.2.1 s) 0 3)))]) (st' := [vi 3, vi (gR (D.2.1 s) 0 0)]) rfl ?_
            refine M.icmp_ne (tgt := 168) rfl (qI (by omega)) (qI (by decide)) (by decide) (fun h159 => ?_) (fun h159 => ?_)
            · skip
              have eD307 : mS3 X a0 s (gR (D.2.1 s) 0) (mS2 X a0 (u 23) s (gR (D.2.1 s) 0) (mS1 s D)) = (mS2 X a0 (u 23) s (gR (D.2.1 s) 0) (mS1 s D)) := if_neg (by omega)
              have hR307 : Rp a251 (mS3 X a0 s (gR (D.2.1 s) 0) (mS2 X a0 (u 23) s (gR (D.2.1 s) 0) (mS1 s D))) := by rw [eD307]; exact hR256
              have hd307 : Dok (n + 31) (mS3 X a0 s (gR (D.2.1 s) 0) (mS2 X a0 (u 23) s (gR (D.2.1 s) 0) (mS1 s D))) := by rw [eD307]; exact hd256
              have hs3 : 0 < (((mS3 X a0 s (gR (D.2.1 s) 0) (mS2 X a0 (u 23) s (gR (D.2.1 s) 0) (mS1 s D)))).2.1 s).length := by rw [mS3_2]; exact hs2.2
              refine M.run 3 (pc' := 171) (lv' := [some (vr o), some (vi ((s : Nat) : Int)), some (vi ((49 + 7 * (24 * s + 0) : Nat) : Int)), some (vi (gR (D.2.1 s) 0 0)), some (vi (((gR (D.2.1 s) 0 1).toNat : Nat) : Int)), some (vi ((gR (D.2.1 s) 0 4) - (gR (D.2.1 s) 0 3)))]) (st' := [vi 0, vi ((s : Nat) : Int), vr o]) rfl ?_
              refine M.callV (eX11_takeOut l G o am u a0 b0 (mS3 X a0 s (gR (D.2.1 s) 0) (mS2 X a0 (u 23) s (gR (D.2.1 s) 0) (mS1 s D))) _ ht hd307 (by omega)  s hs.1 0 hs3) cv_X11_301 cd_X11_takeOut rfl (st := []) rfl (isM_o hM251) (by decide) (by decide) rfl (Nat.zero_le _) (Nat.zero_le _) ⟨_, _, hM251, hR307, hF251, hB251⟩ (fun r309 w310 q311 => ?_)
              obtain ⟨q311r, a308, b308, hM308, hR308, hF308, hB308⟩ := q311
              rw [q311r]
              have hd308 : Dok (n + 31) (((mS3 X a0 s (gR (D.2.1 s) 0) (mS2 X a0 (u 23) s (gR (D.2.1 s) 0) (mS1 s D))).1, lsS (mS3 X a0 s (gR (D.2.1 s) 0) (mS2 X a0 (u 23) s (gR (D.2.1 s) 0) (mS1 s D))).2.1 s (((mS3 X a0 s (gR (D.2.1 s) 0) (mS2 X a0 (u 23) s (gR (D.2.1 s) 0) (mS1 s D))).2.1 s).eraseIdx 0), (mS3 X a0 s (gR (D.2.1 s) 0) (mS2 X a0 (u 23) s (gR (D.2.1 s) 0) (mS1 s D))).2.2)) := Dok_takeO hd307
              have es308 : (((mS3 X a0 s (gR (D.2.1 s) 0) (mS2 X a0 (u 23) s (gR (D.2.1 s) 0) (mS1 s D))).1, lsS (mS3 X a0 s (gR (D.2.1 s) 0) (mS2 X a0 (u 23) s (gR (D.2.1 s) 0) (mS1 s D))).2.1 s (((mS3 X a0 s (gR (D.2.1 s) 0) (mS2 X a0 (u 23) s (gR (D.2.1 s) 0) (mS1 s D))).2.1 s).eraseIdx 0), (mS3 X a0 s (gR (D.2.1 s) 0) (mS2 X a0 (u 23) s (gR (D.2.1 s) 0) (mS1 s D))).2.2)).1 = (mS3 X a0 s (gR (D.2.1 s) 0) (mS2 X a0 (u 23) s (gR (D.2.1 s) 0) (mS1 s D))).1 := rfl
              exact M.vret rfl (Nat.zero_le _) (Nat.zero_le _) ⟨rfl, _, _, hM308, hR308, hF308, hB308⟩
            · skip
              refine M.run 3 (pc' := 165) (lv' := [some (vr o), some (vi ((s : Nat) : Int)), some (vi ((49 + 7 * (24 * s + 0) : Nat) : Int)), some (vi (gR (D.2.1 s) 0 0)), some (vi (((gR (D.2.1 s) 0 1).toNat : Nat) : Int)), some (vi ((gR (D.2.1 s) 0 4) - (gR (D.2.1 s) 0 3)))]) (st' := [vi ((49 + 7 * (24 * s + 0) : Nat) : Int), vi ((s : Nat) : Int), vr o]) rfl ?_
              refine M.callV (eX11_startTimer l G o am u a0 b0 (mS2 X a0 (u 23) s (gR (D.2.1 s) 0) (mS1 s D)) _ ht hd256 (by omega)  s hs2 (49 + 7 * (24 * s + 0)) (by omega) X hX) cv_X11_375 cd_X11_startTimer rfl (st := []) rfl (isM_o hM251) (by decide) (by decide) rfl (Nat.zero_le _) (Nat.zero_le _) ⟨_, _, hM251, hR256, hF251, hB251⟩ (fun r314 w315 q316 => ?_)
              obtain ⟨q316r, a313, b313, hM313, hR313, hF313, hB313⟩ := q316
              rw [q316r]
              have hd313 : Dok (n + 31) (mTimer X a0 s (mS2 X a0 (u 23) s (gR (D.2.1 s) 0) (mS1 s D))) := Dok_timer ht hd256 hs2
              have es313 : (mTimer X a0 s (mS2 X a0 (u 23) s (gR (D.2.1 s) 0) (mS1 s D))).1 = (mTimer X a0 s (mS2 X a0 (u 23) s (gR (D.2.1 s) 0) (mS1 s D))).1 := rfl
              have eD318 : mS3 X a0 s (gR (D.2.1 s) 0) (mS2 X a0 (u 23) s (gR (D.2.1 s) 0) (mS1 s D)) = (mTimer X a0 s (mS2 X a0 (u 23) s (gR (D.2.1 s) 0) (mS1 s D))) := if_pos (Or.inr (Or.inr h159))
              have hR318 : Rp a313 (mS3 X a0 s (gR (D.2.1 s) 0) (mS2 X a0 (u 23) s (gR (D.2.1 s) 0) (mS1 s D))) := by rw [eD318]; exact hR313
              have hd318 : Dok (n + 31) (mS3 X a0 s (gR (D.2.1 s) 0) (mS2 X a0 (u 23) s (gR (D.2.1 s) 0) (mS1 s D))) := by rw [eD318]; exact hd313
              have hs3 : 0 < (((mS3 X a0 s (gR (D.2.1 s) 0) (mS2 X a0 (u 23) s (gR (D.2.1 s) 0) (mS1 s D)))).2.1 s).length := by rw [mS3_2]; exact hs2.2
              refine M.run 3 (pc' := 171) (lv' := [some (vr o), some (vi ((s : Nat) : Int)), some (vi ((49 + 7 * (24 * s + 0) : Nat) : Int)), some (vi (gR (D.2.1 s) 0 0)), some (vi (((gR (D.2.1 s) 0 1).toNat : Nat) : Int)), some (vi ((gR (D.2.1 s) 0 4) - (gR (D.2.1 s) 0 3)))]) (st' := [vi 0, vi ((s : Nat) : Int), vr o]) rfl ?_
              refine M.callV (eX11_takeOut l G o am u a0 b0 (mS3 X a0 s (gR (D.2.1 s) 0) (mS2 X a0 (u 23) s (gR (D.2.1 s) 0) (mS1 s D))) _ ht hd318 (by omega)  s hs.1 0 hs3) cv_X11_301 cd_X11_takeOut rfl (st := []) rfl (isM_o hM313) (by decide) (by decide) rfl (Nat.zero_le _) (Nat.zero_le _) ⟨_, _, hM313, hR318, hF313, hB313⟩ (fun r320 w321 q322 => ?_)
              obtain ⟨q322r, a319, b319, hM319, hR319, hF319, hB319⟩ := q322
              rw [q322r]
              have hd319 : Dok (n + 31) (((mS3 X a0 s (gR (D.2.1 s) 0) (mS2 X a0 (u 23) s (gR (D.2.1 s) 0) (mS1 s D))).1, lsS (mS3 X a0 s (gR (D.2.1 s) 0) (mS2 X a0 (u 23) s (gR (D.2.1 s) 0) (mS1 s D))).2.1 s (((mS3 X a0 s (gR (D.2.1 s) 0) (mS2 X a0 (u 23) s (gR (D.2.1 s) 0) (mS1 s D))).2.1 s).eraseIdx 0), (mS3 X a0 s (gR (D.2.1 s) 0) (mS2 X a0 (u 23) s (gR (D.2.1 s) 0) (mS1 s D))).2.2)) := Dok_takeO hd318
              have es319 : (((mS3 X a0 s (gR (D.2.1 s) 0) (mS2 X a0 (u 23) s (gR (D.2.1 s) 0) (mS1 s D))).1, lsS (mS3 X a0 s (gR (D.2.1 s) 0) (mS2 X a0 (u 23) s (gR (D.2.1 s) 0) (mS1 s D))).2.1 s (((mS3 X a0 s (gR (D.2.1 s) 0) (mS2 X a0 (u 23) s (gR (D.2.1 s) 0) (mS1 s D))).2.1 s).eraseIdx 0), (mS3 X a0 s (gR (D.2.1 s) 0) (mS2 X a0 (u 23) s (gR (D.2.1 s) 0) (mS1 s D))).2.2)).1 = (mS3 X a0 s (gR (D.2.1 s) 0) (mS2 X a0 (u 23) s (gR (D.2.1 s) 0) (mS1 s D))).1 := rfl
              exact M.vret rfl (Nat.zero_le _) (Nat.zero_le _) ⟨rfl, _, _, hM319, hR319, hF319, hB319⟩
    · skip
      refine M.run 2 (pc' := 88) (lv' := [some (vr o), some (vi ((s : Nat) : Int)), some (vi ((49 + 7 * (24 * s + 0) : Nat) : Int)), some (vi (gR (D.2.1 s) 0 0)), some (vi (((gR (D.2.1 s) 0 1).toNat : Nat) : Int)), some (vi ((gR (D.2.1 s) 0 4) - (gR (D.2.1 s) 0 3)))]) (st' := [vi 10, vr o]) rfl ?_
      refine M.callV (eX11_drawnBy l G o am u a0 b0 (mS1 s D) _ ht hd250 (by omega)  ) cv_X11_365 cd_X11_drawnBy rfl (st := []) rfl (isM_o hM248) (by decide) (by decide) rfl (Nat.zero_le _) (Nat.zero_le _) ⟨_, _, hM248, hR250, hF249, hB⟩ (fun r325 w326 q327 => ?_)
      obtain ⟨q327r, a324, b324, hM324, hR324, hF324, hB324⟩ := q327
      rw [q327r]
      have hd324 : Dok (n + 31) (mAnew (mS1 s D)) := Dok_anew hd250
      have es324 : (mAnew (mS1 s D)).1 = (mAnew (mS1 s D)).1 := rfl
      have hdw := tm_b (x := (mS1 s D).1 19) (m := 10) (Dok_x hd250).1 (by decide)
      refine M.run 2 (pc' := 93) (lv' := [some (vr o), some (vi ((s : Nat) : Int)), some (vi ((49 + 7 * (24 * s + 0) : Nat) : Int)), some (vi (gR (D.2.1 s) 0 0)), some (vi (((gR (D.2.1 s) 0 1).toNat : Nat) : Int)), some (vi ((gR (D.2.1 s) 0 4) - (gR (D.2.1 s) 0 3)))]) (st' := [vr o, vr o, vi (((mS1 s D).1 19).tmod 10)]) rfl ?_
      refine M.get fl_X11_7 rfl (isM_o hM324) (kf := 0) (v := vr (am 0)) rfl ?_
      refine M.run 1 (pc' := 97) (lv' := [some (vr o), some (vi ((s : Nat) : Int)), some (vi ((49 + 7 * (24 * s + 0) : Nat) : Int)), some (vi (gR (D.2.1 s) 0 0)), some (vi (((gR (D.2.1 s) 0 1).toNat : Nat) : Int)), some (vi ((gR (D.2.1 s) 0 4) - (gR (D.2.1 s) 0 3)))]) (st' := [vi 2, vr (am 0), vr o, vi (((mS1 s D).1 19).tmod 10)]) rfl ?_
      refine M.ialdN (2) rfl (isM_a hM324) (by decide) (by decide) ?_
      rw [show a324 2 = a0 2 from hF324 2 (Or.inl (by decide))]
      refine M.run 3 (pc' := 103) (lv' := [some (vr o), some (vi ((s : Nat) : Int)), some (vi ((49 + 7 * (24 * s + 0) : Nat) : Int)), some (vi (gR (D.2.1 s) 0 0)), some (vi (((gR (D.2.1 s) 0 1).toNat : Nat) : Int)), some (vi ((gR (D.2.1 s) 0 4) - (gR (D.2.1 s) 0 3)))]) (st' := [vi ((gR (D.2.1 s) 0 4) - (gR (D.2.1 s) 0 3)), vi (((gR (D.2.1 s) 0 1).toNat : Nat) : Int), vi (gR (D.2.1 s) 0 0), vi (a0 2), vr o, vi (((mS1 s D).1 19).tmod 10)]) rfl ?_
      refine M.callV (eX11_losesBy l G o am u a0 b0 (mAnew (mS1 s D)) _ ht hd324 (by omega)  (a0 2) (gR (D.2.1 s) 0 0) (((gR (D.2.1 s) 0 1).toNat : Nat) : Int) ((gR (D.2.1 s) 0 4) - (gR (D.2.1 s) 0 3)) (by omega) (by omega) (by omega) X hX.1) cv_X11_368 cd_X11_losesBy rfl (st := [vi (((mS1 s D).1 19).tmod 10)]) rfl (isM_o hM324) (by decide) (by decide) rfl (Nat.zero_le _) (Nat.zero_le _) ⟨_, _, hM324, hR324, hF324, hB324⟩ (fun r330 w331 q332 => ?_)
      obtain ⟨q332r, a329, b329, hM329, hR329, hF329, hB329⟩ := q332
      rw [q332r]
      have hd329 : Dok (n + 31) ((mAnew (mS1 s D))) := hd324
      have es329 : ((mAnew (mS1 s D))).1 = (mAnew (mS1 s D)).1 := rfl
      have hlo := mLossA_b (X := X) (a := stA a0 (mAnew (mS1 s D))) (z := (a0 2)) (kind := (gR (D.2.1 s) 0 0)) (c := (((gR (D.2.1 s) 0 1).toNat : Nat) : Int)) (x := ((gR (D.2.1 s) 0 4) - (gR (D.2.1 s) 0 3)))
      refine M.icmp_ge (tgt := 131) rfl (qI (by omega)) (qI (by omega)) (by decide) (fun h106 => ?_) (fun h106 => ?_)
      · skip
        refine M.run 3 (pc' := 134) (lv' := [some (vr o), some (vi ((s : Nat) : Int)), some (vi ((49 + 7 * (24 * s + 0) : Nat) : Int)), some (vi (gR (D.2.1 s) 0 0)), some (vi (((gR (D.2.1 s) 0 1).toNat : Nat) : Int)), some (vi ((gR (D.2.1 s) 0 4) - (gR (D.2.1 s) 0 3)))]) (st' := [vi ((49 + 7 * (24 * s + 0) : Nat) : Int), vi ((s : Nat) : Int), vr o]) rfl ?_
        refine M.callV (eX11_fly l G o am u a0 b0 ((mAnew (mS1 s D))) _ ht hd329 (by omega)  s ⟨hs.1, hs.2, hfl⟩ (49 + 7 * (24 * s + 0)) (by omega)) cv_X11_372 cd_X11_fly rfl (st := []) rfl (isM_o hM329) (by decide) (by decide) rfl (Nat.zero_le _) (Nat.zero_le _) ⟨_, _, hM329, hR329, hF329, hB329⟩ (fun r335 w336 q337 => ?_)
        obtain ⟨q337r, a334, b334, hM334, hR334, hF334, hB334⟩ := q337
        rw [q337r]
        have hd334 : Dok (n + 31) (mFly a0 s ((mAnew (mS1 s D)))) := Dok_fly ht hd329 hs hfl
        have es334 : (mFly a0 s ((mAnew (mS1 s D)))).1 = (mAnew (mS1 s D)).1 := es329
        have eD339 : mS2 X a0 (u 23) s (gR (D.2.1 s) 0) (mS1 s D) = (mFly a0 s ((mAnew (mS1 s D)))) := by unfold mS2; rw [eBy, if_pos h82, if_neg (Int.not_lt.mpr h106)]
        have hR339 : Rp a334 (mS2 X a0 (u 23) s (gR (D.2.1 s) 0) (mS1 s D)) := by rw [eD339]; exact hR334
        have hd339 : Dok (n + 31) (mS2 X a0 (u 23) s (gR (D.2.1 s) 0) (mS1 s D)) := by rw [eD339]; exact hd334
        have hs2 : s < 2 ∧ 0 < (((mS2 X a0 (u 23) s (gR (D.2.1 s) 0) (mS1 s D))).2.1 s).length := ⟨hs.1, by rw [mS2_2]; exact hs.2⟩
        refine M.run 1 (pc' := 138) (lv' := [some (vr o), some (vi ((s : Nat) : Int)), some (vi ((49 + 7 * (24 * s + 0) : Nat) : Int)), some (vi (gR (D.2.1 s) 0 0)), some (vi (((gR (D.2.1 s) 0 1).toNat : Nat) : Int)), some (vi ((gR (D.2.1 s) 0 4) - (gR (D.2.1 s) 0 3)))]) (st' := [vi (gR (D.2.1 s) 0 0)]) rfl ?_
        refine M.if_ne (tgt := 152) rfl (qI (by omega)) (by decide) (fun h138 => ?_) (fun h138 => ?_)
        · skip
          refine M.run 2 (pc' := 154) (lv' := [some (vr o), some (vi ((s : Nat) : Int)), some (vi ((49 + 7 * (24 * s + 0) : Nat) : Int)), some (vi (gR (D.2.1 s) 0 0)), some (vi (((gR (D.2.1 s) 0 1).toNat : Nat) : Int)), some (vi ((gR (D.2.1 s) 0 4) - (gR (D.2.1 s) 0 3)))]) (st' := [vi 1, vi (gR (D.2.1 s) 0 0)]) rfl ?_
          refine M.icmp_eq (tgt := 162) rfl (qI (by omega)) (qI (by decide)) (by decide) (fun h154 => ?_) (fun h154 => ?_)
          · skip
            refine M.run 3 (pc' := 165) (lv' := [some (vr o), some (vi ((s : Nat) : Int)), some (vi ((49 + 7 * (24 * s + 0) : Nat) : Int)), some (vi (gR (D.2.1 s) 0 0)), some (vi (((gR (D.2.1 s) 0 1).toNat : Nat) : Int)), some (vi ((gR (D.2.1 s) 0 4) - (gR (D.2.1 s) 0 3)))]) (st' := [vi ((49 + 7 * (24 * s + 0) : Nat) : Int), vi ((s : Nat) : Int), vr o]) rfl ?_
            refine M.callV (eX11_startTimer l G o am u a0 b0 (mS2 X a0 (u 23) s (gR (D.2.1 s) 0) (mS1 s D)) _ ht hd339 (by omega)  s hs2 (49 + 7 * (24 * s + 0)) (by omega) X hX) cv_X11_375 cd_X11_startTimer rfl (st := []) rfl (isM_o hM334) (by decide) (by decide) rfl (Nat.zero_le _) (Nat.zero_le _) ⟨_, _, hM334, hR339, hF334, hB334⟩ (fun r341 w342 q343 => ?_)
            obtain ⟨q343r, a340, b340, hM340, hR340, hF340, hB340⟩ := q343
            rw [q343r]
            have hd340 : Dok (n + 31) (mTimer X a0 s (mS2 X a0 (u 23) s (gR (D.2.1 s) 0) (mS1 s D))) := Dok_timer ht hd339 hs2
            have es340 : (mTimer X a0 s (mS2 X a0 (u 23) s (gR (D.2.1 s) 0) (mS1 s D))).1 = (mTimer X a0 s (mS2 X a0 (u 23) s (gR (D.2.1 s) 0) (mS1 s D))).1 := rfl
            have eD345 : mS3 X a0 s (gR (D.2.1 s) 0) (mS2 X a0 (u 23) s (gR (D.2.1 s) 0) (mS1 s D)) = (mTimer X a0 s (mS2 X a0 (u 23) s (gR (D.2.1 s) 0) (mS1 s D))) := if_pos (Or.inr (Or.inl h154))
            have hR345 : Rp a340 (mS3 X a0 s (gR (D.2.1 s) 0) (mS2 X a0 (u 23) s (gR (D.2.1 s) 0) (mS1 s D))) := by rw [eD345]; exact hR340
            have hd345 : Dok (n + 31) (mS3 X a0 s (gR (D.2.1 s) 0) (mS2 X a0 (u 23) s (gR (D.2.1 s) 0) (mS1 s D))) := by rw [eD345]; exact hd340
            have hs3 : 0 < (((mS3 X a0 s (gR (D.2.1 s) 0) (mS2 X a0 (u 23) s (gR (D.2.1 s) 0) (mS1 s D)))).2.1 s).length := by rw [mS3_2]; exact hs2.2
            refine M.run 3 (pc' := 171) (lv' := [some (vr o), some (vi ((s : Nat) : Int)), some (vi ((49 + 7 * (24 * s + 0) : Nat) : Int)), some (vi (gR (D.2.1 s) 0 0)), some (vi (((gR (D.2.1 s) 0 1).toNat : Nat) : Int)), some (vi ((gR (D.2.1 s) 0 4) - (gR (D.2.1 s) 0 3)))]) (st' := [vi 0, vi ((s : Nat) : Int), vr o]) rfl ?_
            refine M.callV (eX11_takeOut l G o am u a0 b0 (mS3 X a0 s (gR (D.2.1 s) 0) (mS2 X a0 (u 23) s (gR (D.2.1 s) 0) (mS1 s D))) _ ht hd345 (by omega)  s hs.1 0 hs3) cv_X11_301 cd_X11_takeOut rfl (st := []) rfl (isM_o hM340) (by decide) (by decide) rfl (Nat.zero_le _) (Nat.zero_le _) ⟨_, _, hM340, hR345, hF340, hB340⟩ (fun r347 w348 q349 => ?_)
            obtain ⟨q349r, a346, b346, hM346, hR346, hF346, hB346⟩ := q349
            rw [q349r]
            have hd346 : Dok (n + 31) (((mS3 X a0 s (gR (D.2.1 s) 0) (mS2 X a0 (u 23) s (gR (D.2.1 s) 0) (mS1 s D))).1, lsS (mS3 X a0 s (gR (D.2.1 s) 0) (mS2 X a0 (u 23) s (gR (D.2.1 s) 0) (mS1 s D))).2.1 s (((mS3 X a0 s (gR (D.2.1 s) 0) (mS2 X a0 (u 23) s (gR (D.2.1 s) 0) (mS1 s D))).2.1 s).eraseIdx 0), (mS3 X a0 s (gR (D.2.1 s) 0) (mS2 X a0 (u 23) s (gR (D.2.1 s) 0) (mS1 s D))).2.2)) := Dok_takeO hd345
            have es346 : (((mS3 X a0 s (gR (D.2.1 s) 0) (mS2 X a0 (u 23) s (gR (D.2.1 s) 0) (mS1 s D))).1, lsS (mS3 X a0 s (gR (D.2.1 s) 0) (mS2 X a0 (u 23) s (gR (D.2.1 s) 0) (mS1 s D))).2.1 s (((mS3 X a0 s (gR (D.2.1 s) 0) (mS2 X a0 (u 23) s (gR (D.2.1 s) 0) (mS1 s D))).2.1 s).eraseIdx 0), (mS3 X a0 s (gR (D.2.1 s) 0) (mS2 X a0 (u 23) s (gR (D.2.1 s) 0) (mS1 s D))).2.2)).1 = (mS3 X a0 s (gR (D.2.1 s) 0) (mS2 X a0 (u 23) s (gR (D.2.1 s) 0) (mS1 s D))).1 := rfl
            exact M.vret rfl (Nat.zero_le _) (Nat.zero_le _) ⟨rfl, _, _, hM346, hR346, hF346, hB346⟩
          · skip
            refine M.run 2 (pc' := 159) (lv' := [some (vr o), some (vi ((s : Nat) : Int)), some (vi ((49 + 7 * (24 * s + 0) : Nat) : Int)), some (vi (gR (D.2.1 s) 0 0)), some (vi (((gR (D.2.1 s) 0 1).toNat : Nat) : Int)), some (vi ((gR (D.2.1 s) 0 4) - (gR (D.2.1 s) 0 3)))]) (st' := [vi 3, vi (gR (D.2.1 s) 0 0)]) rfl ?_
            refine M.icmp_ne (tgt := 168) rfl (qI (by omega)) (qI (by decide)) (by decide) (fun h159 => ?_) (fun h159 => ?_)
            · skip
              have eD351 : mS3 X a0 s (gR (D.2.1 s) 0) (mS2 X a0 (u 23) s (gR (D.2.1 s) 0) (mS1 s D)) = (mS2 X a0 (u 23) s (gR (D.2.1 s) 0) (mS1 s D)) := if_neg (by omega)
              have hR351 : Rp a334 (mS3 X a0 s (gR (D.2.1 s) 0) (mS2 X a0 (u 23) s (gR (D.2.1 s) 0) (mS1 s D))) := by rw [eD351]; exact hR339
              have hd351 : Dok (n + 31) (mS3 X a0 s (gR (D.2.1 s) 0) (mS2 X a0 (u 23) s (gR (D.2.1 s) 0) (mS1 s D))) := by rw [eD351]; exact hd339
              have hs3 : 0 < (((mS3 X a0 s (gR (D.2.1 s) 0) (mS2 X a0 (u 23) s (gR (D.2.1 s) 0) (mS1 s D)))).2.1 s).length := by rw [mS3_2]; exact hs2.2
              refine M.run 3 (pc' := 171) (lv' := [some (vr o), some (vi ((s : Nat) : Int)), some (vi ((49 + 7 * (24 * s + 0) : Nat) : Int)), some (vi (gR (D.2.1 s) 0 0)), some (vi (((gR (D.2.1 s) 0 1).toNat : Nat) : Int)), some (vi ((gR (D.2.1 s) 0 4) - (gR (D.2.1 s) 0 3)))]) (st' := [vi 0, vi ((s : Nat) : Int), vr o]) rfl ?_
              refine M.callV (eX11_takeOut l G o am u a0 b0 (mS3 X a0 s (gR (D.2.1 s) 0) (mS2 X a0 (u 23) s (gR (D.2.1 s) 0) (mS1 s D))) _ ht hd351 (by omega)  s hs.1 0 hs3) cv_X11_301 cd_X11_takeOut rfl (st := []) rfl (isM_o hM334) (by decide) (by decide) rfl (Nat.zero_le _) (Nat.zero_le _) ⟨_, _, hM334, hR351, hF334, hB334⟩ (fun r353 w354 q355 => ?_)
              obtain ⟨q355r, a352, b352, hM352, hR352, hF352, hB352⟩ := q355
              rw [q355r]
              have hd352 : Dok (n + 31) (((mS3 X a0 s (gR (D.2.1 s) 0) (mS2 X a0 (u 23) s (gR (D.2.1 s) 0) (mS1 s D))).1, lsS (mS3 X a0 s (gR (D.2.1 s) 0) (mS2 X a0 (u 23) s (gR (D.2.1 s) 0) (mS1 s D))).2.1 s (((mS3 X a0 s (gR (D.2.1 s) 0) (mS2 X a0 (u 23) s (gR (D.2.1 s) 0) (mS1 s D))).2.1 s).eraseIdx 0), (mS3 X a0 s (gR (D.2.1 s) 0) (mS2 X a0 (u 23) s (gR (D.2.1 s) 0) (mS1 s D))).2.2)) := Dok_takeO hd351
              have es352 : (((mS3 X a0 s (gR (D.2.1 s) 0) (mS2 X a0 (u 23) s (gR (D.2.1 s) 0) (mS1 s D))).1, lsS (mS3 X a0 s (gR (D.2.1 s) 0) (mS2 X a0 (u 23) s (gR (D.2.1 s) 0) (mS1 s D))).2.1 s (((mS3 X a0 s (gR (D.2.1 s) 0) (mS2 X a0 (u 23) s (gR (D.2.1 s) 0) (mS1 s D))).2.1 s).eraseIdx 0), (mS3 X a0 s (gR (D.2.1 s) 0) (mS2 X a0 (u 23) s (gR (D.2.1 s) 0) (mS1 s D))).2.2)).1 = (mS3 X a0 s (gR (D.2.1 s) 0) (mS2 X a0 (u 23) s (gR (D.2.1 s) 0) (mS1 s D))).1 := rfl
              exact M.vret rfl (Nat.zero_le _) (Nat.zero_le _) ⟨rfl, _, _, hM352, hR352, hF352, hB352⟩
            · skip
              refine M.run 3 (pc' := 165) (lv' := [some (vr o), some (vi ((s : Nat) : Int)), some (vi ((49 + 7 * (24 * s + 0) : Nat) : Int)), some (vi (gR (D.2.1 s) 0 0)), some (vi (((gR (D.2.1 s) 0 1).toNat : Nat) : Int)), some (vi ((gR (D.2.1 s) 0 4) - (gR (D.2.1 s) 0 3)))]) (st' := [vi ((49 + 7 * (24 * s + 0) : Nat) : Int), vi ((s : Nat) : Int), vr o]) rfl ?_
              refine M.callV (eX11_startTimer l G o am u a0 b0 (mS2 X a0 (u 23) s (gR (D.2.1 s) 0) (mS1 s D)) _ ht hd339 (by omega)  s hs2 (49 + 7 * (24 * s + 0)) (by omega) X hX) cv_X11_375 cd_X11_startTimer rfl (st := []) rfl (isM_o hM334) (by decide) (by decide) rfl (Nat.zero_le _) (Nat.zero_le _) ⟨_, _, hM334, hR339, hF334, hB334⟩ (fun r358 w359 q360 => ?_)
              obtain ⟨q360r, a357, b357, hM357, hR357, hF357, hB357⟩ := q360
              rw [q360r]
              have hd357 : Dok (n + 31) (mTimer X a0 s (mS2 X a0 (u 23) s (gR (D.2.1 s) 0) (mS1 s D))) := Dok_timer ht hd339 hs2
              have es357 : (mTimer X a0 s (mS2 X a0 (u 23) s (gR (D.2.1 s) 0) (mS1 s D))).1 = (mTimer X a0 s (mS2 X a0 (u 23) s (gR (D.2.1 s) 0) (mS1 s D))).1 := rfl
              have eD362 : mS3 X a0 s (gR (D.2.1 s) 0) (mS2 X a0 (u 23) s (gR (D.2.1 s) 0) (mS1 s D)) = (mTimer X a0 s (mS2 X a0 (u 23) s (gR (D.2.1 s) 0) (mS1 s D))) := if_pos (Or.inr (Or.inr h159))
              have hR362 : Rp a357 (mS3 X a0 s (gR (D.2.1 s) 0) (mS2 X a0 (u 23) s (gR (D.2.1 s) 0) (mS1 s D))) := by rw [eD362]; exact hR357
              have hd362 : Dok (n + 31) (mS3 X a0 s (gR (D.2.1 s) 0) (mS2 X a0 (u 23) s (gR (D.2.1 s) 0) (mS1 s D))) := by rw [eD362]; exact hd357
              have hs3 : 0 < (((mS3 X a0 s (gR (D.2.1 s) 0) (mS2 X a0 (u 23) s (gR (D.2.1 s) 0) (mS1 s D)))).2.1 s).length := by rw [mS3_2]; exact hs2.2
              refine M.run 3 (pc' := 171) (lv' := [some (vr o), some (vi ((s : Nat) : Int)), some (vi ((49 + 7 * (24 * s + 0) : Nat) : Int)), some (vi (gR (D.2.1 s) 0 0)), some (vi (((gR (D.2.1 s) 0 1).toNat : Nat) : Int)), some (vi ((gR (D.2.1 s) 0 4) - (gR (D.2.1 s) 0 3)))]) (st' := [vi 0, vi ((s : Nat) : Int), vr o]) rfl ?_
              refine M.callV (eX11_takeOut l G o am u a0 b0 (mS3 X a0 s (gR (D.2.1 s) 0) (mS2 X a0 (u 23) s (gR (D.2.1 s) 0) (mS1 s D))) _ ht hd362 (by omega)  s hs.1 0 hs3) cv_X11_301 cd_X11_takeOut rfl (st := []) rfl (isM_o hM357) (by decide) (by decide) rfl (Nat.zero_le _) (Nat.zero_le _) ⟨_, _, hM357, hR362, hF357, hB357⟩ (fun r364 w365 q366 => ?_)
              obtain ⟨q366r, a363, b363, hM363, hR363, hF363, hB363⟩ := q366
              rw [q366r]
              have hd363 : Dok (n + 31) (((mS3 X a0 s (gR (D.2.1 s) 0) (mS2 X a0 (u 23) s (gR (D.2.1 s) 0) (mS1 s D))).1, lsS (mS3 X a0 s (gR (D.2.1 s) 0) (mS2 X a0 (u 23) s (gR (D.2.1 s) 0) (mS1 s D))).2.1 s (((mS3 X a0 s (gR (D.2.1 s) 0) (mS2 X a0 (u 23) s (gR (D.2.1 s) 0) (mS1 s D))).2.1 s).eraseIdx 0), (mS3 X a0 s (gR (D.2.1 s) 0) (mS2 X a0 (u 23) s (gR (D.2.1 s) 0) (mS1 s D))).2.2)) := Dok_takeO hd362
              have es363 : (((mS3 X a0 s (gR (D.2.1 s) 0) (mS2 X a0 (u 23) s (gR (D.2.1 s) 0) (mS1 s D))).1, lsS (mS3 X a0 s (gR (D.2.1 s) 0) (mS2 X a0 (u 23) s (gR (D.2.1 s) 0) (mS1 s D))).2.1 s (((mS3 X a0 s (gR (D.2.1 s) 0) (mS2 X a0 (u 23) s (gR (D.2.1 s) 0) (mS1 s D))).2.1 s).eraseIdx 0), (mS3 X a0 s (gR (D.2.1 s) 0) (mS2 X a0 (u 23) s (gR (D.2.1 s) 0) (mS1 s D))).2.2)).1 = (mS3 X a0 s (gR (D.2.1 s) 0) (mS2 X a0 (u 23) s (gR (D.2.1 s) 0) (mS1 s D))).1 := rfl
              exact M.vret rfl (Nat.zero_le _) (Nat.zero_le _) ⟨rfl, _, _, hM363, hR363, hF363, hB363⟩
        · skip
          refine M.run 1 (pc' := 142) (lv' := [some (vr o), some (vi ((s : Nat) : Int)), some (vi ((49 + 7 * (24 * s + 0) : Nat) : Int)), some (vi (gR (D.2.1 s) 0 0)), some (vi (((gR (D.2.1 s) 0 1).toNat : Nat) : Int)), some (vi ((gR (D.2.1 s) 0 4) - (gR (D.2.1 s) 0 3)))]) (st' := [vr o]) rfl ?_
          refine M.get fl_X11_7 rfl (isM_o hM334) (kf := 0) (v := vr (am 0)) rfl ?_
          refine M.run 3 (pc' := 148) (lv' := [some (vr o), some (vi ((s : Nat) : Int)), some (vi ((49 + 7 * (24 * s + 0) : Nat) : Int)), some (vi (gR (D.2.1 s) 0 0)), some (vi (((gR (D.2.1 s) 0 1).toNat : Nat) : Int)), some (vi ((gR (D.2.1 s) 0 4) - (gR (D.2.1 s) 0 3)))]) (st' := [vi (((49 + 7 * (24 * s + 0) : Nat) : Int) + 2), vr (am 0)]) rfl ?_
          refine M.ialdN (49 + 7 * (24 * s + 0) + 2) rfl (isM_a hM334) (by omega) (by decide) ?_
          rw [show a334 (49 + 7 * (24 * s + 0) + 2) = gR (D.2.1 s) 0 2 from (show _ = gR (D.2.1 s) 0 2 from by have q := Rp_lx hR339 hs2.1 hs2.2 (x := (49 + 7 * (24 * s + 0))) (k := 2) (by omega) (by decide); rw [mS2_2] at q; exact q)]
          refine M.if_gt (tgt := 162) rfl (qI (by omega)) (by decide) (fun h149 => ?_) (fun h149 => ?_)
          · skip
            refine M.run 3 (pc' := 165) (lv' := [some (vr o), some (vi ((s : Nat) : Int)), some (vi ((49 + 7 * (24 * s + 0) : Nat) : Int)), some (vi (gR (D.2.1 s) 0 0)), some (vi (((gR (D.2.1 s) 0 1).toNat : Nat) : Int)), some (vi ((gR (D.2.1 s) 0 4) - (gR (D.2.1 s) 0 3)))]) (st' := [vi ((49 + 7 * (24 * s + 0) : Nat) : Int), vi ((s : Nat) : Int), vr o]) rfl ?_
            refine M.callV (eX11_startTimer l G o am u a0 b0 (mS2 X a0 (u 23) s (gR (D.2.1 s) 0) (mS1 s D)) _ ht hd339 (by omega)  s hs2 (49 + 7 * (24 * s + 0)) (by omega) X hX) cv_X11_375 cd_X11_startTimer rfl (st := []) rfl (isM_o hM334) (by decide) (by decide) rfl (Nat.zero_le _) (Nat.zero_le _) ⟨_, _, hM334, hR339, hF334, hB334⟩ (fun r369 w370 q371 => ?_)
            obtain ⟨q371r, a368, b368, hM368, hR368, hF368, hB368⟩ := q371
            rw [q371r]
            have hd368 : Dok (n + 31) (mTimer X a0 s (mS2 X a0 (u 23) s (gR (D.2.1 s) 0) (mS1 s D))) := Dok_timer ht hd339 hs2
            have es368 : (mTimer X a0 s (mS2 X a0 (u 23) s (gR (D.2.1 s) 0) (mS1 s D))).1 = (mTimer X a0 s (mS2 X a0 (u 23) s (gR (D.2.1 s) 0) (mS1 s D))).1 := rfl
            have eD373 : mS3 X a0 s (gR (D.2.1 s) 0) (mS2 X a0 (u 23) s (gR (D.2.1 s) 0) (mS1 s D)) = (mTimer X a0 s (mS2 X a0 (u 23) s (gR (D.2.1 s) 0) (mS1 s D))) := if_pos (Or.inl (And.intro h138 h149))
            have hR373 : Rp a368 (mS3 X a0 s (gR (D.2.1 s) 0) (mS2 X a0 (u 23) s (gR (D.2.1 s) 0) (mS1 s D))) := by rw [eD373]; exact hR368
            have hd373 : Dok (n + 31) (mS3 X a0 s (gR (D.2.1 s) 0) (mS2 X a0 (u 23) s (gR (D.2.1 s) 0) (mS1 s D))) := by rw [eD373]; exact hd368
            have hs3 : 0 < (((mS3 X a0 s (gR (D.2.1 s) 0) (mS2 X a0 (u 23) s (gR (D.2.1 s) 0) (mS1 s D)))).2.1 s).length := by rw [mS3_2]; exact hs2.2
            refine M.run 3 (pc' := 171) (lv' := [some (vr o), some (vi ((s : Nat) : Int)), some (vi ((49 + 7 * (24 * s + 0) : Nat) : Int)), some (vi (gR (D.2.1 s) 0 0)), some (vi (((gR (D.2.1 s) 0 1).toNat : Nat) : Int)), some (vi ((gR (D.2.1 s) 0 4) - (gR (D.2.1 s) 0 3)))]) (st' := [vi 0, vi ((s : Nat) : Int), vr o]) rfl ?_
            refine M.callV (eX11_takeOut l G o am u a0 b0 (mS3 X a0 s (gR (D.2.1 s) 0) (mS2 X a0 (u 23) s (gR (D.2.1 s) 0) (mS1 s D))) _ ht hd373 (by omega)  s hs.1 0 hs3) cv_X11_301 cd_X11_takeOut rfl (st := []) rfl (isM_o hM368) (by decide) (by decide) rfl (Nat.zero_le _) (Nat.zero_le _) ⟨_, _, hM368, hR373, hF368, hB368⟩ (fun r375 w376 q377 => ?_)
            obtain ⟨q377r, a374, b374, hM374, hR374, hF374, hB374⟩ := q377
            rw [q377r]
            have hd374 : Dok (n + 31) (((mS3 X a0 s (gR (D.2.1 s) 0) (mS2 X a0 (u 23) s (gR (D.2.1 s) 0) (mS1 s D))).1, lsS (mS3 X a0 s (gR (D.2.1 s) 0) (mS2 X a0 (u 23) s (gR (D.2.1 s) 0) (mS1 s D))).2.1 s (((mS3 X a0 s (gR (D.2.1 s) 0) (mS2 X a0 (u 23) s (gR (D.2.1 s) 0) (mS1 s D))).2.1 s).eraseIdx 0), (mS3 X a0 s (gR (D.2.1 s) 0) (mS2 X a0 (u 23) s (gR (D.2.1 s) 0) (mS1 s D))).2.2)) := Dok_takeO hd373
            have es374 : (((mS3 X a0 s (gR (D.2.1 s) 0) (mS2 X a0 (u 23) s (gR (D.2.1 s) 0) (mS1 s D))).1, lsS (mS3 X a0 s (gR (D.2.1 s) 0) (mS2 X a0 (u 23) s (gR (D.2.1 s) 0) (mS1 s D))).2.1 s (((mS3 X a0 s (gR (D.2.1 s) 0) (mS2 X a0 (u 23) s (gR (D.2.1 s) 0) (mS1 s D))).2.1 s).eraseIdx 0), (mS3 X a0 s (gR (D.2.1 s) 0) (mS2 X a0 (u 23) s (gR (D.2.1 s) 0) (mS1 s D))).2.2)).1 = (mS3 X a0 s (gR (D.2.1 s) 0) (mS2 X a0 (u 23) s (gR (D.2.1 s) 0) (mS1 s D))).1 := rfl
            exact M.vret rfl (Nat.zero_le _) (Nat.zero_le _) ⟨rfl, _, _, hM374, hR374, hF374, hB374⟩
          · skip
            refine M.run 2 (pc' := 154) (lv' := [some (vr o), some (vi ((s : Nat) : Int)), some (vi ((49 + 7 * (24 * s + 0) : Nat) : Int)), some (vi (gR (D.2.1 s) 0 0)), some (vi (((gR (D.2.1 s) 0 1).toNat : Nat) : Int)), some (vi ((gR (D.2.1 s) 0 4) - (gR (D.2.1 s) 0 3)))]) (st' := [vi 1, vi (gR (D.2.1 s) 0 0)]) rfl ?_
            refine M.icmp_eq (tgt := 162) rfl (qI (by omega)) (qI (by decide)) (by decide) (fun h154 => ?_) (fun h154 => ?_)
            · skip
              refine M.run 3 (pc' := 165) (lv' := [some (vr o), some (vi ((s : Nat) : Int)), some (vi ((49 + 7 * (24 * s + 0) : Nat) : Int)), some (vi (gR (D.2.1 s) 0 0)), some (vi (((gR (D.2.1 s) 0 1).toNat : Nat) : Int)), some (vi ((gR (D.2.1 s) 0 4) - (gR (D.2.1 s) 0 3)))]) (st' := [vi ((49 + 7 * (24 * s + 0) : Nat) : Int), vi ((s : Nat) : Int), vr o]) rfl ?_
              refine M.callV (eX11_startTimer l G o am u a0 b0 (mS2 X a0 (u 23) s (gR (D.2.1 s) 0) (mS1 s D)) _ ht hd339 (by omega)  s hs2 (49 + 7 * (24 * s + 0)) (by omega) X hX) cv_X11_375 cd_X11_startTimer rfl (st := []) rfl (isM_o hM334) (by decide) (by decide) rfl (Nat.zero_le _) (Nat.zero_le _) ⟨_, _, hM334, hR339, hF334, hB334⟩ (fun r380 w381 q382 => ?_)
              obtain ⟨q382r, a379, b379, hM379, hR379, hF379, hB379⟩ := q382
              rw [q382r]
              have hd379 : Dok (n + 31) (mTimer X a0 s (mS2 X a0 (u 23) s (gR (D.2.1 s) 0) (mS1 s D))) := Dok_timer ht hd339 hs2
              have es379 : (mTimer X a0 s (mS2 X a0 (u 23) s (gR (D.2.1 s) 0) (mS1 s D))).1 = (mTimer X a0 s (mS2 X a0 (u 23) s (gR (D.2.1 s) 0) (mS1 s D))).1 := rfl
              have eD384 : mS3 X a0 s (gR (D.2.1 s) 0) (mS2 X a0 (u 23) s (gR (D.2.1 s) 0) (mS1 s D)) = (mTimer X a0 s (mS2 X a0 (u 23) s (gR (D.2.1 s) 0) (mS1 s D))) := if_pos (Or.inr (Or.inl h154))
              have hR384 : Rp a379 (mS3 X a0 s (gR (D.2.1 s) 0) (mS2 X a0 (u 23) s (gR (D.2.1 s) 0) (mS1 s D))) := by rw [eD384]; exact hR379
              have hd384 : Dok (n + 31) (mS3 X a0 s (gR (D.2.1 s) 0) (mS2 X a0 (u 23) s (gR (D.2.1 s) 0) (mS1 s D))) := by rw [eD384]; exact hd379
              have hs3 : 0 < (((mS3 X a0 s (gR (D.2.1 s) 0) (mS2 X a0 (u 23) s (gR (D.2.1 s) 0) (mS1 s D)))).2.1 s).length := by rw [mS3_2]; exact hs2.2
              refine M.run 3 (pc' := 171) (lv' := [some (vr o), some (vi ((s : Nat) : Int)), some (vi ((49 + 7 * (24 * s + 0) : Nat) : Int)), some (vi (gR (D.2.1 s) 0 0)), some (vi (((gR (D.2.1 s) 0 1).toNat : Nat) : Int)), some (vi ((gR (D.2.1 s) 0 4) - (gR (D.2.1 s) 0 3)))]) (st' := [vi 0, vi ((s : Nat) : Int), vr o]) rfl ?_
              refine M.callV (eX11_takeOut l G o am u a0 b0 (mS3 X a0 s (gR (D.2.1 s) 0) (mS2 X a0 (u 23) s (gR (D.2.1 s) 0) (mS1 s D))) _ ht hd384 (by omega)  s hs.1 0 hs3) cv_X11_301 cd_X11_takeOut rfl (st := []) rfl (isM_o hM379) (by decide) (by decide) rfl (Nat.zero_le _) (Nat.zero_le _) ⟨_, _, hM379, hR384, hF379, hB379⟩ (fun r386 w387 q388 => ?_)
              obtain ⟨q388r, a385, b385, hM385, hR385, hF385, hB385⟩ := q388
              rw [q388r]
              have hd385 : Dok (n + 31) (((mS3 X a0 s (gR (D.2.1 s) 0) (mS2 X a0 (u 23) s (gR (D.2.1 s) 0) (mS1 s D))).1, lsS (mS3 X a0 s (gR (D.2.1 s) 0) (mS2 X a0 (u 23) s (gR (D.2.1 s) 0) (mS1 s D))).2.1 s (((mS3 X a0 s (gR (D.2.1 s) 0) (mS2 X a0 (u 23) s (gR (D.2.1 s) 0) (mS1 s D))).2.1 s).eraseIdx 0), (mS3 X a0 s (gR (D.2.1 s) 0) (mS2 X a0 (u 23) s (gR (D.2.1 s) 0) (mS1 s D))).2.2)) := Dok_takeO hd384
              have es385 : (((mS3 X a0 s (gR (D.2.1 s) 0) (mS2 X a0 (u 23) s (gR (D.2.1 s) 0) (mS1 s D))).1, lsS (mS3 X a0 s (gR (D.2.1 s) 0) (mS2 X a0 (u 23) s (gR (D.2.1 s) 0) (mS1 s D))).2.1 s (((mS3 X a0 s (gR (D.2.1 s) 0) (mS2 X a0 (u 23) s (gR (D.2.1 s) 0) (mS1 s D))).2.1 s).eraseIdx 0), (mS3 X a0 s (gR (D.2.1 s) 0) (mS2 X a0 (u 23) s (gR (D.2.1 s) 0) (mS1 s D))).2.2)).1 = (mS3 X a0 s (gR (D.2.1 s) 0) (mS2 X a0 (u 23) s (gR (D.2.1 s) 0) (mS1 s D))).1 := rfl
              exact M.vret rfl (Nat.zero_le _) (Nat.zero_le _) ⟨rfl, _, _, hM385, hR385, hF385, hB385⟩
            · skip
              refine M.run 2 (pc' := 159) (lv' := [some (vr o), some (vi ((s : Nat) : Int)), some (vi ((49 + 7 * (24 * s + 0) : Nat) : Int)), some (vi (gR (D.2.1 s) 0 0)), some (vi (((gR (D.2.1 s) 0 1).toNat : Nat) : Int)), some (vi ((gR (D.2.1 s) 0 4) - (gR (D.2.1 s) 0 3)))]) (st' := [vi 3, vi (gR (D.2.1 s) 0 0)]) rfl ?_
              refine M.icmp_ne (tgt := 168) rfl (qI (by omega)) (qI (by decide)) (by decide) (fun h159 => ?_) (fun h159 => ?_)
              · skip
                have eD390 : mS3 X a0 s (gR (D.2.1 s) 0) (mS2 X a0 (u 23) s (gR (D.2.1 s) 0) (mS1 s D)) = (mS2 X a0 (u 23) s (gR (D.2.1 s) 0) (mS1 s D)) := if_neg (by omega)
                have hR390 : Rp a334 (mS3 X a0 s (gR (D.2.1 s) 0) (mS2 X a0 (u 23) s (gR (D.2.1 s) 0) (mS1 s D))) := by rw [eD390]; exact hR339
                have hd390 : Dok (n + 31) (mS3 X a0 s (gR (D.2.1 s) 0) (mS2 X a0 (u 23) s (gR (D.2.1 s) 0) (mS1 s D))) := by rw [eD390]; exact hd339
                have hs3 : 0 < (((mS3 X a0 s (gR (D.2.1 s) 0) (mS2 X a0 (u 23) s (gR (D.2.1 s) 0) (mS1 s D)))).2.1 s).length := by rw [mS3_2]; exact hs2.2
                refine M.run 3 (pc' := 171) (lv' := [some (vr o), some (vi ((s : Nat) : Int)), some (vi ((49 + 7 * (24 * s + 0) : Nat) : Int)), some (vi (gR (D.2.1 s) 0 0)), some (vi (((gR (D.2.1 s) 0 1).toNat : Nat) : Int)), some (vi ((gR (D.2.1 s) 0 4) - (gR (D.2.1 s) 0 3)))]) (st' := [vi 0, vi ((s : Nat) : Int), vr o]) rfl ?_
                refine M.callV (eX11_takeOut l G o am u a0 b0 (mS3 X a0 s (gR (D.2.1 s) 0) (mS2 X a0 (u 23) s (gR (D.2.1 s) 0) (mS1 s D))) _ ht hd390 (by omega)  s hs.1 0 hs3) cv_X11_301 cd_X11_takeOut rfl (st := []) rfl (isM_o hM334) (by decide) (by decide) rfl (Nat.zero_le _) (Nat.zero_le _) ⟨_, _, hM334, hR390, hF334, hB334⟩ (fun r392 w393 q394 => ?_)
                obtain ⟨q394r, a391, b391, hM391, hR391, hF391, hB391⟩ := q394
                rw [q394r]
                have hd391 : Dok (n + 31) (((mS3 X a0 s (gR (D.2.1 s) 0) (mS2 X a0 (u 23) s (gR (D.2.1 s) 0) (mS1 s D))).1, lsS (mS3 X a0 s (gR (D.2.1 s) 0) (mS2 X a0 (u 23) s (gR (D.2.1 s) 0) (mS1 s D))).2.1 s (((mS3 X a0 s (gR (D.2.1 s) 0) (mS2 X a0 (u 23) s (gR (D.2.1 s) 0) (mS1 s D))).2.1 s).eraseIdx 0), (mS3 X a0 s (gR (D.2.1 s) 0) (mS2 X a0 (u 23) s (gR (D.2.1 s) 0) (mS1 s D))).2.2)) := Dok_takeO hd390
                have es391 : (((mS3 X a0 s (gR (D.2.1 s) 0) (mS2 X a0 (u 23) s (gR (D.2.1 s) 0) (mS1 s D))).1, lsS (mS3 X a0 s (gR (D.2.1 s) 0) (mS2 X a0 (u 23) s (gR (D.2.1 s) 0) (mS1 s D))).2.1 s (((mS3 X a0 s (gR (D.2.1 s) 0) (mS2 X a0 (u 23) s (gR (D.2.1 s) 0) (mS1 s D))).2.1 s).eraseIdx 0), (mS3 X a0 s (gR (D.2.1 s) 0) (mS2 X a0 (u 23) s (gR (D.2.1 s) 0) (mS1 s D))).2.2)).1 = (mS3 X a0 s (gR (D.2.1 s) 0) (mS2 X a0 (u 23) s (gR (D.2.1 s) 0) (mS1 s D))).1 := rfl
                exact M.vret rfl (Nat.zero_le _) (Nat.zero_le _) ⟨rfl, _, _, hM391, hR391, hF391, hB391⟩
              · skip
                refine M.run 3 (pc' := 165) (lv' := [some (vr o), some (vi ((s : Nat) : Int)), some (vi ((49 + 7 * (24 * s + 0) : Nat) : Int)), some (vi (gR (D.2.1 s) 0 0)), some (vi (((gR (D.2.1 s) 0 1).toNat : Nat) : Int)), some (vi ((gR (D.2.1 s) 0 4) - (gR (D.2.1 s) 0 3)))]) (st' := [vi ((49 + 7 * (24 * s + 0) : Nat) : Int), vi ((s : Nat) : Int), vr o]) rfl ?_
                refine M.callV (eX11_startTimer l G o am u a0 b0 (mS2 X a0 (u 23) s (gR (D.2.1 s) 0) (mS1 s D)) _ ht hd339 (by omega)  s hs2 (49 + 7 * (24 * s + 0)) (by omega) X hX) cv_X11_375 cd_X11_startTimer rfl (st := []) rfl (isM_o hM334) (by decide) (by decide) rfl (Nat.zero_le _) (Nat.zero_le _) ⟨_, _, hM334, hR339, hF334, hB334⟩ (fun r397 w398 q399 => ?_)
                obtain ⟨q399r, a396, b396, hM396, hR396, hF396, hB396⟩ := q399
                rw [q399r]
                have hd396 : Dok (n + 31) (mTimer X a0 s (mS2 X a0 (u 23) s (gR (D.2.1 s) 0) (mS1 s D))) := Dok_timer ht hd339 hs2
                have es396 : (mTimer X a0 s (mS2 X a0 (u 23) s (gR (D.2.1 s) 0) (mS1 s D))).1 = (mTimer X a0 s (mS2 X a0 (u 23) s (gR (D.2.1 s) 0) (mS1 s D))).1 := rfl
                have eD401 : mS3 X a0 s (gR (D.2.1 s) 0) (mS2 X a0 (u 23) s (gR (D.2.1 s) 0) (mS1 s D)) = (mTimer X a0 s (mS2 X a0 (u 23) s (gR (D.2.1 s) 0) (mS1 s D))) := if_pos (Or.inr (Or.inr h159))
                have hR401 : Rp a396 (mS3 X a0 s (gR (D.2.1 s) 0) (mS2 X a0 (u 23) s (gR (D.2.1 s) 0) (mS1 s D))) := by rw [eD401]; exact hR396
                have hd401 : Dok (n + 31) (mS3 X a0 s (gR (D.2.1 s) 0) (mS2 X a0 (u 23) s (gR (D.2.1 s) 0) (mS1 s D))) := by rw [eD401]; exact hd396
                have hs3 : 0 < (((mS3 X a0 s (gR (D.2.1 s) 0) (mS2 X a0 (u 23) s (gR (D.2.1 s) 0) (mS1 s D)))).2.1 s).length := by rw [mS3_2]; exact hs2.2
                refine M.run 3 (pc' := 171) (lv' := [some (vr o), some (vi ((s : Nat) : Int)), some (vi ((49 + 7 * (24 * s + 0) : Nat) : Int)), some (vi (gR (D.2.1 s) 0 0)), some (vi (((gR (D.2.1 s) 0 1).toNat : Nat) : Int)), some (vi ((gR (D.2.1 s) 0 4) - (gR (D.2.1 s) 0 3)))]) (st' := [vi 0, vi ((s : Nat) : Int), vr o]) rfl ?_
                refine M.callV (eX11_takeOut l G o am u a0 b0 (mS3 X a0 s (gR (D.2.1 s) 0) (mS2 X a0 (u 23) s (gR (D.2.1 s) 0) (mS1 s D))) _ ht hd401 (by omega)  s hs.1 0 hs3) cv_X11_301 cd_X11_takeOut rfl (st := []) rfl (isM_o hM396) (by decide) (by decide) rfl (Nat.zero_le _) (Nat.zero_le _) ⟨_, _, hM396, hR401, hF396, hB396⟩ (fun r403 w404 q405 => ?_)
                obtain ⟨q405r, a402, b402, hM402, hR402, hF402, hB402⟩ := q405
                rw [q405r]
                have hd402 : Dok (n + 31) (((mS3 X a0 s (gR (D.2.1 s) 0) (mS2 X a0 (u 23) s (gR (D.2.1 s) 0) (mS1 s D))).1, lsS (mS3 X a0 s (gR (D.2.1 s) 0) (mS2 X a0 (u 23) s (gR (D.2.1 s) 0) (mS1 s D))).2.1 s (((mS3 X a0 s (gR (D.2.1 s) 0) (mS2 X a0 (u 23) s (gR (D.2.1 s) 0) (mS1 s D))).2.1 s).eraseIdx 0), (mS3 X a0 s (gR (D.2.1 s) 0) (mS2 X a0 (u 23) s (gR (D.2.1 s) 0) (mS1 s D))).2.2)) := Dok_takeO hd401
                have es402 : (((mS3 X a0 s (gR (D.2.1 s) 0) (mS2 X a0 (u 23) s (gR (D.2.1 s) 0) (mS1 s D))).1, lsS (mS3 X a0 s (gR (D.2.1 s) 0) (mS2 X a0 (u 23) s (gR (D.2.1 s) 0) (mS1 s D))).2.1 s (((mS3 X a0 s (gR (D.2.1 s) 0) (mS2 X a0 (u 23) s (gR (D.2.1 s) 0) (mS1 s D))).2.1 s).eraseIdx 0), (mS3 X a0 s (gR (D.2.1 s) 0) (mS2 X a0 (u 23) s (gR (D.2.1 s) 0) (mS1 s D))).2.2)).1 = (mS3 X a0 s (gR (D.2.1 s) 0) (mS2 X a0 (u 23) s (gR (D.2.1 s) 0) (mS1 s D))).1 := rfl
                exact M.vret rfl (Nat.zero_le _) (Nat.zero_le _) ⟨rfl, _, _, hM402, hR402, hF402, hB402⟩
      · skip
        have hk18x := Dok_clk hd329
        have hk22x := Dok_lost hd329
        have hk22y : (((mAnew (mS1 s D)))).1 22 = D.1 22 := mAn_22.trans mS1_22
        refine M.run 1 (pc' := 110) (lv' := [some (vr o), some (vi ((s : Nat) : Int)), some (vi ((49 + 7 * (24 * s + 0) : Nat) : Int)), some (vi (gR (D.2.1 s) 0 0)), some (vi (((gR (D.2.1 s) 0 1).toNat : Nat) : Int)), some (vi ((gR (D.2.1 s) 0 4) - (gR (D.2.1 s) 0 3)))]) (st' := [vr o]) rfl ?_
        refine M.get fl_X11_7 rfl (isM_o hM329) (kf := 0) (v := vr (am 0)) rfl ?_
        refine M.run 2 (pc' := 116) (lv' := [some (vr o), some (vi ((s : Nat) : Int)), some (vi ((49 + 7 * (24 * s + 0) : Nat) : Int)), some (vi (gR (D.2.1 s) 0 0)), some (vi (((gR (D.2.1 s) 0 1).toNat : Nat) : Int)), some (vi ((gR (D.2.1 s) 0 4) - (gR (D.2.1 s) 0 3)))]) (st' := [vi 22, vr (am 0), vi 22, vr (am 0)]) rfl ?_
        refine M.ialdN (22) rfl (isM_a hM329) (by decide) (by decide) ?_
        rw [show a329 22 = (mAnew (mS1 s D)).1 22 from (Rp_s hR329 (k := 22) (by decide) (by decide) (by decide)).trans ((congrFun es329 _))]
        refine M.run 2 (pc' := 119) (lv' := [some (vr o), some (vi ((s : Nat) : Int)), some (vi ((49 + 7 * (24 * s + 0) : Nat) : Int)), some (vi (gR (D.2.1 s) 0 0)), some (vi (((gR (D.2.1 s) 0 1).toNat : Nat) : Int)), some (vi ((gR (D.2.1 s) 0 4) - (gR (D.2.1 s) 0 3)))]) (st' := [vi (((mAnew (mS1 s D)).1 22) + 1), vi 22, vr (am 0)]) rfl ?_
        refine M.iastN (22) rfl (isM_a hM329) (by decide) (by decide) ?_
        have hM408 := isM_setA hM329 (uN a329 22 (((mAnew (mS1 s D)).1 22) + 1))
        generalize up w331 (am 0) (Ar 0 30042 (uN a329 22 (((mAnew (mS1 s D)).1 22) + 1))) = w407 at hM408 ⊢
        have hR409 : Rp _ (mS 22 (((mAnew (mS1 s D)).1 22) + 1) ((mAnew (mS1 s D)))) := Rp_us hR329 (((mAnew (mS1 s D)).1 22) + 1) (k := 22) (by omega) (by omega) (by omega)
        have hF409 := Fr_u (k := 22) (v := ((mAnew (mS1 s D)).1 22) + 1) hF329 (by omega) (by omega)
        have hd409 := Dok_S (k := 22) (v := ((mAnew (mS1 s D)).1 22) + 1) hd329 (fun _ _ _ => by unfold Shi; (repeat' split) <;> omega)
        have es409 : (mS 22 (((mAnew (mS1 s D)).1 22) + 1) ((mAnew (mS1 s D)))).1 = uN ((mAnew (mS1 s D)).1) 22 (((mAnew (mS1 s D)).1 22) + 1) := by show uN _ _ _ = _; rw [es329]
        refine M.run 4 (pc' := 125) (lv' := [some (vr o), some (vi ((s : Nat) : Int)), some (vi ((49 + 7 * (24 * s + 0) : Nat) : Int)), some (vi (gR (D.2.1 s) 0 0)), some (vi (((gR (D.2.1 s) 0 1).toNat : Nat) : Int)), some (vi ((gR (D.2.1 s) 0 4) - (gR (D.2.1 s) 0 3)))]) (st' := [vi (gR (D.2.1 s) 0 0), vi (((gR (D.2.1 s) 0 1).toNat : Nat) : Int), vi 4, vr o]) rfl ?_
        refine M.callV (eX11_writeDown l G o am u a0 b0 (mS 22 (((mAnew (mS1 s D)).1 22) + 1) ((mAnew (mS1 s D)))) _ ht hd409 (by omega)  ((mAnew (mS1 s D)).1 18) (((congrFun es409 _)).trans (uN_o (by omega))) 4 (((gR (D.2.1 s) 0 1).toNat : Nat) : Int) (gR (D.2.1 s) 0 0) (by omega)) cv_X11_321 cd_X11_writeDown rfl (st := []) rfl (isM_o hM408) (by decide) (by decide) rfl (Nat.zero_le _) (Nat.zero_le _) ⟨_, _, hM408, hR409, hF409, hB329⟩ (fun r411 w412 q413 => ?_)
        obtain ⟨q413r, a410, b410, hM410, hR410, hF410, hB410⟩ := q413
        rw [q413r]
        have hd410 : Dok (n + 31) (mNote (rwB ((mAnew (mS1 s D)).1 18) 4 (((gR (D.2.1 s) 0 1).toNat : Nat) : Int) (gR (D.2.1 s) 0 0)) (mS 22 (((mAnew (mS1 s D)).1 22) + 1) ((mAnew (mS1 s D))))) := Dok_note hd409 (bokOk_B (by omega))
        have es410 : (mNote (rwB ((mAnew (mS1 s D)).1 18) 4 (((gR (D.2.1 s) 0 1).toNat : Nat) : Int) (gR (D.2.1 s) 0 0)) (mS 22 (((mAnew (mS1 s D)).1 22) + 1) ((mAnew (mS1 s D))))).1 = uN ((mAnew (mS1 s D)).1) 22 (((mAnew (mS1 s D)).1 22) + 1) := es409
        refine M.run 1 (pc' := 137) (lv' := [some (vr o), some (vi ((s : Nat) : Int)), some (vi ((49 + 7 * (24 * s + 0) : Nat) : Int)), some (vi (gR (D.2.1 s) 0 0)), some (vi (((gR (D.2.1 s) 0 1).toNat : Nat) : Int)), some (vi ((gR (D.2.1 s) 0 4) - (gR (D.2.1 s) 0 3)))]) (st' := []) rfl ?_
        have eD415 : mS2 X a0 (u 23) s (gR (D.2.1 s) 0) (mS1 s D) = (mNote (rwB ((mAnew (mS1 s D)).1 18) 4 (((gR (D.2.1 s) 0 1).toNat : Nat) : Int) (gR (D.2.1 s) 0 0)) (mS 22 (((mAnew (mS1 s D)).1 22) + 1) ((mAnew (mS1 s D))))) := by unfold mS2; rw [eBy, if_pos h82, if_pos (Int.not_le.mp h106)]
        have hR415 : Rp a410 (mS2 X a0 (u 23) s (gR (D.2.1 s) 0) (mS1 s D)) := by rw [eD415]; exact hR410
        have hd415 : Dok (n + 31) (mS2 X a0 (u 23) s (gR (D.2.1 s) 0) (mS1 s D)) := by rw [eD415]; exact hd410
        have hs2 : s < 2 ∧ 0 < (((mS2 X a0 (u 23) s (gR (D.2.1 s) 0) (mS1 s D))).2.1 s).length := ⟨hs.1, by rw [mS2_2]; exact hs.2⟩
        refine M.run 1 (pc' := 138) (lv' := [some (vr o), some (vi ((s : Nat) : Int)), some (vi ((49 + 7 * (24 * s + 0) : Nat) : Int)), some (vi (gR (D.2.1 s) 0 0)), some (vi (((gR (D.2.1 s) 0 1).toNat : Nat) : Int)), some (vi ((gR (D.2.1 s) 0 4) - (gR (D.2.1 s) 0 3)))]) (st' := [vi (gR (D.2.1 s) 0 0)]) rfl ?_
        refine M.if_ne (tgt := 152) rfl (qI (by omega)) (by decide) (fun h138 => ?_) (fun h138 => ?_)
        · skip
          refine M.run 2 (pc' := 154) (lv' := [some (vr o), some (vi ((s : Nat) : Int)), some (vi ((49 + 7 * (24 * s + 0) : Nat) : Int)), some (vi (gR (D.2.1 s) 0 0)), some (vi (((gR (D.2.1 s) 0 1).toNat : Nat) : Int)), some (vi ((gR (D.2.1 s) 0 4) - (gR (D.2.1 s) 0 3)))]) (st' := [vi 1, vi (gR (D.2.1 s) 0 0)]) rfl ?_
          refine M.icmp_eq (tgt := 162) rfl (qI (by omega)) (qI (by decide)) (by decide) (fun h154 => ?_) (fun h154 => ?_)
          · skip
            refine M.run 3 (pc' := 165) (lv' := [some (vr o), some (vi ((s : Nat) : Int)), some (vi ((49 + 7 * (24 * s + 0) : Nat) : Int)), some (vi (gR (D.2.1 s) 0 0)), some (vi (((gR (D.2.1 s) 0 1).toNat : Nat) : Int)), some (vi ((gR (D.2.1 s) 0 4) - (gR (D.2.1 s) 0 3)))]) (st' := [vi ((49 + 7 * (24 * s + 0) : Nat) : Int), vi ((s : Nat) : Int), vr o]) rfl ?_
            refine M.callV (eX11_startTimer l G o am u a0 b0 (mS2 X a0 (u 23) s (gR (D.2.1 s) 0) (mS1 s D)) _ ht hd415 (by omega)  s hs2 (49 + 7 * (24 * s + 0)) (by omega) X hX) cv_X11_375 cd_X11_startTimer rfl (st := []) rfl (isM_o hM410) (by decide) (by decide) rfl (Nat.zero_le _) (Nat.zero_le _) ⟨_, _, hM410, hR415, hF410, hB410⟩ (fun r417 w418 q419 => ?_)
            obtain ⟨q419r, a416, b416, hM416, hR416, hF416, hB416⟩ := q419
            rw [q419r]
            have hd416 : Dok (n + 31) (mTimer X a0 s (mS2 X a0 (u 23) s (gR (D.2.1 s) 0) (mS1 s D))) := Dok_timer ht hd415 hs2
            have es416 : (mTimer X a0 s (mS2 X a0 (u 23) s (gR (D.2.1 s) 0) (mS1 s D))).1 = (mTimer X a0 s (mS2 X a0 (u 23) s (gR (D.2.1 s) 0) (mS1 s D))).1 := rfl
            have eD421 : mS3 X a0 s (gR (D.2.1 s) 0) (mS2 X a0 (u 23) s (gR (D.2.1 s) 0) (mS1 s D)) = (mTimer X a0 s (mS2 X a0 (u 23) s (gR (D.2.1 s) 0) (mS1 s D))) := if_pos (Or.inr (Or.inl h154))
            have hR421 : Rp a416 (mS3 X a0 s (gR (D.2.1 s) 0) (mS2 X a0 (u 23) s (gR (D.2.1 s) 0) (mS1 s D))) := by rw [eD421]; exact hR416
            have hd421 : Dok (n + 31) (mS3 X a0 s (gR (D.2.1 s) 0) (mS2 X a0 (u 23) s (gR (D.2.1 s) 0) (mS1 s D))) := by rw [eD421]; exact hd416
            have hs3 : 0 < (((mS3 X a0 s (gR (D.2.1 s) 0) (mS2 X a0 (u 23) s (gR (D.2.1 s) 0) (mS1 s D)))).2.1 s).length := by rw [mS3_2]; exact hs2.2
            refine M.run 3 (pc' := 171) (lv' := [some (vr o), some (vi ((s : Nat) : Int)), some (vi ((49 + 7 * (24 * s + 0) : Nat) : Int)), some (vi (gR (D.2.1 s) 0 0)), some (vi (((gR (D.2.1 s) 0 1).toNat : Nat) : Int)), some (vi ((gR (D.2.1 s) 0 4) - (gR (D.2.1 s) 0 3)))]) (st' := [vi 0, vi ((s : Nat) : Int), vr o]) rfl ?_
            refine M.callV (eX11_takeOut l G o am u a0 b0 (mS3 X a0 s (gR (D.2.1 s) 0) (mS2 X a0 (u 23) s (gR (D.2.1 s) 0) (mS1 s D))) _ ht hd421 (by omega)  s hs.1 0 hs3) cv_X11_301 cd_X11_takeOut rfl (st := []) rfl (isM_o hM416) (by decide) (by decide) rfl (Nat.zero_le _) (Nat.zero_le _) ⟨_, _, hM416, hR421, hF416, hB416⟩ (fun r423 w424 q425 => ?_)
            obtain ⟨q425r, a422, b422, hM422, hR422, hF422, hB422⟩ := q425
            rw [q425r]
            have hd422 : Dok (n + 31) (((mS3 X a0 s (gR (D.2.1 s) 0) (mS2 X a0 (u 23) s (gR (D.2.1 s) 0) (mS1 s D))).1, lsS (mS3 X a0 s (gR (D.2.1 s) 0) (mS2 X a0 (u 23) s (gR (D.2.1 s) 0) (mS1 s D))).2.1 s (((mS3 X a0 s (gR (D.2.1 s) 0) (mS2 X a0 (u 23) s (gR (D.2.1 s) 0) (mS1 s D))).2.1 s).eraseIdx 0), (mS3 X a0 s (gR (D.2.1 s) 0) (mS2 X a0 (u 23) s (gR (D.2.1 s) 0) (mS1 s D))).2.2)) := Dok_takeO hd421
            have es422 : (((mS3 X a0 s (gR (D.2.1 s) 0) (mS2 X a0 (u 23) s (gR (D.2.1 s) 0) (mS1 s D))).1, lsS (mS3 X a0 s (gR (D.2.1 s) 0) (mS2 X a0 (u 23) s (gR (D.2.1 s) 0) (mS1 s D))).2.1 s (((mS3 X a0 s (gR (D.2.1 s) 0) (mS2 X a0 (u 23) s (gR (D.2.1 s) 0) (mS1 s D))).2.1 s).eraseIdx 0), (mS3 X a0 s (gR (D.2.1 s) 0) (mS2 X a0 (u 23) s (gR (D.2.1 s) 0) (mS1 s D))).2.2)).1 = (mS3 X a0 s (gR (D.2.1 s) 0) (mS2 X a0 (u 23) s (gR (D.2.1 s) 0) (mS1 s D))).1 := rfl
            exact M.vret rfl (Nat.zero_le _) (Nat.zero_le _) ⟨rfl, _, _, hM422, hR422, hF422, hB422⟩
          · skip
            refine M.run 2 (pc' := 159) (lv' := [some (vr o), some (vi ((s : Nat) : Int)), some (vi ((49 + 7 * (24 * s + 0) : Nat) : Int)), some (vi (gR (D.2.1 s) 0 0)), some (vi (((gR (D.2.1 s) 0 1).toNat : Nat) : Int)), some (vi ((gR (D.2.1 s) 0 4) - (gR (D.2.1 s) 0 3)))]) (st' := [vi 3, vi (gR (D.2.1 s) 0 0)]) rfl ?_
            refine M.icmp_ne (tgt := 168) rfl (qI (by omega)) (qI (by decide)) (by decide) (fun h159 => ?_) (fun h159 => ?_)
            · skip
              have eD427 : mS3 X a0 s (gR (D.2.1 s) 0) (mS2 X a0 (u 23) s (gR (D.2.1 s) 0) (mS1 s D)) = (mS2 X a0 (u 23) s (gR (D.2.1 s) 0) (mS1 s D)) := if_neg (by omega)
              have hR427 : Rp a410 (mS3 X a0 s (gR (D.2.1 s) 0) (mS2 X a0 (u 23) s (gR (D.2.1 s) 0) (mS1 s D))) := by rw [eD427]; exact hR415
              have hd427 : Dok (n + 31) (mS3 X a0 s (gR (D.2.1 s) 0) (mS2 X a0 (u 23) s (gR (D.2.1 s) 0) (mS1 s D))) := by rw [eD427]; exact hd415
              have hs3 : 0 < (((mS3 X a0 s (gR (D.2.1 s) 0) (mS2 X a0 (u 23) s (gR (D.2.1 s) 0) (mS1 s D)))).2.1 s).length := by rw [mS3_2]; exact hs2.2
              refine M.run 3 (pc' := 171) (lv' := [some (vr o), some (vi ((s : Nat) : Int)), some (vi ((49 + 7 * (24 * s + 0) : Nat) : Int)), some (vi (gR (D.2.1 s) 0 0)), some (vi (((gR (D.2.1 s) 0 1).toNat : Nat) : Int)), some (vi ((gR (D.2.1 s) 0 4) - (gR (D.2.1 s) 0 3)))]) (st' := [vi 0, vi ((s : Nat) : Int), vr o]) rfl ?_
              refine M.callV (eX11_takeOut l G o am u a0 b0 (mS3 X a0 s (gR (D.2.1 s) 0) (mS2 X a0 (u 23) s (gR (D.2.1 s) 0) (mS1 s D))) _ ht hd427 (by omega)  s hs.1 0 hs3) cv_X11_301 cd_X11_takeOut rfl (st := []) rfl (isM_o hM410) (by decide) (by decide) rfl (Nat.zero_le _) (Nat.zero_le _) ⟨_, _, hM410, hR427, hF410, hB410⟩ (fun r429 w430 q431 => ?_)
              obtain ⟨q431r, a428, b428, hM428, hR428, hF428, hB428⟩ := q431
              rw [q431r]
              have hd428 : Dok (n + 31) (((mS3 X a0 s (gR (D.2.1 s) 0) (mS2 X a0 (u 23) s (gR (D.2.1 s) 0) (mS1 s D))).1, lsS (mS3 X a0 s (gR (D.2.1 s) 0) (mS2 X a0 (u 23) s (gR (D.2.1 s) 0) (mS1 s D))).2.1 s (((mS3 X a0 s (gR (D.2.1 s) 0) (mS2 X a0 (u 23) s (gR (D.2.1 s) 0) (mS1 s D))).2.1 s).eraseIdx 0), (mS3 X a0 s (gR (D.2.1 s) 0) (mS2 X a0 (u 23) s (gR (D.2.1 s) 0) (mS1 s D))).2.2)) := Dok_takeO hd427
              have es428 : (((mS3 X a0 s (gR (D.2.1 s) 0) (mS2 X a0 (u 23) s (gR (D.2.1 s) 0) (mS1 s D))).1, lsS (mS3 X a0 s (gR (D.2.1 s) 0) (mS2 X a0 (u 23) s (gR (D.2.1 s) 0) (mS1 s D))).2.1 s (((mS3 X a0 s (gR (D.2.1 s) 0) (mS2 X a0 (u 23) s (gR (D.2.1 s) 0) (mS1 s D))).2.1 s).eraseIdx 0), (mS3 X a0 s (gR (D.2.1 s) 0) (mS2 X a0 (u 23) s (gR (D.2.1 s) 0) (mS1 s D))).2.2)).1 = (mS3 X a0 s (gR (D.2.1 s) 0) (mS2 X a0 (u 23) s (gR (D.2.1 s) 0) (mS1 s D))).1 := rfl
              exact M.vret rfl (Nat.zero_le _) (Nat.zero_le _) ⟨rfl, _, _, hM428, hR428, hF428, hB428⟩
            · skip
              refine M.run 3 (pc' := 165) (lv' := [some (vr o), some (vi ((s : Nat) : Int)), some (vi ((49 + 7 * (24 * s + 0) : Nat) : Int)), some (vi (gR (D.2.1 s) 0 0)), some (vi (((gR (D.2.1 s) 0 1).toNat : Nat) : Int)), some (vi ((gR (D.2.1 s) 0 4) - (gR (D.2.1 s) 0 3)))]) (st' := [vi ((49 + 7 * (24 * s + 0) : Nat) : Int), vi ((s : Nat) : Int), vr o]) rfl ?_
              refine M.callV (eX11_startTimer l G o am u a0 b0 (mS2 X a0 (u 23) s (gR (D.2.1 s) 0) (mS1 s D)) _ ht hd415 (by omega)  s hs2 (49 + 7 * (24 * s + 0)) (by omega) X hX) cv_X11_375 cd_X11_startTimer rfl (st := []) rfl (isM_o hM410) (by decide) (by decide) rfl (Nat.zero_le _) (Nat.zero_le _) ⟨_, _, hM410, hR415, hF410, hB410⟩ (fun r434 w435 q436 => ?_)
              obtain ⟨q436r, a433, b433, hM433, hR433, hF433, hB433⟩ := q436
              rw [q436r]
              have hd433 : Dok (n + 31) (mTimer X a0 s (mS2 X a0 (u 23) s (gR (D.2.1 s) 0) (mS1 s D))) := Dok_timer ht hd415 hs2
              have es433 : (mTimer X a0 s (mS2 X a0 (u 23) s (gR (D.2.1 s) 0) (mS1 s D))).1 = (mTimer X a0 s (mS2 X a0 (u 23) s (gR (D.2.1 s) 0) (mS1 s D))).1 := rfl
              have eD438 : mS3 X a0 s (gR (D.2.1 s) 0) (mS2 X a0 (u 23) s (gR (D.2.1 s) 0) (mS1 s D)) = (mTimer X a0 s (mS2 X a0 (u 23) s (gR (D.2.1 s) 0) (mS1 s D))) := if_pos (Or.inr (Or.inr h159))
              have hR438 : Rp a433 (mS3 X a0 s (gR (D.2.1 s) 0) (mS2 X a0 (u 23) s (gR (D.2.1 s) 0) (mS1 s D))) := by rw [eD438]; exact hR433
              have hd438 : Dok (n + 31) (mS3 X a0 s (gR (D.2.1 s) 0) (mS2 X a0 (u 23) s (gR (D.2.1 s) 0) (mS1 s D))) := by rw [eD438]; exact hd433
              have hs3 : 0 < (((mS3 X a0 s (gR (D.2.1 s) 0) (mS2 X a0 (u 23) s (gR (D.2.1 s) 0) (mS1 s D)))).2.1 s).length := by rw [mS3_2]; exact hs2.2
              refine M.run 3 (pc' := 171) (lv' := [some (vr o), some (vi ((s : Nat) : Int)), some (vi ((49 + 7 * (24 * s + 0) : Nat) : Int)), some (vi (gR (D.2.1 s) 0 0)), some (vi (((gR (D.2.1 s) 0 1).toNat : Nat) : Int)), some (vi ((gR (D.2.1 s) 0 4) - (gR (D.2.1 s) 0 3)))]) (st' := [vi 0, vi ((s : Nat) : Int), vr o]) rfl ?_
              refine M.callV (eX11_takeOut l G o am u a0 b0 (mS3 X a0 s (gR (D.2.1 s) 0) (mS2 X a0 (u 23) s (gR (D.2.1 s) 0) (mS1 s D))) _ ht hd438 (by omega)  s hs.1 0 hs3) cv_X11_301 cd_X11_takeOut rfl (st := []) rfl (isM_o hM433) (by decide) (by decide) rfl (Nat.zero_le _) (Nat.zero_le _) ⟨_, _, hM433, hR438, hF433, hB433⟩ (fun r440 w441 q442 => ?_)
              obtain ⟨q442r, a439, b439, hM439, hR439, hF439, hB439⟩ := q442
              rw [q442r]
              have hd439 : Dok (n + 31) (((mS3 X a0 s (gR (D.2.1 s) 0) (mS2 X a0 (u 23) s (gR (D.2.1 s) 0) (mS1 s D))).1, lsS (mS3 X a0 s (gR (D.2.1 s) 0) (mS2 X a0 (u 23) s (gR (D.2.1 s) 0) (mS1 s D))).2.1 s (((mS3 X a0 s (gR (D.2.1 s) 0) (mS2 X a0 (u 23) s (gR (D.2.1 s) 0) (mS1 s D))).2.1 s).eraseIdx 0), (mS3 X a0 s (gR (D.2.1 s) 0) (mS2 X a0 (u 23) s (gR (D.2.1 s) 0) (mS1 s D))).2.2)) := Dok_takeO hd438
              have es439 : (((mS3 X a0 s (gR (D.2.1 s) 0) (mS2 X a0 (u 23) s (gR (D.2.1 s) 0) (mS1 s D))).1, lsS (mS3 X a0 s (gR (D.2.1 s) 0) (mS2 X a0 (u 23) s (gR (D.2.1 s) 0) (mS1 s D))).2.1 s (((mS3 X a0 s (gR (D.2.1 s) 0) (mS2 X a0 (u 23) s (gR (D.2.1 s) 0) (mS1 s D))).2.1 s).eraseIdx 0), (mS3 X a0 s (gR (D.2.1 s) 0) (mS2 X a0 (u 23) s (gR (D.2.1 s) 0) (mS1 s D))).2.2)).1 = (mS3 X a0 s (gR (D.2.1 s) 0) (mS2 X a0 (u 23) s (gR (D.2.1 s) 0) (mS1 s D))).1 := rfl
              exact M.vret rfl (Nat.zero_le _) (Nat.zero_le _) ⟨rfl, _, _, hM439, hR439, hF439, hB439⟩
        · skip
          refine M.run 1 (pc' := 142) (lv' := [some (vr o), some (vi ((s : Nat) : Int)), some (vi ((49 + 7 * (24 * s + 0) : Nat) : Int)), some (vi (gR (D.2.1 s) 0 0)), some (vi (((gR (D.2.1 s) 0 1).toNat : Nat) : Int)), some (vi ((gR (D.2.1 s) 0 4) - (gR (D.2.1 s) 0 3)))]) (st' := [vr o]) rfl ?_
          refine M.get fl_X11_7 rfl (isM_o hM410) (kf := 0) (v := vr (am 0)) rfl ?_
          refine M.run 3 (pc' := 148) (lv' := [some (vr o), some (vi ((s : Nat) : Int)), some (vi ((49 + 7 * (24 * s + 0) : Nat) : Int)), some (vi (gR (D.2.1 s) 0 0)), some (vi (((gR (D.2.1 s) 0 1).toNat : Nat) : Int)), some (vi ((gR (D.2.1 s) 0 4) - (gR (D.2.1 s) 0 3)))]) (st' := [vi (((49 + 7 * (24 * s + 0) : Nat) : Int) + 2), vr (am 0)]) rfl ?_
          refine M.ialdN (49 + 7 * (24 * s + 0) + 2) rfl (isM_a hM410) (by omega) (by decide) ?_
          rw [show a410 (49 + 7 * (24 * s + 0) + 2) = gR (D.2.1 s) 0 2 from (show _ = gR (D.2.1 s) 0 2 from by have q := Rp_lx hR415 hs2.1 hs2.2 (x := (49 + 7 * (24 * s + 0))) (k := 2) (by omega) (by decide); rw [mS2_2] at q; exact q)]
          refine M.if_gt (tgt := 162) rfl (qI (by omega)) (by decide) (fun h149 => ?_) (fun h149 => ?_)
          · skip
            refine M.run 3 (pc' := 165) (lv' := [some (vr o), some (vi ((s : Nat) : Int)), some (vi ((49 + 7 * (24 * s + 0) : Nat) : Int)), some (vi (gR (D.2.1 s) 0 0)), some (vi (((gR (D.2.1 s) 0 1).toNat : Nat) : Int)), some (vi ((gR (D.2.1 s) 0 4) - (gR (D.2.1 s) 0 3)))]) (st' := [vi ((49 + 7 * (24 * s + 0) : Nat) : Int), vi ((s : Nat) : Int), vr o]) rfl ?_
            refine M.callV (eX11_startTimer l G o am u a0 b0 (mS2 X a0 (u 23) s (gR (D.2.1 s) 0) (mS1 s D)) _ ht hd415 (by omega)  s hs2 (49 + 7 * (24 * s + 0)) (by omega) X hX) cv_X11_375 cd_X11_startTimer rfl (st := []) rfl (isM_o hM410) (by decide) (by decide) rfl (Nat.zero_le _) (Nat.zero_le _) ⟨_, _, hM410, hR415, hF410, hB410⟩ (fun r445 w446 q447 => ?_)
            obtain ⟨q447r, a444, b444, hM444, hR444, hF444, hB444⟩ := q447
            rw [q447r]
            have hd444 : Dok (n + 31) (mTimer X a0 s (mS2 X a0 (u 23) s (gR (D.2.1 s) 0) (mS1 s D))) := Dok_timer ht hd415 hs2
            have es444 : (mTimer X a0 s (mS2 X a0 (u 23) s (gR (D.2.1 s) 0) (mS1 s D))).1 = (mTimer X a0 s (mS2 X a0 (u 23) s (gR (D.2.1 s) 0) (mS1 s D))).1 := rfl
            have eD449 : mS3 X a0 s (gR (D.2.1 s) 0) (mS2 X a0 (u 23) s (gR (D.2.1 s) 0) (mS1 s D)) = (mTimer X a0 s (mS2 X a0 (u 23) s (gR (D.2.1 s) 0) (mS1 s D))) := if_pos (Or.inl (And.intro h138 h149))
            have hR449 : Rp a444 (mS3 X a0 s (gR (D.2.1 s) 0) (mS2 X a0 (u 23) s (gR (D.2.1 s) 0) (mS1 s D))) := by rw [eD449]; exact hR444
            have hd449 : Dok (n + 31) (mS3 X a0 s (gR (D.2.1 s) 0) (mS2 X a0 (u 23) s (gR (D.2.1 s) 0) (mS1 s D))) := by rw [eD449]; exact hd444
            have hs3 : 0 < (((mS3 X a0 s (gR (D.2.1 s) 0) (mS2 X a0 (u 23) s (gR (D.2.1 s) 0) (mS1 s D)))).2.1 s).length := by rw [mS3_2]; exact hs2.2
            refine M.run 3 (pc' := 171) (lv' := [some (vr o), some (vi ((s : Nat) : Int)), some (vi ((49 + 7 * (24 * s + 0) : Nat) : Int)), some (vi (gR (D.2.1 s) 0 0)), some (vi (((gR (D.2.1 s) 0 1).toNat : Nat) : Int)), some (vi ((gR (D.2.1 s) 0 4) - (gR (D.2.1 s) 0 3)))]) (st' := [vi 0, vi ((s : Nat) : Int), vr o]) rfl ?_
            refine M.callV (eX11_takeOut l G o am u a0 b0 (mS3 X a0 s (gR (D.2.1 s) 0) (mS2 X a0 (u 23) s (gR (D.2.1 s) 0) (mS1 s D))) _ ht hd449 (by omega)  s hs.1 0 hs3) cv_X11_301 cd_X11_takeOut rfl (st := []) rfl (isM_o hM444) (by decide) (by decide) rfl (Nat.zero_le _) (Nat.zero_le _) ⟨_, _, hM444, hR449, hF444, hB444⟩ (fun r451 w452 q453 => ?_)
            obtain ⟨q453r, a450, b450, hM450, hR450, hF450, hB450⟩ := q453
            rw [q453r]
            have hd450 : Dok (n + 31) (((mS3 X a0 s (gR (D.2.1 s) 0) (mS2 X a0 (u 23) s (gR (D.2.1 s) 0) (mS1 s D))).1, lsS (mS3 X a0 s (gR (D.2.1 s) 0) (mS2 X a0 (u 23) s (gR (D.2.1 s) 0) (mS1 s D))).2.1 s (((mS3 X a0 s (gR (D.2.1 s) 0) (mS2 X a0 (u 23) s (gR (D.2.1 s) 0) (mS1 s D))).2.1 s).eraseIdx 0), (mS3 X a0 s (gR (D.2.1 s) 0) (mS2 X a0 (u 23) s (gR (D.2.1 s) 0) (mS1 s D))).2.2)) := Dok_takeO hd449
            have es450 : (((mS3 X a0 s (gR (D.2.1 s) 0) (mS2 X a0 (u 23) s (gR (D.2.1 s) 0) (mS1 s D))).1, lsS (mS3 X a0 s (gR (D.2.1 s) 0) (mS2 X a0 (u 23) s (gR (D.2.1 s) 0) (mS1 s D))).2.1 s (((mS3 X a0 s (gR (D.2.1 s) 0) (mS2 X a0 (u 23) s (gR (D.2.1 s) 0) (mS1 s D))).2.1 s).eraseIdx 0), (mS3 X a0 s (gR (D.2.1 s) 0) (mS2 X a0 (u 23) s (gR (D.2.1 s) 0) (mS1 s D))).2.2)).1 = (mS3 X a0 s (gR (D.2.1 s) 0) (mS2 X a0 (u 23) s (gR (D.2.1 s) 0) (mS1 s D))).1 := rfl
            exact M.vret rfl (Nat.zero_le _) (Nat.zero_le _) ⟨rfl, _, _, hM450, hR450, hF450, hB450⟩
          · skip
            refine M.run 2 (pc' := 154) (lv' := [some (vr o), some (vi ((s : Nat) : Int)), some (vi ((49 + 7 * (24 * s + 0) : Nat) : Int)), some (vi (gR (D.2.1 s) 0 0)), some (vi (((gR (D.2.1 s) 0 1).toNat : Nat) : Int)), some (vi ((gR (D.2.1 s) 0 4) - (gR (D.2.1 s) 0 3)))]) (st' := [vi 1, vi (gR (D.2.1 s) 0 0)]) rfl ?_
            refine M.icmp_eq (tgt := 162) rfl (qI (by omega)) (qI (by decide)) (by decide) (fun h154 => ?_) (fun h154 => ?_)
            · skip
              refine M.run 3 (pc' := 165) (lv' := [some (vr o), some (vi ((s : Nat) : Int)), some (vi ((49 + 7 * (24 * s + 0) : Nat) : Int)), some (vi (gR (D.2.1 s) 0 0)), some (vi (((gR (D.2.1 s) 0 1).toNat : Nat) : Int)), some (vi ((gR (D.2.1 s) 0 4) - (gR (D.2.1 s) 0 3)))]) (st' := [vi ((49 + 7 * (24 * s + 0) : Nat) : Int), vi ((s : Nat) : Int), vr o]) rfl ?_
              refine M.callV (eX11_startTimer l G o am u a0 b0 (mS2 X a0 (u 23) s (gR (D.2.1 s) 0) (mS1 s D)) _ ht hd415 (by omega)  s hs2 (49 + 7 * (24 * s + 0)) (by omega) X hX) cv_X11_375 cd_X11_startTimer rfl (st := []) rfl (isM_o hM410) (by decide) (by decide) rfl (Nat.zero_le _) (Nat.zero_le _) ⟨_, _, hM410, hR415, hF410, hB410⟩ (fun r456 w457 q458 => ?_)
              obtain ⟨q458r, a455, b455, hM455, hR455, hF455, hB455⟩ := q458
              rw [q458r]
              have hd455 : Dok (n + 31) (mTimer X a0 s (mS2 X a0 (u 23) s (gR (D.2.1 s) 0) (mS1 s D))) := Dok_timer ht hd415 hs2
              have es455 : (mTimer X a0 s (mS2 X a0 (u 23) s (gR (D.2.1 s) 0) (mS1 s D))).1 = (mTimer X a0 s (mS2 X a0 (u 23) s (gR (D.2.1 s) 0) (mS1 s D))).1 := rfl
              have eD460 : mS3 X a0 s (gR (D.2.1 s) 0) (mS2 X a0 (u 23) s (gR (D.2.1 s) 0) (mS1 s D)) = (mTimer X a0 s (mS2 X a0 (u 23) s (gR (D.2.1 s) 0) (mS1 s D))) := if_pos (Or.inr (Or.inl h154))
              have hR460 : Rp a455 (mS3 X a0 s (gR (D.2.1 s) 0) (mS2 X a0 (u 23) s (gR (D.2.1 s) 0) (mS1 s D))) := by rw [eD460]; exact hR455
              have hd460 : Dok (n + 31) (mS3 X a0 s (gR (D.2.1 s) 0) (mS2 X a0 (u 23) s (gR (D.2.1 s) 0) (mS1 s D))) := by rw [eD460]; exact hd455
              have hs3 : 0 < (((mS3 X a0 s (gR (D.2.1 s) 0) (mS2 X a0 (u 23) s (gR (D.2.1 s) 0) (mS1 s D)))).2.1 s).length := by rw [mS3_2]; exact hs2.2
              refine M.run 3 (pc' := 171) (lv' := [some (vr o), some (vi ((s : Nat) : Int)), some (vi ((49 + 7 * (24 * s + 0) : Nat) : Int)), some (vi (gR (D.2.1 s) 0 0)), some (vi (((gR (D.2.1 s) 0 1).toNat : Nat) : Int)), some (vi ((gR (D.2.1 s) 0 4) - (gR (D.2.1 s) 0 3)))]) (st' := [vi 0, vi ((s : Nat) : Int), vr o]) rfl ?_
              refine M.callV (eX11_takeOut l G o am u a0 b0 (mS3 X a0 s (gR (D.2.1 s) 0) (mS2 X a0 (u 23) s (gR (D.2.1 s) 0) (mS1 s D))) _ ht hd460 (by omega)  s hs.1 0 hs3) cv_X11_301 cd_X11_takeOut rfl (st := []) rfl (isM_o hM455) (by decide) (by decide) rfl (Nat.zero_le _) (Nat.zero_le _) ⟨_, _, hM455, hR460, hF455, hB455⟩ (fun r462 w463 q464 => ?_)
              obtain ⟨q464r, a461, b461, hM461, hR461, hF461, hB461⟩ := q464
              rw [q464r]
              have hd461 : Dok (n + 31) (((mS3 X a0 s (gR (D.2.1 s) 0) (mS2 X a0 (u 23) s (gR (D.2.1 s) 0) (mS1 s D))).1, lsS (mS3 X a0 s (gR (D.2.1 s) 0) (mS2 X a0 (u 23) s (gR (D.2.1 s) 0) (mS1 s D))).2.1 s (((mS3 X a0 s (gR (D.2.1 s) 0) (mS2 X a0 (u 23) s (gR (D.2.1 s) 0) (mS1 s D))).2.1 s).eraseIdx 0), (mS3 X a0 s (gR (D.2.1 s) 0) (mS2 X a0 (u 23) s (gR (D.2.1 s) 0) (mS1 s D))).2.2)) := Dok_takeO hd460
              have es461 : (((mS3 X a0 s (gR (D.2.1 s) 0) (mS2 X a0 (u 23) s (gR (D.2.1 s) 0) (mS1 s D))).1, lsS (mS3 X a0 s (gR (D.2.1 s) 0) (mS2 X a0 (u 23) s (gR (D.2.1 s) 0) (mS1 s D))).2.1 s (((mS3 X a0 s (gR (D.2.1 s) 0) (mS2 X a0 (u 23) s (gR (D.2.1 s) 0) (mS1 s D))).2.1 s).eraseIdx 0), (mS3 X a0 s (gR (D.2.1 s) 0) (mS2 X a0 (u 23) s (gR (D.2.1 s) 0) (mS1 s D))).2.2)).1 = (mS3 X a0 s (gR (D.2.1 s) 0) (mS2 X a0 (u 23) s (gR (D.2.1 s) 0) (mS1 s D))).1 := rfl
              exact M.vret rfl (Nat.zero_le _) (Nat.zero_le _) ⟨rfl, _, _, hM461, hR461, hF461, hB461⟩
            · skip
              refine M.run 2 (pc' := 159) (lv' := [some (vr o), some (vi ((s : Nat) : Int)), some (vi ((49 + 7 * (24 * s + 0) : Nat) : Int)), some (vi (gR (D.2.1 s) 0 0)), some (vi (((gR (D.2.1 s) 0 1).toNat : Nat) : Int)), some (vi ((gR (D.2.1 s) 0 4) - (gR (D.2.1 s) 0 3)))]) (st' := [vi 3, vi (gR (D.2.1 s) 0 0)]) rfl ?_
              refine M.icmp_ne (tgt := 168) rfl (qI (by omega)) (qI (by decide)) (by decide) (fun h159 => ?_) (fun h159 => ?_)
              · skip
                have eD466 : mS3 X a0 s (gR (D.2.1 s) 0) (mS2 X a0 (u 23) s (gR (D.2.1 s) 0) (mS1 s D)) = (mS2 X a0 (u 23) s (gR (D.2.1 s) 0) (mS1 s D)) := if_neg (by omega)
                have hR466 : Rp a410 (mS3 X a0 s (gR (D.2.1 s) 0) (mS2 X a0 (u 23) s (gR (D.2.1 s) 0) (mS1 s D))) := by rw [eD466]; exact hR415
                have hd466 : Dok (n + 31) (mS3 X a0 s (gR (D.2.1 s) 0) (mS2 X a0 (u 23) s (gR (D.2.1 s) 0) (mS1 s D))) := by rw [eD466]; exact hd415
                have hs3 : 0 < (((mS3 X a0 s (gR (D.2.1 s) 0) (mS2 X a0 (u 23) s (gR (D.2.1 s) 0) (mS1 s D)))).2.1 s).length := by rw [mS3_2]; exact hs2.2
                refine M.run 3 (pc' := 171) (lv' := [some (vr o), some (vi ((s : Nat) : Int)), some (vi ((49 + 7 * (24 * s + 0) : Nat) : Int)), some (vi (gR (D.2.1 s) 0 0)), some (vi (((gR (D.2.1 s) 0 1).toNat : Nat) : Int)), some (vi ((gR (D.2.1 s) 0 4) - (gR (D.2.1 s) 0 3)))]) (st' := [vi 0, vi ((s : Nat) : Int), vr o]) rfl ?_
                refine M.callV (eX11_takeOut l G o am u a0 b0 (mS3 X a0 s (gR (D.2.1 s) 0) (mS2 X a0 (u 23) s (gR (D.2.1 s) 0) (mS1 s D))) _ ht hd466 (by omega)  s hs.1 0 hs3) cv_X11_301 cd_X11_takeOut rfl (st := []) rfl (isM_o hM410) (by decide) (by decide) rfl (Nat.zero_le _) (Nat.zero_le _) ⟨_, _, hM410, hR466, hF410, hB410⟩ (fun r468 w469 q470 => ?_)
                obtain ⟨q470r, a467, b467, hM467, hR467, hF467, hB467⟩ := q470
                rw [q470r]
                have hd467 : Dok (n + 31) (((mS3 X a0 s (gR (D.2.1 s) 0) (mS2 X a0 (u 23) s (gR (D.2.1 s) 0) (mS1 s D))).1, lsS (mS3 X a0 s (gR (D.2.1 s) 0) (mS2 X a0 (u 23) s (gR (D.2.1 s) 0) (mS1 s D))).2.1 s (((mS3 X a0 s (gR (D.2.1 s) 0) (mS2 X a0 (u 23) s (gR (D.2.1 s) 0) (mS1 s D))).2.1 s).eraseIdx 0), (mS3 X a0 s (gR (D.2.1 s) 0) (mS2 X a0 (u 23) s (gR (D.2.1 s) 0) (mS1 s D))).2.2)) := Dok_takeO hd466
                have es467 : (((mS3 X a0 s (gR (D.2.1 s) 0) (mS2 X a0 (u 23) s (gR (D.2.1 s) 0) (mS1 s D))).1, lsS (mS3 X a0 s (gR (D.2.1 s) 0) (mS2 X a0 (u 23) s (gR (D.2.1 s) 0) (mS1 s D))).2.1 s (((mS3 X a0 s (gR (D.2.1 s) 0) (mS2 X a0 (u 23) s (gR (D.2.1 s) 0) (mS1 s D))).2.1 s).eraseIdx 0), (mS3 X a0 s (gR (D.2.1 s) 0) (mS2 X a0 (u 23) s (gR (D.2.1 s) 0) (mS1 s D))).2.2)).1 = (mS3 X a0 s (gR (D.2.1 s) 0) (mS2 X a0 (u 23) s (gR (D.2.1 s) 0) (mS1 s D))).1 := rfl
                exact M.vret rfl (Nat.zero_le _) (Nat.zero_le _) ⟨rfl, _, _, hM467, hR467, hF467, hB467⟩
              · skip
                refine M.run 3 (pc' := 165) (lv' := [some (vr o), some (vi ((s : Nat) : Int)), some (vi ((49 + 7 * (24 * s + 0) : Nat) : Int)), some (vi (gR (D.2.1 s) 0 0)), some (vi (((gR (D.2.1 s) 0 1).toNat : Nat) : Int)), some (vi ((gR (D.2.1 s) 0 4) - (gR (D.2.1 s) 0 3)))]) (st' := [vi ((49 + 7 * (24 * s + 0) : Nat) : Int), vi ((s : Nat) : Int), vr o]) rfl ?_
                refine M.callV (eX11_startTimer l G o am u a0 b0 (mS2 X a0 (u 23) s (gR (D.2.1 s) 0) (mS1 s D)) _ ht hd415 (by omega)  s hs2 (49 + 7 * (24 * s + 0)) (by omega) X hX) cv_X11_375 cd_X11_startTimer rfl (st := []) rfl (isM_o hM410) (by decide) (by decide) rfl (Nat.zero_le _) (Nat.zero_le _) ⟨_, _, hM410, hR415, hF410, hB410⟩ (fun r473 w474 q475 => ?_)
                obtain ⟨q475r, a472, b472, hM472, hR472, hF472, hB472⟩ := q475
                rw [q475r]
                have hd472 : Dok (n + 31) (mTimer X a0 s (mS2 X a0 (u 23) s (gR (D.2.1 s) 0) (mS1 s D))) := Dok_timer ht hd415 hs2
                have es472 : (mTimer X a0 s (mS2 X a0 (u 23) s (gR (D.2.1 s) 0) (mS1 s D))).1 = (mTimer X a0 s (mS2 X a0 (u 23) s (gR (D.2.1 s) 0) (mS1 s D))).1 := rfl
                have eD477 : mS3 X a0 s (gR (D.2.1 s) 0) (mS2 X a0 (u 23) s (gR (D.2.1 s) 0) (mS1 s D)) = (mTimer X a0 s (mS2 X a0 (u 23) s (gR (D.2.1 s) 0) (mS1 s D))) := if_pos (Or.inr (Or.inr h159))
                have hR477 : Rp a472 (mS3 X a0 s (gR (D.2.1 s) 0) (mS2 X a0 (u 23) s (gR (D.2.1 s) 0) (mS1 s D))) := by rw [eD477]; exact hR472
                have hd477 : Dok (n + 31) (mS3 X a0 s (gR (D.2.1 s) 0) (mS2 X a0 (u 23) s (gR (D.2.1 s) 0) (mS1 s D))) := by rw [eD477]; exact hd472
                have hs3 : 0 < (((mS3 X a0 s (gR (D.2.1 s) 0) (mS2 X a0 (u 23) s (gR (D.2.1 s) 0) (mS1 s D)))).2.1 s).length := by rw [mS3_2]; exact hs2.2
                refine M.run 3 (pc' := 171) (lv' := [some (vr o), some (vi ((s : Nat) : Int)), some (vi ((49 + 7 * (24 * s + 0) : Nat) : Int)), some (vi (gR (D.2.1 s) 0 0)), some (vi (((gR (D.2.1 s) 0 1).toNat : Nat) : Int)), some (vi ((gR (D.2.1 s) 0 4) - (gR (D.2.1 s) 0 3)))]) (st' := [vi 0, vi ((s : Nat) : Int), vr o]) rfl ?_
                refine M.callV (eX11_takeOut l G o am u a0 b0 (mS3 X a0 s (gR (D.2.1 s) 0) (mS2 X a0 (u 23) s (gR (D.2.1 s) 0) (mS1 s D))) _ ht hd477 (by omega)  s hs.1 0 hs3) cv_X11_301 cd_X11_takeOut rfl (st := []) rfl (isM_o hM472) (by decide) (by decide) rfl (Nat.zero_le _) (Nat.zero_le _) ⟨_, _, hM472, hR477, hF472, hB472⟩ (fun r479 w480 q481 => ?_)
                obtain ⟨q481r, a478, b478, hM478, hR478, hF478, hB478⟩ := q481
                rw [q481r]
                have hd478 : Dok (n + 31) (((mS3 X a0 s (gR (D.2.1 s) 0) (mS2 X a0 (u 23) s (gR (D.2.1 s) 0) (mS1 s D))).1, lsS (mS3 X a0 s (gR (D.2.1 s) 0) (mS2 X a0 (u 23) s (gR (D.2.1 s) 0) (mS1 s D))).2.1 s (((mS3 X a0 s (gR (D.2.1 s) 0) (mS2 X a0 (u 23) s (gR (D.2.1 s) 0) (mS1 s D))).2.1 s).eraseIdx 0), (mS3 X a0 s (gR (D.2.1 s) 0) (mS2 X a0 (u 23) s (gR (D.2.1 s) 0) (mS1 s D))).2.2)) := Dok_takeO hd477
                have es478 : (((mS3 X a0 s (gR (D.2.1 s) 0) (mS2 X a0 (u 23) s (gR (D.2.1 s) 0) (mS1 s D))).1, lsS (mS3 X a0 s (gR (D.2.1 s) 0) (mS2 X a0 (u 23) s (gR (D.2.1 s) 0) (mS1 s D))).2.1 s (((mS3 X a0 s (gR (D.2.1 s) 0) (mS2 X a0 (u 23) s (gR (D.2.1 s) 0) (mS1 s D))).2.1 s).eraseIdx 0), (mS3 X a0 s (gR (D.2.1 s) 0) (mS2 X a0 (u 23) s (gR (D.2.1 s) 0) (mS1 s D))).2.2)).1 = (mS3 X a0 s (gR (D.2.1 s) 0) (mS2 X a0 (u 23) s (gR (D.2.1 s) 0) (mS1 s D))).1 := rfl
                exact M.vret rfl (Nat.zero_le _) (Nat.zero_le _) ⟨rfl, _, _, hM478, hR478, hF478, hB478⟩
