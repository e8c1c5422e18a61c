theorem uB_id {b : Nat → Nat → Int} {k : Nat} : uB b k (b k) = b := by
  funext j
  unfold uB
  split
  · rename_i e; rw [e]
  · rfl
theorem uB_uB {b : Nat → Nat → Int} {k : Nat} {f h : Nat → Int} : uB (uB b k f) k h = uB b k h := by
  funext j
  unfold uB
  split <;> rfl
def mEnds (X : Nat → Int → Option Gn) (a0 : Nat → Int) (sure : Int) (c : Nat) : Nat → Nat → Dy → Int
  | 0, m, D => if D.1 (28 + c) = 1 then -1 else ((m : Nat) : Int)
  | k + 1, m, D => if D.1 (28 + c) = 1 then mEnds X a0 sure c k (m + 1) (mTick X a0 sure D) else ((m : Nat) : Int)
section QEN
variable {X : Nat → Int → Option Gn} {a0 tl : Nat → Int} {n sure : Int} {c k m : Nat} {D : Dy}
theorem mEnds_s (hk : 0 < k) (h : D.1 (28 + c) = 1) : mEnds X a0 sure c k m D = mEnds X a0 sure c (k - 1) (m + 1) (mTick X a0 sure D) := by
  cases k with
  | zero => omega
  | succ k => exact if_pos h
theorem mEnds_e (h : ¬ D.1 (28 + c) = 1) : mEnds X a0 sure c k m D = ((m : Nat) : Int) := by
  cases k with
  | zero => exact if_neg h
  | succ k => exact if_neg h
theorem mEnds_0 (h : D.1 (28 + c) = 1) : mEnds X a0 sure c 0 m D = -1 := if_pos h
theorem c_ends (h : TE tl a0) (hT : Tok tl) (ht : Tok a0) : ∀ (k m : Nat) {n : Int} {D : Dy}, Dok n D → Inv D → D.1 18 + k ≤ 10400 → mEnds X a0 sure c k m D = mEnds X tl sure c k m D
  | 0, m, n, D, _, _, _ => rfl
  | k + 1, m, n, D, hd, hi, hc => by
    unfold mEnds
    by_cases e : D.1 (28 + c) = 1
    · have q := hi.1
      rw [if_pos e, if_pos e, c_tick h hT hd]
      exact c_ends h hT ht k (m + 1) (Dok_tick hT hd (Inv_38 hi) (by omega) (by omega)) (Inv_tick hT hi) (by rw [mTick_18]; omega)
    · rw [if_neg e, if_neg e]
end QEN
/-- so many ticks on, those that can pass -/
def mFore (X : Nat → Int → Option Gn) (tl : Nat → Int) (sure : Int) : Nat → Dy → Dy
  | 0, D => D
  | k + 1, D => mFore X tl sure k (if D.1 18 < 9999 then mTick X tl sure D else D)
theorem mFore_s {X : Nat → Int → Option Gn} {tl : Nat → Int} {sure : Int} {k : Nat} {D : Dy} (hk : 0 < k) : mFore X tl sure k D = mFore X tl sure (k - 1) (if D.1 18 < 9999 then mTick X tl sure D else D) := by
  cases k with
  | zero => omega
  | succ k => rfl
abbrev foC (tl : Nat → Int) (x y z : Int) : Prop := (1 ≤ x ∧ x ≤ 60) ∧ (0 ≤ y ∧ y < tl 0) ∧ 0 ≤ z ∧ z ≤ 8

set_option maxHeartbeats 4000000 in
set_option maxRecDepth 100000 in
theorem kX11_putAside (l : Launch) (G : GT) (o : Nat) (am : Nat → Nat) (u a : Nat → Int) (b : Nat → Nat → Int)  : Ctr l G yX11_putAside cX11_putAside 2 ((Option.none : Option Jvm.ClassFile.FieldType)) 1 0 0 [vr o] (fun w => isM o am u a b w) (fun w r w' => r = none ∧ ∃ f, isM o am u a (uB b 24 f) w' ∧ ∀ q : Nat, q < 968 → f q = a (18 + q)) := by
  refine Ctr.of (t := tX11_putAside) (lv0 := [some (vr o), none]) (by decide +kernel) tX11_putAside_ok rfl rfl (fun w g hP M => ?_)
  have hM := hP
  refine M.run 2 (pc' := 2) (lv' := [some (vr o), some (vi 0)]) (st' := []) rfl ?_
  have Lp2 : ∀ (N : Nat) (f : Nat → Int) (ww : Wo) (k : Nat), (isM o am u a (uB b 24 f) ww) → (∀ q : Nat, q < k → f q = a (18 + q)) → (k ≤ 968) → 968 - k < N → g 0 0 ww 2 [some (vr o), some (vi ((k : Nat) : Int))] [] := by
    intro N
    induction N with
    | zero => intro f ww k _ _ _ hN; exact absurd hN (Nat.not_lt_zero _)
    | succ N ih2 =>
      intro f ww k hMf hcp hk hN
      refine M.run 2 (pc' := 6) (lv' := [some (vr o), some (vi ((k : Nat) : Int))]) (st' := [vi 968, vi ((k : Nat) : Int)]) rfl ?_
      refine M.icmp_ge (tgt := 30) rfl (qI (by omega)) (qI (by decide)) (by decide) (fun h6 => ?_) (fun h6 => ?_)
      · skip
        exact M.vret rfl (Nat.zero_le _) (Nat.zero_le _) ⟨rfl, f, hMf, fun q hq => hcp q (by omega)⟩
      · skip
        refine M.run 1 (pc' := 10) (lv' := [some (vr o), some (vi ((k : Nat) : Int))]) (st' := [vr o]) rfl ?_
        refine M.get fl_X11_43 rfl (isM_o hMf) (kf := 24) (v := vr (am 24)) rfl ?_
        refine M.run 2 (pc' := 15) (lv' := [some (vr o), some (vi ((k : Nat) : Int))]) (st' := [vr o, vi ((k : Nat) : Int), vr (am 24)]) rfl ?_
        refine M.get fl_X11_7 rfl (isM_o hMf) (kf := 0) (v := vr (am 0)) rfl ?_
        refine M.run 3 (pc' := 22) (lv' := [some (vr o), some (vi ((k : Nat) : Int))]) (st' := [vi (18 + ((k : Nat) : Int)), vr (am 0), vi ((k : Nat) : Int), vr (am 24)]) rfl ?_
        refine M.ialdN (18 + k) rfl (isM_a hMf) (by omega) (by decide) ?_
        refine M.iastN (k) rfl (show lk ww (am 24) = some (Ar 0 968 f) from isM_24 hMf) (by omega) (by decide) ?_
        have hM2 := isM_setB (k := 24) (t := 0) (n := 968) hMf (by decide) (uN f k (a (18 + k)))
        generalize up ww (am 24) (Ar 0 968 (uN f k (a (18 + k)))) = w1 at hM2 ⊢
        refine M.run 2 (pc' := 2) (lv' := [some (vr o), some (vi (((k : Nat) : Int) + 1))]) (st' := []) rfl ?_
        exact ih2 (uN f k (a (18 + k))) w1 (k + 1) (by rw [← uB_uB]; exact hM2) (fun q hq => by by_cases e : q = k; rw [e, uN_s]; rw [uN_o e]; exact hcp q (by omega)) (by omega) (by omega)
  exact Lp2 _ (b 24) w 0 (by rw [uB_id]; exact hM) (fun q hq => absurd hq (Nat.not_lt_zero _)) (by omega) (Nat.lt_succ_self _)
set_option maxHeartbeats 4000000 in
set_option maxRecDepth 100000 in
theorem kX11_bringBack (l : Launch) (G : GT) (o : Nat) (am : Nat → Nat) (u a : Nat → Int) (b : Nat → Nat → Int)  : Ctr l G yX11_bringBack cX11_bringBack 2 ((Option.none : Option Jvm.ClassFile.FieldType)) 1 0 0 [vr o] (fun w => isM o am u a b w) (fun w r w' => r = none ∧ ∃ f, isM o am u f b w' ∧ ∀ q : Nat, f q = if 18 ≤ q ∧ q < 986 then b 24 (q - 18) else a q) := by
  refine Ctr.of (t := tX11_bringBack) (lv0 := [some (vr o), none]) (by decide +kernel) tX11_bringBack_ok rfl rfl (fun w g hP M => ?_)
  have hM := hP
  refine M.run 2 (pc' := 2) (lv' := [some (vr o), some (vi 0)]) (st' := []) rfl ?_
  have Lp2 : ∀ (N : Nat) (f : Nat → Int) (ww : Wo) (k : Nat), (isM o am u f b ww) → (∀ q : Nat, f q = if 18 ≤ q ∧ q < 18 + k then b 24 (q - 18) else a q) → (k ≤ 968) → 968 - k < N → g 0 0 ww 2 [some (vr o), some (vi ((k : Nat) : Int))] [] := by
    intro N
    induction N with
    | zero => intro f ww k _ _ _ hN; exact absurd hN (Nat.not_lt_zero _)
    | succ N ih2 =>
      intro f ww k hMf hcp hk hN
      refine M.run 2 (pc' := 6) (lv' := [some (vr o), some (vi ((k : Nat) : Int))]) (st' := [vi 968, vi ((k : Nat) : Int)]) rfl ?_
      refine M.icmp_ge (tgt := 30) rfl (qI (by omega)) (qI (by decide)) (by decide) (fun h6 => ?_) (fun h6 => ?_)
      · skip
        exact M.vret rfl (Nat.zero_le _) (Nat.zero_le _) ⟨rfl, f, hMf, fun q => by rw [hcp q, show 18 + k = 986 by omega]⟩
      · skip
        refine M.run 1 (pc' := 10) (lv' := [some (vr o), some (vi ((k : Nat) : Int))]) (st' := [vr o]) rfl ?_
        refine M.get fl_X11_7 rfl (isM_o hMf) (kf := 0) (v := vr (am 0)) rfl ?_
        refine M.run 4 (pc' := 18) (lv' := [some (vr o), some (vi ((k : Nat) : Int))]) (st' := [vr o, vi (18 + ((k : Nat) : Int)), vr (am 0)]) rfl ?_
        refine M.get fl_X11_43 rfl (isM_o hMf) (kf := 24) (v := vr (am 24)) rfl ?_
        refine M.run 1 (pc' := 22) (lv' := [some (vr o), some (vi ((k : Nat) : Int))]) (st' := [vi ((k : Nat) : Int), vr (am 24), vi (18 + ((k : Nat) : Int)), vr (am 0)]) rfl ?_
        refine M.ialdN (k) rfl (isM_24 hMf) (by omega) (by decide) ?_
        refine M.iastN (18 + k) rfl (isM_a hMf) (by omega) (by decide) ?_
        have hM2 := isM_setA hMf (uN f (18 + k) ((b 24) k))
        generalize up ww (am 0) (Ar 0 30042 (uN f (18 + k) ((b 24) k))) = w1 at hM2 ⊢
        refine M.run 2 (pc' := 2) (lv' := [some (vr o), some (vi (((k : Nat) : Int) + 1))]) (st' := []) rfl ?_
        exact ih2 ((uN f (18 + k) ((b 24) k))) w1 (k + 1) hM2 (fun q => by by_cases e : q = 18 + k; rw [e, uN_s, if_pos (by omega)]; congr 1; omega; rw [uN_o e, hcp q]; by_cases e2 : 18 ≤ q ∧ q < 18 + k; rw [if_pos e2, if_pos (by omega)]; rw [if_neg e2, if_neg (by omega)]) (by omega) (by omega)
  exact Lp2 _ a w 0 hM (fun q => (if_neg (by omega)).symm) (by omega) (Nat.lt_succ_self _)
set_option maxHeartbeats 4000000 in
set_option maxRecDepth 100000 in
theorem eX11_endsBy (l : Launch) (G : GT) (o : Nat) (am : Nat → Nat) (u a0 : Nat → Int) (b0 : Nat → Nat → Int) (D : Dy) (n : Int) (ht : Tok a0) (hd : Dok n D) (hn : 0 ≤ n ∧ n ≤ 800000000) (c : Nat) (hc : c < 3) (D0 : Dy) (hd0 : Dok n D0) (hsv : Rp (fun k => b0 24 (k - 18)) D0) (hi : Inv D) (hc9 : D.1 18 ≤ 9999) (hu : u 23 = 0 ∨ u 23 = 1) (X : Nat → Int → Option Gn) (hX : TxOk (b0 2) X (a0 1) ∧ a0 2 < a0 1) : Ctr l G yX11_endsBy cX11_endsBy 4 ((Option.some Jvm.ClassFile.FieldType.int)) 9 0 0 [vr o, vi ((c : Nat) : Int)] (fun w => isE o am u a0 b0 D w) (fun w r w' => r = some (vi (mEnds X a0 (u 23) c 400 0 D)) ∧ isE o am u a0 b0 D0 w') := by
  refine Ctr.of (t := tX11_endsBy) (lv0 := [some (vr o), some (vi ((c : Nat) : Int)), none, none]) (by decide +kernel) tX11_endsBy_ok rfl rfl (fun w g hP M => ?_)
  obtain ⟨a, b, hM, hR, hF, hB⟩ := hP
  refine M.run 2 (pc' := 2) (lv' := [some (vr o), some (vi ((c : Nat) : Int)), some (vi 0), none]) (st' := []) rfl ?_
  have Lp2 : ∀ (N : Nat) (Dx : Dy) (k : Nat) (ax : Nat → Int) (bx : Nat → Nat → Int) (wx : Wo), (isM o am u ax bx wx) → (Rp ax Dx) → (Fr a0 ax) → (Fb b0 bx) → (Dok (n + 110 * ((k : Nat) : Int)) Dx) → (mEnds X a0 (u 23) c 400 0 D = mEnds X a0 (u 23) c (400 - k) k Dx) → (k ≤ 400) → (Inv Dx) → (Dx.1 18 ≤ 9999 + ((k : Nat) : Int)) → 400 - k < N → g 0 0 wx 2 [some (vr o), some (vi ((c : Nat) : Int)), some (vi ((k : Nat) : Int)), none] [] := by
    intro N
    induction N with
    | zero => intro Dx k ax bx wx _ _ _ _ _ _ _ _ _ hN; exact absurd hN (Nat.not_lt_zero _)
    | succ N ih2 =>
      intro Dx k ax bx wx hMx hRx hFx hBx hdx hI hk hix hcx hN
      refine M.run 2 (pc' := 6) (lv' := [some (vr o), some (vi ((c : Nat) : Int)), some (vi ((k : Nat) : Int)), none]) (st' := [vi 400, vi ((k : Nat) : Int)]) rfl ?_
      refine M.icmp_ge (tgt := 29) rfl (qI (by omega)) (qI (by decide)) (by decide) (fun h6 => ?_) (fun h6 => ?_)
      · skip
        have hhx := Dok_how hdx (x := c) (by omega)
        refine M.run 3 (pc' := 32) (lv' := [some (vr o), some (vi ((c : Nat) : Int)), some (vi ((k : Nat) : Int)), none]) (st' := [vi 0, vi ((c : Nat) : Int), vr o]) rfl ?_
        refine M.callV (eX11_howAt l G o am u a0 b0 Dx _ ht hdx (by omega) c (by omega) 0 (by omega)) cv_X11_334 cd_X11_howAt rfl (st := []) rfl (isM_o hMx) (by decide) (by decide) rfl (Nat.zero_le _) (Nat.zero_le _) ⟨_, _, hMx, hRx, hFx, hBx⟩ (fun r1 w2 q3 => ?_)
        rw [q3.1, q3.2]
        rw [show Dx.1 (28 + 3 * 0 + c) = Dx.1 (28 + c) from rfl]
        refine M.run 1 (pc' := 36) (lv' := [some (vr o), some (vi ((c : Nat) : Int)), some (vi ((k : Nat) : Int)), none]) (st' := [vi 1, vi (Dx.1 (28 + c))]) rfl ?_
        refine M.icmp_eq (tgt := 43) rfl (qI (by omega)) (qI (by decide)) (by decide) (fun h36 => ?_) (fun h36 => ?_)
        · skip
          have hv : mEnds X a0 (u 23) c 400 0 D = -1 := by rw [hI, show 400 - k = 0 by omega]; exact mEnds_0 h36
          refine M.run 3 (pc' := 46) (lv' := [some (vr o), some (vi ((c : Nat) : Int)), some (vi ((k : Nat) : Int)), some (vi 0)]) (st' := [vr o]) rfl ?_
          refine M.callV (kX11_bringBack l G o am u ax bx) cv_X11_455 cd_X11_bringBack rfl (st := []) rfl (isM_o hMx) (by decide) (by decide) rfl (Nat.zero_le _) (Nat.zero_le _) hMx (fun r6 w7 q8 => ?_)
          obtain ⟨q8r, fb5, hM5, hcf⟩ := q8
          rw [q8r]
          have hR5 : Rp fb5 D0 := Rp_ext hd0 (fun k k1 k2 => by rw [hcf k, if_pos (by omega), hBx 24 (by decide) (by decide) (by decide)]) hsv
          have hF5 : Fr a0 fb5 := fun q hq => by rw [hcf q, if_neg (by omega)]; exact hFx q hq
          refine M.run 1 (pc' := 50) (lv' := [some (vr o), some (vi ((c : Nat) : Int)), some (vi ((k : Nat) : Int)), some (vi 0)]) (st' := [vi 0]) rfl ?_
          refine M.if_eq (tgt := 57) rfl (qI (by decide)) (by decide) (fun _ => ?_) (fun q => absurd q (by decide))
          refine M.run 1 (pc' := 58) (lv' := [some (vr o), some (vi ((c : Nat) : Int)), some (vi ((k : Nat) : Int)), some (vi 0)]) (st' := [vi (-1)]) rfl ?_
          exact M.iret rfl (Nat.zero_le _) (Nat.zero_le _) ⟨reI hv.symm, _, _, hM5, hR5, hF5, hBx⟩
        · skip
          have hv : mEnds X a0 (u 23) c 400 0 D = ((k : Nat) : Int) := by rw [hI]; exact mEnds_e h36
          refine M.run 4 (pc' := 46) (lv' := [some (vr o), some (vi ((c : Nat) : Int)), some (vi ((k : Nat) : Int)), some (vi 1)]) (st' := [vr o]) rfl ?_
          refine M.callV (kX11_bringBack l G o am u ax bx) cv_X11_455 cd_X11_bringBack rfl (st := []) rfl (isM_o hMx) (by decide) (by decide) rfl (Nat.zero_le _) (Nat.zero_le _) hMx (fun r11 w12 q13 => ?_)
          obtain ⟨q13r, fb10, hM10, hcf⟩ := q13
          rw [q13r]
          have hR10 : Rp fb10 D0 := Rp_ext hd0 (fun k k1 k2 => by rw [hcf k, if_pos (by omega), hBx 24 (by decide) (by decide) (by decide)]) hsv
          have hF10 : Fr a0 fb10 := fun q hq => by rw [hcf q, if_neg (by omega)]; exact hFx q hq
          refine M.run 1 (pc' := 50) (lv' := [some (vr o), some (vi ((c : Nat) : Int)), some (vi ((k : Nat) : Int)), some (vi 1)]) (st' := [vi 1]) rfl ?_
          refine M.if_eq (tgt := 57) rfl (qI (by decide)) (by decide) (fun q => absurd q (by decide)) (fun _ => ?_)
          refine M.run 2 (pc' := 58) (lv' := [some (vr o), some (vi ((c : Nat) : Int)), some (vi ((k : Nat) : Int)), some (vi 1)]) (st' := [vi ((k : Nat) : Int)]) rfl ?_
          exact M.iret rfl (Nat.zero_le _) (Nat.zero_le _) ⟨reI hv.symm, _, _, hM10, hR10, hF10, hBx⟩
      · skip
        have hhx := Dok_how hdx (x := c) (by omega)
        refine M.run 3 (pc' := 12) (lv' := [some (vr o), some (vi ((c : Nat) : Int)), some (vi ((k : Nat) : Int)), none]) (st' := [vi 0, vi ((c : Nat) : Int), vr o]) rfl ?_
        refine M.callV (eX11_howAt l G o am u a0 b0 Dx _ ht hdx (by omega) c (by omega) 0 (by omega)) cv_X11_334 cd_X11_howAt rfl (st := []) rfl (isM_o hMx) (by decide) (by decide) rfl (Nat.zero_le _) (Nat.zero_le _) ⟨_, _, hMx, hRx, hFx, hBx⟩ (fun r15 w16 q17 => ?_)
        rw [q17.1, q17.2]
        rw [show Dx.1 (28 + 3 * 0 + c) = Dx.1 (28 + c) from rfl]
        refine M.run 1 (pc' := 16) (lv' := [some (vr o), some (vi ((c : Nat) : Int)), some (vi ((k : Nat) : Int)), none]) (st' := [vi 1, vi (Dx.1 (28 + c))]) rfl ?_
        refine M.icmp_ne (tgt := 29) rfl (qI (by omega)) (qI (by decide)) (by decide) (fun h16 => ?_) (fun h16 => ?_)
        · skip
          have hhx := Dok_how hdx (x := c) (by omega)
          refine M.run 3 (pc' := 32) (lv' := [some (vr o), some (vi ((c : Nat) : Int)), some (vi ((k : Nat) : Int)), none]) (st' := [vi 0, vi ((c : Nat) : Int), vr o]) rfl ?_
          refine M.callV (eX11_howAt l G o am u a0 b0 Dx _ ht hdx (by omega) c (by omega) 0 (by omega)) cv_X11_334 cd_X11_howAt rfl (st := []) rfl (isM_o hMx) (by decide) (by decide) rfl (Nat.zero_le _) (Nat.zero_le _) ⟨_, _, hMx, hRx, hFx, hBx⟩ (fun r19 w20 q21 => ?_)
          rw [q21.1, q21.2]
          rw [show Dx.1 (28 + 3 * 0 + c) = Dx.1 (28 + c) from rfl]
          refine M.run 1 (pc' := 36) (lv' := [some (vr o), some (vi ((c : Nat) : Int)), some (vi ((k : Nat) : Int)), none]) (st' := [vi 1, vi (Dx.1 (28 + c))]) rfl ?_
          refine M.icmp_eq (tgt := 43) rfl (qI (by omega)) (qI (by decide)) (by decide) (fun h36 => ?_) (fun h36 => ?_)
          · skip
            have hv : mEnds X a0 (u 23) c 400 0 D = -1 := by rw [hI, show 400 - k = 0 by omega]; exact mEnds_0 h36
            refine M.run 3 (pc' := 46) (lv' := [some (vr o), some (vi ((c : Nat) : Int)), some (vi ((k : Nat) : Int)), some (vi 0)]) (st' := [vr o]) rfl ?_
            refine M.callV (kX11_bringBack l G o am u ax bx) cv_X11_455 cd_X11_bringBack rfl (st := []) rfl (isM_o hMx) (by decide) (by decide) rfl (Nat.zero_le _) (Nat.zero_le _) hMx (fun r24 w25 q26 => ?_)
            obtain ⟨q26r, fb23, hM23, hcf⟩ := q26
            rw [q26r]
            have hR23 : Rp fb23 D0 := Rp_ext hd0 (fun k k1 k2 => by rw [hcf k, if_pos (by omega), hBx 24 (by decide) (by decide) (by decide)]) hsv
            have hF23 : Fr a0 fb23 := fun q hq => by rw [hcf q, if_neg (by omega)]; exact hFx q hq
            refine M.run 1 (pc' := 50) (lv' := [some (vr o), some (vi ((c : Nat) : Int)), some (vi ((k : Nat) : Int)), some (vi 0)]) (st' := [vi 0]) rfl ?_
            refine M.if_eq (tgt := 57) rfl (qI (by decide)) (by decide) (fun _ => ?_) (fun q => absurd q (by decide))
            refine M.run 1 (pc' := 58) (lv' := [some (vr o), some (vi ((c : Nat) : Int)), some (vi ((k : Nat) : Int)), some (vi 0)]) (st' := [vi (-1)]) rfl ?_
            exact M.iret rfl (Nat.zero_le _) (Nat.zero_le _) ⟨reI hv.symm, _, _, hM23, hR23, hF23, hBx⟩
          · skip
            have hv : mEnds X a0 (u 23) c 400 0 D = ((k : Nat) : Int) := by rw [hI]; exact mEnds_e h36
            refine M.run 4 (pc' := 46) (lv' := [some (vr o), some (vi ((c : Nat) : Int)), some (vi ((k : Nat) : Int)), some (vi 1)]) (st' := [vr o]) rfl ?_
            refine M.callV (kX11_bringBack l G o am u ax bx) cv_X11_455 cd_X11_bringBack rfl (st := []) rfl (isM_o hMx) (by decide) (by decide) rfl (Nat.zero_le _) (Nat.zero_le _) hMx (fun r29 w30 q31 => ?_)
            obtain ⟨q31r, fb28, hM28, hcf⟩ := q31
            rw [q31r]
            have hR28 : Rp fb28 D0 := Rp_ext hd0 (fun k k1 k2 => by rw [hcf k, if_pos (by omega), hBx 24 (by decide) (by decide) (by decide)]) hsv
            have hF28 : Fr a0 fb28 := fun q hq => by rw [hcf q, if_neg (by omega)]; exact hFx q hq
            refine M.run 1 (pc' := 50) (lv' := [some (vr o), some (vi ((c : Nat) : Int)), some (vi ((k : Nat) : Int)), some (vi 1)]) (st' := [vi 1]) rfl ?_
            refine M.if_eq (tgt := 57) rfl (qI (by decide)) (by decide) (fun q => absurd q (by decide)) (fun _ => ?_)
            refine M.run 2 (pc' := 58) (lv' := [some (vr o), some (vi ((c : Nat) : Int)), some (vi ((k : Nat) : Int)), some (vi 1)]) (st' := [vi ((k : Nat) : Int)]) rfl ?_
            exact M.iret rfl (Nat.zero_le _) (Nat.zero_le _) ⟨reI hv.symm, _, _, hM28, hR28, hF28, hBx⟩
        · skip
          have hck1 : Dx.1 18 < 10400 := by omega
          have hck2 : Dx.1 20 < 10400 := by have q := hix.1; omega
          refine M.run 1 (pc' := 20) (lv' := [some (vr o), some (vi ((c : Nat) : Int)), some (vi ((k : Nat) : Int)), none]) (st' := [vr o]) rfl ?_
          refine M.callV (eX11_tick l G o am u a0 b0 Dx _ ht hdx (by omega)  hu X hX (Inv_38 hix) ⟨hck1, hck2⟩) cv_X11_410 cd_X11_tick rfl (st := []) rfl (isM_o hMx) (by decide) (by decide) rfl (Nat.zero_le _) (Nat.zero_le _) ⟨_, _, hMx, hRx, hFx, hBx⟩ (fun r34 w35 q36 => ?_)
          obtain ⟨q36r, a33, b33, hM33, hR33, hF33, hB33⟩ := q36
          rw [q36r]
          have hd33 : Dok ((n + 110 * ((k : Nat) : Int)) + 110) (mTick X a0 (u 23) Dx) := Dok_tick ht hdx (Inv_38 hix) hck1 hck2
          have es33 : (mTick X a0 (u 23) Dx).1 = (mTick X a0 (u 23) Dx).1 := rfl
          refine M.run 2 (pc' := 2) (lv' := [some (vr o), some (vi ((c : Nat) : Int)), some (vi (((k : Nat) : Int) + 1)), none]) (st' := []) rfl ?_
          exact ih2 ((mTick X a0 (u 23) Dx)) (k + 1) a33 b33 w35 hM33 hR33 hF33 hB33 (Dok_mono (by omega) hd33) (by rw [hI, mEnds_s (by omega) h16, show 400 - k - 1 = 400 - (k + 1) by omega]) (by omega) (Inv_tick ht hix) (by rw [mTick_18]; omega) (by omega)
  exact Lp2 _ D 0 a b w hM hR hF hB (Dok_mono (by omega) hd) rfl (by omega) hi (by omega) (Nat.lt_succ_self _)
set_option maxHeartbeats 4000000 in
set_option maxRecDepth 100000 in
theorem vX11_foretold (l : Launch) (G : GT) (o : Nat) (am : Nat → Nat) (u tl : Nat → Int) (b0 : Nat → Nat → Int) (D : Dy) (L : List Dy) (n : Int) (hT : Tok tl) (hd : Dok n D) (hi : Inv D) (hc9 : D.1 18 ≤ 9999) (hL : Lok n L) (hn : 0 ≤ n ∧ n ≤ 700000000) (hu : u 23 = 0 ∨ u 23 = 1) (X : Nat → Int → Option Gn) (hX : TxOk (b0 2) X (tl 1) ∧ tl 2 < tl 1) (x : Int) (y : Int) (z : Int) (hx : -2147483648 ≤ x ∧ x ≤ 2147483647) (hy : -2147483648 ≤ y ∧ y ≤ 2147483647) (hz : -2147483648 ≤ z ∧ z ≤ 2147483647) : Ctr l G yX11_foretold cX11_foretold 5 ((Option.some Jvm.ClassFile.FieldType.int)) 9 0 0 [vr o, vi x, vi y, vi z] (fun w => isT o am u tl b0 D L w) (fun w r w' => r = some (vi (if foC tl x y z then mTold tl (mFore X tl (u 23) x.toNat D) y.toNat z else -2)) ∧ ∃ b1, isT o am u tl b1 D L w' ∧ ∀ k : Nat, k ≠ 24 → b1 k = b0 k) := by
  refine Ctr.of (t := tX11_foretold) (lv0 := [some (vr o), some (vi x), some (vi y), some (vi z), none]) (by decide +kernel) tX11_foretold_ok rfl rfl (fun w g hP M => ?_)
  obtain ⟨a0, ⟨a, b, hM, hR, hF, hB⟩, hTE, hRg⟩ := hP
  have ht : Tok a0 := Tok_R hT hTE hRg
  have hk0 : 0 ≤ tl 0 ∧ tl 0 ≤ 3 := hT.1 0 (by decide)
  refine M.run 3 (pc' := 4) (lv' := [some (vr o), some (vi x), some (vi y), some (vi z), none]) (st' := [vi 60, vi 1, vi x]) rfl ?_
  refine M.callS (kX11_isIn l G x 1 60 (qI (by omega)) (qI (by omega)) (qI (by omega))) cs_X11_50 cd_X11_isIn rfl (st := []) rfl (by decide) (by decide) rfl (Nat.zero_le _) (Nat.zero_le _) trivial (fun r1 w2 q3 => ?_)
  rw [q3.1, q3.2]
  refine M.if_eq (tgt := 28) rfl (inI_zb _) (by decide) (fun h7 => ?_) (fun h7 => ?_)
  · skip
    replace h7 := zb_fd h7
    have hno : ¬ foC tl x y z := fun q => h7 q.1
    refine M.run 1 (pc' := 30) (lv' := [some (vr o), some (vi x), some (vi y), some (vi z), none]) (st' := [vi (-2)]) rfl ?_
    exact M.iret rfl (Nat.zero_le _) (Nat.zero_le _) ⟨reI (if_neg hno).symm, ⟨b0, ⟨a0, ⟨_, _, hM, hR, hF, hB⟩, hTE, hRg⟩, fun _ _ => rfl⟩⟩
  · skip
    replace h7 := zb_td h7
    refine M.run 2 (pc' := 12) (lv' := [some (vr o), some (vi x), some (vi y), some (vi z), none]) (st' := [vi y, vr o]) rfl ?_
    refine M.callV (kX11_isBlock l G o am u a b y (by omega) (Mok_of ht hd (by omega) hR hF)) cv_X11_331 cd_X11_isBlock rfl (st := []) rfl (isM_o hM) (by decide) (by decide) rfl (Nat.zero_le _) (Nat.zero_le _) hM (fun r5 w6 q7 => ?_)
    rw [q7.1, q7.2]
    rw [hF 0 (Or.inl (by decide)), hTE.1 0 (by decide) (by decide) (by decide)]
    refine M.if_eq (tgt := 28) rfl (inI_zb _) (by decide) (fun h15 => ?_) (fun h15 => ?_)
    · skip
      replace h15 := zb_fd h15
      have hno : ¬ foC tl x y z := fun q => h15 q.2.1
      refine M.run 1 (pc' := 30) (lv' := [some (vr o), some (vi x), some (vi y), some (vi z), none]) (st' := [vi (-2)]) rfl ?_
      exact M.iret rfl (Nat.zero_le _) (Nat.zero_le _) ⟨reI (if_neg hno).symm, ⟨b0, ⟨a0, ⟨_, _, hM, hR, hF, hB⟩, hTE, hRg⟩, fun _ _ => rfl⟩⟩
    · skip
      replace h15 := zb_td h15
      refine M.run 3 (pc' := 22) (lv' := [some (vr o), some (vi x), some (vi y), some (vi z), none]) (st' := [vi 8, vi 0, vi z]) rfl ?_
      refine M.callS (kX11_isIn l G z 0 8 (qI (by omega)) (qI (by omega)) (qI (by omega))) cs_X11_50 cd_X11_isIn rfl (st := []) rfl (by decide) (by decide) rfl (Nat.zero_le _) (Nat.zero_le _) trivial (fun r9 w10 q11 => ?_)
      rw [q11.1, q11.2]
      refine M.if_ne (tgt := 31) rfl (inI_zb _) (by decide) (fun h25 => ?_) (fun h25 => ?_)
      · skip
        replace h25 := zb_td h25
        have hfo : foC tl x y z := And.intro h7 (And.intro h15 h25)
        have hx0 : 0 ≤ x := by omega
        obtain ⟨m, rfl⟩ := Int.eq_ofNat_of_zero_le (show (0 : Int) ≤ x from hx0)
        obtain ⟨c, rfl⟩ := Int.eq_ofNat_of_zero_le (show (0 : Int) ≤ y from h15.1)
        refine M.run 1 (pc' := 32) (lv' := [some (vr o), some (vi ((m : Nat) : Int)), some (vi ((c : Nat) : Int)), some (vi z), none]) (st' := [vr o]) rfl ?_
        refine M.callV (kX11_putAside l G o am u a b) cv_X11_452 cd_X11_putAside rfl (st := []) rfl (isM_o hM) (by decide) (by decide) rfl (Nat.zero_le _) (Nat.zero_le _) hM (fun r14 w15 q16 => ?_)
        obtain ⟨q16r, f, hMa, hcf⟩ := q16
        rw [q16r]
        have hB0 := hB
        have hX0 := hX
        have hR0 := hR
        obtain ⟨b0, eb0⟩ : ∃ z, z = uB b0 24 f := ⟨_, rfl⟩
        have hBa : Fb b0 (uB b 24 f) := fun k k1 k2 k3 => by rw [eb0]; unfold uB; split; rfl; exact hB0 k k1 k2 k3
        have hX : TxOk (b0 2) X (tl 1) ∧ tl 2 < tl 1 := by rw [eb0]; exact hX0
        have hsv : Rp (fun k => b0 24 (k - 18)) D := Rp_ext hd (fun k k1 k2 => by rw [eb0]; show f (k - 18) = a k; rw [hcf _ (by omega)]; congr 1; omega) hR0
        refine M.run 2 (pc' := 38) (lv' := [some (vr o), some (vi ((m : Nat) : Int)), some (vi ((c : Nat) : Int)), some (vi z), some (vi 0)]) (st' := []) rfl ?_
        have Lp38 : ∀ (N : Nat) (k : Nat) (Dx : Dy) (a0 : Nat → Int) (ax : Nat → Int) (bx : Nat → Nat → Int) (wx : Wo), (isM o am u ax bx wx) → (Rp ax Dx) → (Fr a0 ax) → (Fb b0 bx) → (TE tl a0) → (Rg a0 L) → (Tok a0) → (Dok (n + 110 * ((k : Nat) : Int)) Dx) → (Inv Dx) → (Dx.1 18 ≤ 9999) → (Lok (n + 110 * ((k : Nat) : Int)) L) → (mFore X tl (u 23) m D = mFore X tl (u 23) (m - k) Dx) → (k ≤ m) → m - k < N → g 0 0 wx 38 [some (vr o), some (vi ((m : Nat) : Int)), some (vi ((c : Nat) : Int)), some (vi z), some (vi ((k : Nat) : Int))] [] := by
          intro N
          induction N with
          | zero => intro k Dx a0 ax bx wx _ _ _ _ _ _ _ _ _ _ _ _ _ hN; exact absurd hN (Nat.not_lt_zero _)
          | succ N ih38 =>
            intro k Dx a0 ax bx wx hMx hRx hFx hBx hTE hRg ht hdx hix h9x hLx hI hk hN
            refine M.run 2 (pc' := 41) (lv' := [some (vr o), some (vi ((m : Nat) : Int)), some (vi ((c : Nat) : Int)), some (vi z), some (vi ((k : Nat) : Int))]) (st' := [vi ((m : Nat) : Int), vi ((k : Nat) : Int)]) rfl ?_
            refine M.icmp_ge (tgt := 67) rfl (qI (by omega)) (qI (by omega)) (by decide) (fun h41 => ?_) (fun h41 => ?_)
            · skip
              refine M.run 3 (pc' := 70) (lv' := [some (vr o), some (vi ((m : Nat) : Int)), some (vi ((c : Nat) : Int)), some (vi z), some (vi ((k : Nat) : Int))]) (st' := [vi z, vi ((c : Nat) : Int), vr o]) rfl ?_
              refine M.callV (vX11_told l G o am u tl b0 Dx L (n + 110 * ((k : Nat) : Int)) hT hdx hix h9x (Lok_mono (by omega) hLx) (by omega) hu X hX c (by omega) z (by omega)) cv_X11_431 cd_X11_told rfl (st := []) rfl (isM_o hMx) (by decide) (by decide) rfl (Nat.zero_le _) (Nat.zero_le _) ⟨a0, ⟨_, _, hMx, hRx, hFx, hBx⟩, hTE, hRg⟩ (fun r18 w19 q20 => ?_)
              rw [q20.1, q20.2]
              refine M.run 2 (pc' := 76) (lv' := [some (vr o), some (vi ((m : Nat) : Int)), some (vi ((c : Nat) : Int)), some (vi z), some (vi (mTold tl Dx c z))]) (st' := [vr o]) rfl ?_
              refine M.callV (kX11_bringBack l G o am u ax bx) cv_X11_455 cd_X11_bringBack rfl (st := []) rfl (isM_o hMx) (by decide) (by decide) rfl (Nat.zero_le _) (Nat.zero_le _) hMx (fun r23 w24 q25 => ?_)
              obtain ⟨q25r, fb22, hM22, hcf⟩ := q25
              rw [q25r]
              have hR22 : Rp fb22 D := Rp_ext hd (fun k k1 k2 => by rw [hcf k, if_pos (by omega), hBx 24 (by decide) (by decide) (by decide)]) hsv
              have hF22 : Fr a0 fb22 := fun q hq => by rw [hcf q, if_neg (by omega)]; exact hFx q hq
              refine M.run 1 (pc' := 81) (lv' := [some (vr o), some (vi ((m : Nat) : Int)), some (vi ((c : Nat) : Int)), some (vi z), some (vi (mTold tl Dx c z))]) (st' := [vi (mTold tl Dx c z)]) rfl ?_
              exact M.iret rfl (Nat.zero_le _) (Nat.zero_le _) ⟨reI (by rw [if_pos hfo]; show _ = mTold tl (mFore X tl (u 23) m D) c z; rw [hI, show m - k = 0 by omega]; rfl), ⟨b0, ⟨a0, ⟨_, _, hM22, hR22, hF22, hBx⟩, hTE, hRg⟩, fun k hk => by rw [eb0]; exact if_neg hk⟩⟩
            · skip
              have hcx := Dok_clk hdx
              refine M.run 1 (pc' := 45) (lv' := [some (vr o), some (vi ((m : Nat) : Int)), some (vi ((c : Nat) : Int)), some (vi z), some (vi ((k : Nat) : Int))]) (st' := [vr o]) rfl ?_
              refine M.get fl_X11_7 rfl (isM_o hMx) (kf := 0) (v := vr (am 0)) rfl ?_
              refine M.run 1 (pc' := 50) (lv' := [some (vr o), some (vi ((m : Nat) : Int)), some (vi ((c : Nat) : Int)), some (vi z), some (vi ((k : Nat) : Int))]) (st' := [vi 18, vr (am 0)]) rfl ?_
              refine M.ialdN (18) rfl (isM_a hMx) (by decide) (by decide) ?_
              rw [show ax 18 = Dx.1 18 from Rp_s hRx (k := 18) (by decide) (by decide) (by decide)]
              refine M.run 1 (pc' := 54) (lv' := [some (vr o), some (vi ((m : Nat) : Int)), some (vi ((c : Nat) : Int)), some (vi z), some (vi ((k : Nat) : Int))]) (st' := [vi 9999, vi (Dx.1 18)]) rfl ?_
              refine M.icmp_ge (tgt := 61) rfl (qI (by omega)) (qI (by decide)) (by decide) (fun h54 => ?_) (fun h54 => ?_)
              · skip
                have hfs : (if Dx.1 18 < 9999 then mTick X tl (u 23) Dx else Dx) = Dx := if_neg (by omega)
                refine M.run 2 (pc' := 38) (lv' := [some (vr o), some (vi ((m : Nat) : Int)), some (vi ((c : Nat) : Int)), some (vi z), some (vi (((k : Nat) : Int) + 1))]) (st' := []) rfl ?_
                exact ih38 (k + 1) Dx a0 ax bx wx hMx hRx hFx hBx hTE hRg ht (Dok_mono (by omega) hdx) hix h9x (Lok_mono (by omega) hLx) (by rw [hI, mFore_s (by omega), hfs, show m - k - 1 = m - (k + 1) by omega]) (by omega) (by omega)
              · skip
                refine M.run 1 (pc' := 58) (lv' := [some (vr o), some (vi ((m : Nat) : Int)), some (vi ((c : Nat) : Int)), some (vi z), some (vi ((k : Nat) : Int))]) (st' := [vr o]) rfl ?_
                refine M.callV (eX11_tick l G o am u a0 b0 Dx _ ht hdx (by omega) hu X (hXof hTE hX) (Inv_38 hix) (by have q := (hix).1; omega)) cv_X11_410 cd_X11_tick rfl (st := []) rfl (isM_o hMx) (by decide) (by decide) rfl (Nat.zero_le _) (Nat.zero_le _) ⟨_, _, hMx, hRx, hFx, hBx⟩ (fun r28 w29 q30 => ?_)
                rw [c_tick hTE hT hdx] at q30
                obtain ⟨q30r, a27, b27, hM27, hR27, hF27, hB27⟩ := q30
                rw [q30r]
                have hd27 : Dok ((n + 110 * ((k : Nat) : Int)) + 110) (mTick X tl (u 23) Dx) := Dok_tick hT hdx (Inv_38 hix) (by omega) (by have q := (hix).1; omega)
                have hi27 : Inv (mTick X tl (u 23) Dx) := Inv_tick hT hix
                have h927 : (mTick X tl (u 23) Dx).1 18 ≤ 9999 := (by rw [mTick_18]; omega)
                have hfs : (if Dx.1 18 < 9999 then mTick X tl (u 23) Dx else Dx) = (mTick X tl (u 23) Dx) := if_pos (by omega)
                refine M.run 2 (pc' := 38) (lv' := [some (vr o), some (vi ((m : Nat) : Int)), some (vi ((c : Nat) : Int)), some (vi z), some (vi (((k : Nat) : Int) + 1))]) (st' := []) rfl ?_
                exact ih38 (k + 1) ((mTick X tl (u 23) Dx)) a0 a27 b27 w29 hM27 hR27 hF27 hB27 hTE hRg ht (Dok_mono (by omega) hd27) hi27 h927 (Lok_mono (by omega) hLx) (by rw [hI, mFore_s (by omega), hfs, show m - k - 1 = m - (k + 1) by omega]) (by omega) (by omega)
        exact Lp38 _ 0 D a0 a ((uB b 24 f)) w15 hMa hR hF hBa hTE hRg ht (Dok_mono (by omega) hd) hi hc9 (Lok_mono (by omega) hL) rfl (by omega) (Nat.lt_succ_self _)
      · skip
        replace h25 := zb_fd h25
        have hno : ¬ foC tl x y z := fun q => h25 q.2.2
        refine M.run 1 (pc' := 30) (lv' := [some (vr o), some (vi x), some (vi y), some (vi z), none]) (st' := [vi (-2)]) rfl ?_
        exact M.iret rfl (Nat.zero_le _) (Nat.zero_le _) ⟨reI (if_neg hno).symm, ⟨b0, ⟨a0, ⟨_, _, hM, hR, hF, hB⟩, hTE, hRg⟩, fun _ _ => rfl⟩⟩
set_option maxHeartbeats 4000000 in
set_option maxRecDepth 100000 in
theorem vX11_till (l : Launch) (G : GT) (o : Nat) (am : Nat → Nat) (u tl : Nat → Int) (b0 : Nat → Nat → Int) (D : Dy) (L : List Dy) (n : Int) (hT : Tok tl) (hd : Dok n D) (hi : Inv D) (hc9 : D.1 18 ≤ 9999) (hL : Lok n L) (hn : 0 ≤ n ∧ n ≤ 700000000) (hu : u 23 = 0 ∨ u 23 = 1) (X : Nat → Int → Option Gn) (hX : TxOk (b0 2) X (tl 1) ∧ tl 2 < tl 1) (x : Int) (hx : -2147483648 ≤ x ∧ x ≤ 2147483647) : Ctr l G yX11_till cX11_till 2 ((Option.some Jvm.ClassFile.FieldType.int)) 10 0 0 [vr o, vi x] (fun w => isT o am u tl b0 D L w) (fun w r w' => r = some (vi (if (0 ≤ x ∧ x < tl 0) ∧ D.1 (28 + x.toNat) = 1 then mEnds X tl (u 23) x.toNat 400 0 D else -1)) ∧ ∃ b1, isT o am u tl b1 D L w' ∧ ∀ k : Nat, k ≠ 24 → b1 k = b0 k) := by
  refine Ctr.of (t := tX11_till) (lv0 := [some (vr o), some (vi x)]) (by decide +kernel) tX11_till_ok rfl rfl (fun w g hP M => ?_)
  obtain ⟨a0, ⟨a, b, hM, hR, hF, hB⟩, hTE, hRg⟩ := hP
  have ht : Tok a0 := Tok_R hT hTE hRg
  have hk0 : 0 ≤ tl 0 ∧ tl 0 ≤ 3 := hT.1 0 (by decide)
  refine M.run 2 (pc' := 2) (lv' := [some (vr o), some (vi x)]) (st' := [vi x, vr o]) rfl ?_
  refine M.callV (kX11_isBlock l G o am u a b x (by omega) (Mok_of ht hd (by omega) hR hF)) cv_X11_331 cd_X11_isBlock rfl (st := []) rfl (isM_o hM) (by decide) (by decide) rfl (Nat.zero_le _) (Nat.zero_le _) hM (fun r1 w2 q3 => ?_)
  rw [q3.1, q3.2]
  rw [hF 0 (Or.inl (by decide)), hTE.1 0 (by decide) (by decide) (by decide)]
  refine M.if_eq (tgt := 18) rfl (inI_zb _) (by decide) (fun h5 => ?_) (fun h5 => ?_)
  · skip
    replace h5 := zb_fd h5
    refine M.run 1 (pc' := 19) (lv' := [some (vr o), some (vi x)]) (st' := [vi (-1)]) rfl ?_
    exact M.iret rfl (Nat.zero_le _) (Nat.zero_le _) ⟨reI (if_neg (fun q => h5 q.1)).symm, ⟨b0, ⟨a0, ⟨_, _, hM, hR, hF, hB⟩, hTE, hRg⟩, fun _ _ => rfl⟩⟩
  · skip
    replace h5 := zb_td h5
    have h05 := h5
    obtain ⟨c, rfl⟩ := Int.eq_ofNat_of_zero_le (show (0 : Int) ≤ x from h5.1)
    have hhx := Dok_how hd (x := c) (by omega)
    refine M.run 3 (pc' := 11) (lv' := [some (vr o), some (vi ((c : Nat) : Int))]) (st' := [vi 0, vi ((c : Nat) : Int), vr o]) rfl ?_
    refine M.callV (eX11_howAt l G o am u a0 b0 D _ ht hd (by omega) c (by omega) 0 (by omega)) cv_X11_334 cd_X11_howAt rfl (st := []) rfl (isM_o hM) (by decide) (by decide) rfl (Nat.zero_le _) (Nat.zero_le _) ⟨_, _, hM, hR, hF, hB⟩ (fun r5 w6 q7 => ?_)
    rw [q7.1, q7.2]
    rw [show D.1 (28 + 3 * 0 + c) = D.1 (28 + c) from rfl]
    refine M.run 1 (pc' := 15) (lv' := [some (vr o), some (vi ((c : Nat) : Int))]) (st' := [vi 1, vi (D.1 (28 + c))]) rfl ?_
    refine M.icmp_eq (tgt := 20) rfl (qI (by omega)) (qI (by decide)) (by decide) (fun h15 => ?_) (fun h15 => ?_)
    · skip
      refine M.run 1 (pc' := 21) (lv' := [some (vr o), some (vi ((c : Nat) : Int))]) (st' := [vr o]) rfl ?_
      refine M.callV (kX11_putAside l G o am u a b) cv_X11_452 cd_X11_putAside rfl (st := []) rfl (isM_o hM) (by decide) (by decide) rfl (Nat.zero_le _) (Nat.zero_le _) hM (fun r10 w11 q12 => ?_)
      obtain ⟨q12r, f, hMa, hcf⟩ := q12
      rw [q12r]
      have hB0 := hB
      have hX0 := hX
      have hR0 := hR
      obtain ⟨b0, eb0⟩ : ∃ z, z = uB b0 24 f := ⟨_, rfl⟩
      have hBa : Fb b0 (uB b 24 f) := fun k k1 k2 k3 => by rw [eb0]; unfold uB; split; rfl; exact hB0 k k1 k2 k3
      have hX : TxOk (b0 2) X (tl 1) ∧ tl 2 < tl 1 := by rw [eb0]; exact hX0
      have hsv : Rp (fun k => b0 24 (k - 18)) D := Rp_ext hd (fun k k1 k2 => by rw [eb0]; show f (k - 18) = a k; rw [hcf _ (by omega)]; congr 1; omega) hR0
      refine M.run 2 (pc' := 26) (lv' := [some (vr o), some (vi ((c : Nat) : Int))]) (st' := [vi ((c : Nat) : Int), vr o]) rfl ?_
      refine M.callV (eX11_endsBy l G o am u a0 b0 D n ht hd (by omega) c (by omega) D (Dok_mono (by omega) hd) hsv hi hc9 hu X (hXof hTE hX)) cv_X11_458 cd_X11_endsBy rfl (st := []) rfl (isM_o hMa) (by decide) (by decide) rfl (Nat.zero_le _) (Nat.zero_le _) ⟨_, _, hMa, hR, hF, hBa⟩ (fun r15 w16 q17 => ?_)
      obtain ⟨q17r, a14, b14, hM14, hR14, hF14, hB14⟩ := q17
      rw [q17r, c_ends hTE hT ht 400 0 hd hi (by omega)]
      exact M.iret rfl (Nat.zero_le _) (Nat.zero_le _) ⟨reI (if_pos (And.intro h05 h15)).symm, ⟨b0, ⟨a0, ⟨_, _, hM14, hR14, hF14, hB14⟩, hTE, hRg⟩, fun k hk => by rw [eb0]; exact if_neg hk⟩⟩
    · skip
      refine M.run 1 (pc' := 19) (lv' := [some (vr o), some (vi ((c : Nat) : Int))]) (st' := [vi (-1)]) rfl ?_
      exact M.iret rfl (Nat.zero_le _) (Nat.zero_le _) ⟨reI (if_neg (fun q => h15 q.2)).symm, ⟨b0, ⟨a0, ⟨_, _, hM, hR, hF, hB⟩, hTE, hRg⟩, fun _ _ => rfl⟩⟩
set_option maxHeartbeats 4000000 in
set_option maxRecDepth 100000 in
theorem vX11_ideal (l : Launch) (G : GT) (o : Nat) (am : Nat → Nat) (u tl : Nat → Int) (b0 : Nat → Nat → Int) (D : Dy) (L : List Dy) (n : Int) (hT : Tok tl) (hd : Dok n D) (hi : Inv D) (hc9 : D.1 18 ≤ 9999) (hL : Lok n L) (hn : 0 ≤ n ∧ n ≤ 700000000) (hu : u 23 = 0 ∨ u 23 = 1) (X : Nat → Int → Option Gn) (hX : TxOk (b0 2) X (tl 1) ∧ tl 2 < tl 1) (x : Int) (hx : -2147483648 ≤ x ∧ x ≤ 2147483647) (hu0 : u 23 = 0) : Ctr l G yX11_ideal cX11_ideal 3 ((Option.some Jvm.ClassFile.FieldType.int)) 11 0 0 [vr o, vi x] (fun w => isT o am u tl b0 D L w) (fun w r w' => r = some (vi (if opC tl D x then mEnds X tl 1 x.toNat 400 0 (mOpen tl x.toNat D) else -1)) ∧ ∃ b1, isT o am u tl b1 D L w' ∧ ∀ k : Nat, k ≠ 24 → b1 k = b0 k) := by
  refine Ctr.of (t := tX11_ideal) (lv0 := [some (vr o), some (vi x), none]) (by decide +kernel) tX11_ideal_ok rfl rfl (fun w g hP M => ?_)
  obtain ⟨a0, ⟨a, b, hM, hR, hF, hB⟩, hTE, hRg⟩ := hP
  have ht : Tok a0 := Tok_R hT hTE hRg
  have hk0 : 0 ≤ tl 0 ∧ tl 0 ≤ 3 := hT.1 0 (by decide)
  refine M.run 2 (pc' := 2) (lv' := [some (vr o), some (vi x), none]) (st' := [vi x, vr o]) rfl ?_
  refine M.callV (eX11_canOpen l G o am u a0 b0 D _ ht hd (by omega) x (by omega)) cv_X11_402 cd_X11_canOpen rfl (st := []) rfl (isM_o hM) (by decide) (by decide) rfl (Nat.zero_le _) (Nat.zero_le _) ⟨_, _, hM, hR, hF, hB⟩ (fun r1 w2 q3 => ?_)
  rw [q3.1, q3.2]
  rw [show zb (decide ((0 ≤ x ∧ x < a0 0) ∧ D.1 (28 + (x).toNat) = 0)) = zb (decide (opC tl D x)) from by rw [hTE.1 0 (by decide) (by decide) (by decide)]]
  refine M.if_ne (tgt := 10) rfl (inI_zb _) (by decide) (fun h5 => ?_) (fun h5 => ?_)
  · skip
    replace h5 := zb_td h5
    have hop := h5
    obtain ⟨c, rfl⟩ := Int.eq_ofNat_of_zero_le (show (0 : Int) ≤ x from h5.1.1)
    refine M.run 1 (pc' := 11) (lv' := [some (vr o), some (vi ((c : Nat) : Int)), none]) (st' := [vr o]) rfl ?_
    refine M.callV (kX11_putAside l G o am u a b) cv_X11_452 cd_X11_putAside rfl (st := []) rfl (isM_o hM) (by decide) (by decide) rfl (Nat.zero_le _) (Nat.zero_le _) hM (fun r6 w7 q8 => ?_)
    obtain ⟨q8r, f, hMa, hcf⟩ := q8
    rw [q8r]
    have hB0 := hB
    have hX0 := hX
    have hR0 := hR
    obtain ⟨b0, eb0⟩ : ∃ z, z = uB b0 24 f := ⟨_, rfl⟩
    have hBa : Fb b0 (uB b 24 f) := fun k k1 k2 k3 => by rw [eb0]; unfold uB; split; rfl; exact hB0 k k1 k2 k3
    have hX : TxOk (b0 2) X (tl 1) ∧ tl 2 < tl 1 := by rw [eb0]; exact hX0
    have hsv : Rp (fun k => b0 24 (k - 18)) D := Rp_ext hd (fun k k1 k2 => by rw [eb0]; show f (k - 18) = a k; rw [hcf _ (by omega)]; congr 1; omega) hR0
    refine M.run 2 (pc' := 16) (lv' := [some (vr o), some (vi ((c : Nat) : Int)), none]) (st' := [vi 1, vr o]) rfl ?_
    refine M.put fl_X11_362 rfl (isM_o hMa) rfl rfl (Nat.le_of_ble_eq_true rfl) ?_
    have hM11 := isM_setU (u' := uN u 23 1) (fs := (Mf am u).set 23 (vi 1)) hMa rfl
    generalize up w7 o (Ob 10 ((Mf am u).set 23 (vi 1))) = w10 at hM11 ⊢
    refine M.run 2 (pc' := 21) (lv' := [some (vr o), some (vi ((c : Nat) : Int)), none]) (st' := [vi ((c : Nat) : Int), vr o]) rfl ?_
    refine M.callV (eX11_openNow_ l G o am (uN u 23 1) a0 b0 D _ ht hd (by omega) c (by omega)) cv_X11_408 cd_X11_openNow_ rfl (st := []) rfl (isM_o hM11) (by decide) (by decide) rfl (Nat.zero_le _) (Nat.zero_le _) ⟨_, _, hM11, hR, hF, hBa⟩ (fun r13 w14 q15 => ?_)
    rw [c_open hTE (by omega)] at q15
    obtain ⟨q15r, a12, b12, hM12, hR12, hF12, hB12⟩ := q15
    rw [q15r]
    have hd12 : Dok (n + 1) (mOpen tl c D) := Dok_open hT hd (by omega)
    have hi12 : Inv (mOpen tl c D) := Inv_open hi
    have h912 : (mOpen tl c D).1 18 ≤ 9999 := (by rw [mOpen_k (by decide)]; omega)
    refine M.run 3 (pc' := 27) (lv' := [some (vr o), some (vi ((c : Nat) : Int)), none]) (st' := [vi ((c : Nat) : Int), vr o]) rfl ?_
    refine M.callV (eX11_endsBy l G o am (uN u 23 1) a0 b0 (mOpen tl c D) (n + 1) ht hd12 (by omega) c (by omega) D (Dok_mono (by omega) hd) hsv hi12 h912 (Or.inr rfl) X (hXof hTE hX)) cv_X11_458 cd_X11_endsBy rfl (st := []) rfl (isM_o hM12) (by decide) (by decide) rfl (Nat.zero_le _) (Nat.zero_le _) ⟨_, _, hM12, hR12, hF12, hB12⟩ (fun r18 w19 q20 => ?_)
    obtain ⟨q20r, a17, b17, hM17, hR17, hF17, hB17⟩ := q20
    rw [q20r, c_ends hTE hT ht 400 0 hd12 hi12 (by omega)]
    refine M.run 3 (pc' := 33) (lv' := [some (vr o), some (vi ((c : Nat) : Int)), some (vi (mEnds X tl ((uN u 23 1) 23) c 400 0 (mOpen tl c D)))]) (st' := [vi 0, vr o]) rfl ?_
    refine M.put fl_X11_362 rfl (isM_o hM17) rfl rfl (Nat.le_of_ble_eq_true rfl) ?_
    have hM23 := isM_setU (u' := uN (uN u 23 1) 23 0) (fs := (Mf am (uN u 23 1)).set 23 (vi 0)) hM17 rfl
    generalize up w19 o (Ob 10 ((Mf am (uN u 23 1)).set 23 (vi 0))) = w22 at hM23 ⊢
    refine M.run 1 (pc' := 37) (lv' := [some (vr o), some (vi ((c : Nat) : Int)), some (vi (mEnds X tl ((uN u 23 1) 23) c 400 0 (mOpen tl c D)))]) (st' := [vi (mEnds X tl ((uN u 23 1) 23) c 400 0 (mOpen tl c D))]) rfl ?_
    exact M.iret rfl (Nat.zero_le _) (Nat.zero_le _) (by
        have eu : uN (uN u 23 1) 23 0 = u := by
          funext k
          by_cases e : k = 23
          · subst e; rw [uN_s]; exact hu0.symm
          · rw [uN_o e, uN_o e]
        have hMu := hM23
        rw [eu] at hMu
        exact ⟨reI (if_pos hop).symm, b0, ⟨a0, ⟨_, _, hMu, hR17, hF17, hB17⟩, hTE, hRg⟩, fun k hk => by rw [eb0]; exact if_neg hk⟩)
  · skip
    replace h5 := zb_fd h5
    refine M.run 1 (pc' := 9) (lv' := [some (vr o), some (vi x), none]) (st' := [vi (-1)]) rfl ?_
    exact M.iret rfl (Nat.zero_le _) (Nat.zero_le _) ⟨reI (if_neg h5).symm, ⟨b0, ⟨a0, ⟨_, _, hM, hR, hF, hB⟩, hTE, hRg⟩, fun _ _ => rfl⟩⟩
