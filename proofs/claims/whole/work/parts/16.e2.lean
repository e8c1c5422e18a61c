theorem rowOk_M {n kind b serial f t claims tried : Int} (h : (0 ≤ n ∧ 0 ≤ kind ∧ kind ≤ 4) ∧ (0 ≤ b ∧ b ≤ 2) ∧ (0 ≤ serial ∧ serial ≤ n) ∧ (0 ≤ f ∧ f ≤ 30) ∧ (0 ≤ t ∧ t ≤ n + 30) ∧ (kind = 0 → f ≤ t ∧ t ≤ 30) ∧ (0 ≤ claims ∧ claims ≤ 1073741823) ∧ (0 ≤ tried ∧ tried ≤ 9)) : rowOk n (rwM kind b serial f t claims tried) := by
  obtain ⟨h0, h1, h2, h3, h4, h5, h6, h7⟩ := h
  exact ⟨h0.2, h1, h2, h3, h4, h5, h6, h7, ⟨(by decide : (0 : Int) ≤ 0), (by decide : (0 : Int) ≤ 20000)⟩, ⟨(by decide : (0 : Int) ≤ 0), (by decide : (0 : Int) ≤ 1)⟩⟩
theorem bokOk_B {c what b kind : Int} (h : (0 ≤ c ∧ c ≤ 10400) ∧ (0 ≤ what ∧ what ≤ 5) ∧ (0 ≤ b ∧ b ≤ 2) ∧ (0 ≤ kind ∧ kind ≤ 4)) : bokOk (rwB c what b kind) := h
theorem Dok_takeO {n : Int} {s i : Nat} {D : Dy} (hd : Dok n D) : Dok n (D.1, lsS D.2.1 s ((D.2.1 s).eraseIdx i), D.2.2) := by
  obtain ⟨h1, h2, h3⟩ := hd
  refine ⟨h1, fun t ht => ?_, h3⟩
  by_cases e : t = s
  · subst e
    show (lsS D.2.1 t _ t).length ≤ 24 ∧ ∀ q ∈ lsS D.2.1 t _ t, rowOk n q
    rw [lsS_s]
    exact ⟨Nat.le_trans (List.length_eraseIdx_le _ _) (h2 t ht).1, fun r hr => (h2 t ht).2 r (List.mem_of_mem_eraseIdx hr)⟩
  · show (lsS D.2.1 s _ t).length ≤ 24 ∧ ∀ q ∈ lsS D.2.1 s _ t, rowOk n q
    rw [lsS_n _ _ e]
    exact h2 t ht
theorem Dok_takeT {n : Int} {i : Nat} {D : Dy} (hd : Dok n D) : Dok n (D.1, D.2.1, D.2.2.1, D.2.2.2.1.eraseIdx i, D.2.2.2.2) := by
  obtain ⟨h1, h2, h3, h4, h5⟩ := hd
  exact ⟨h1, h2, h3, ⟨Nat.le_trans (List.length_eraseIdx_le _ _) h4.1, fun r hr => h4.2 r (List.mem_of_mem_eraseIdx hr)⟩, h5⟩
theorem Dok_takeF {n : Int} {i : Nat} {D : Dy} (hd : Dok n D) : Dok n (D.1, D.2.1, D.2.2.1.eraseIdx i, D.2.2.2) := by
  obtain ⟨h1, h2, h3, h4, h5⟩ := hd
  exact ⟨h1, h2, ⟨Nat.le_trans (List.length_eraseIdx_le _ _) h3.1, fun r hr => h3.2 r (List.mem_of_mem_eraseIdx hr)⟩, h4, h5⟩
def mAnew (D : Dy) : Dy := mS 19 ((D.1 19 * 757 + 617).tmod 31091) D
theorem Dok_anew {n : Int} {D : Dy} (hd : Dok n D) : Dok n (mAnew D) := by
  have h := Dok_x hd
  have h2 := tm_b (x := D.1 19 * 757 + 617) (m := 31091) (by omega) (by decide)
  exact Dok_S hd (fun _ _ _ => ⟨h2.1, by have : Shi n 19 = 31090 := rfl; omega⟩)
theorem Dok_end {n : Int} {b : Nat} {D : Dy} (hd : Dok n D) (hb : b < 3) : Dok n (mEnd b D) := by
  have h := Dok_clk hd
  refine Dok_note (Dok_S hd (fun _ _ _ => by unfold Shi; (repeat' split) <;> omega)) (bokOk_B ?_)
  omega
theorem Dok_cancel {n : Int} {b s : Nat} {D : Dy} (hd : Dok n D) (hb : b < 3) (hs : s < 2) : Dok n (mCancel b s D) := by
  have h := Dok_clk hd
  have hn : 0 ≤ n := Int.le_trans (Dok_sent hd).1 (Dok_sent hd).2
  refine Dok_put (Dok_note (Dok_drop (Dok_S hd (fun _ _ _ => by unfold Shi; (repeat' split) <;> omega))) (bokOk_B ?_)) hs (rowOk_M ?_)
  · omega
  · omega
abbrev mCan (b s : Nat) (D : Dy) : Prop := D.1 (28 + b) = 1 ∧ (s = 0 ∨ D.1 (31 + b) = 0)
/-- a line that is gone through from behind, down to j -/
def mDl (L : List Rw) (p : Rw → Bool) (j : Nat) : List Rw := L.take j ++ (L.drop j).filter (fun r => !p r)
theorem mDl_0 (L : List Rw) (p : Rw → Bool) : mDl L p 0 = L.filter (fun r => !p r) := rfl
theorem mDl_all (L : List Rw) (p : Rw → Bool) : mDl L p L.length = L := by
  unfold mDl
  rw [List.take_length, List.drop_length]
  simp
theorem mDl_len {L : List Rw} {p : Rw → Bool} {j : Nat} (hj : j ≤ L.length) : j ≤ (mDl L p j).length := by
  unfold mDl
  rw [List.length_append, List.length_take]
  omega
theorem mDl_row {L : List Rw} {p : Rw → Bool} {j : Nat} (h0 : 0 < j) (hj : j ≤ L.length) : gR (mDl L p j) (j - 1) = gR L (j - 1) := by
  unfold gR mDl
  rw [List.getD_eq_getElem?_getD, List.getD_eq_getElem?_getD, List.getElem?_append_left (by rw [List.length_take]; omega), List.getElem?_take_of_lt (by omega)]
theorem mDl_drop {L : List Rw} {j : Nat} (h0 : 0 < j) (hj : j ≤ L.length) : L.drop (j - 1) = gR L (j - 1) :: L.drop j := by
  rw [List.drop_eq_getElem_cons (by omega), show j - 1 + 1 = j by omega]
  congr 1
  unfold gR
  rw [List.getD_eq_getElem?_getD, List.getElem?_eq_getElem (by omega)]
  rfl
theorem mDl_keep {L : List Rw} {p : Rw → Bool} {j : Nat} (h0 : 0 < j) (hj : j ≤ L.length) (hp : p (gR L (j - 1)) = false) : mDl L p j = mDl L p (j - 1) := by
  unfold mDl
  have e : L.take j = L.take (j - 1) ++ [gR L (j - 1)] := by
    conv => lhs; rw [show j = j - 1 + 1 by omega]
    rw [List.take_succ, List.getElem?_eq_getElem (by omega)]
    unfold gR
    rw [List.getD_eq_getElem?_getD, List.getElem?_eq_getElem (by omega)]
    rfl
  rw [mDl_drop h0 hj, e, List.filter_cons, hp]
  simp
theorem mDl_take {L : List Rw} {p : Rw → Bool} {j : Nat} (h0 : 0 < j) (hj : j ≤ L.length) (hp : p (gR L (j - 1)) = true) : (mDl L p j).eraseIdx (j - 1) = mDl L p (j - 1) := by
  unfold mDl
  have e : L.take j = L.take (j - 1) ++ [gR L (j - 1)] := by
    conv => lhs; rw [show j = j - 1 + 1 by omega]
    rw [List.take_succ, List.getElem?_eq_getElem (by omega)]
    unfold gR
    rw [List.getD_eq_getElem?_getD, List.getElem?_eq_getElem (by omega)]
    rfl
  have hl : (L.take (j - 1)).length = j - 1 := by rw [List.length_take]; omega
  rw [mDl_drop h0 hj, e, List.filter_cons, hp, List.append_assoc, List.eraseIdx_append_of_length_le (by omega), hl, Nat.sub_self]
  simp
theorem lsS_id (L : Nat → List Rw) (s : Nat) : lsS L s (L s) = L := by
  funext j
  by_cases e : j = s
  · subst e; rw [lsS_s]
  · rw [lsS_n _ _ e]
theorem lsS_2 (L : Nat → List Rw) (s : Nat) (x y : List Rw) : lsS (lsS L s x) s y = lsS L s y := by
  funext j
  by_cases e : j = s
  · subst e; rw [lsS_s, lsS_s]
  · rw [lsS_n _ _ e, lsS_n _ _ e, lsS_n _ _ e]
/-- a state whose line s (timers) is gone through down to j -/
def dLn (s : Nat) (p : Rw → Bool) (j : Nat) (D : Dy) : Dy := (D.1, lsS D.2.1 s (mDl (D.2.1 s) p j), D.2.2)
def dTm (q : Rw → Bool) (j : Nat) (D : Dy) : Dy := (D.1, D.2.1, D.2.2.1, mDl D.2.2.2.1 q j, D.2.2.2.2)
theorem dLn_all (s : Nat) (p : Rw → Bool) (D : Dy) : dLn s p (D.2.1 s).length D = D := by
  unfold dLn
  rw [mDl_all, lsS_id]
theorem dLn_at (s : Nat) (p : Rw → Bool) (j : Nat) (D : Dy) : (dLn s p j D).2.1 s = mDl (D.2.1 s) p j := lsS_s _ _ _
theorem dLn_keep {s : Nat} {p : Rw → Bool} {j : Nat} {D : Dy} (h0 : 0 < j) (hj : j ≤ (D.2.1 s).length) (hp : p (gR (D.2.1 s) (j - 1)) = false) : dLn s p j D = dLn s p (j - 1) D := by
  unfold dLn
  rw [mDl_keep h0 hj hp]
theorem dLn_take {s : Nat} {p : Rw → Bool} {j : Nat} {D : Dy} (h0 : 0 < j) (hj : j ≤ (D.2.1 s).length) (hp : p (gR (D.2.1 s) (j - 1)) = true) :
    ((dLn s p j D).1, lsS (dLn s p j D).2.1 s (((dLn s p j D).2.1 s).eraseIdx (j - 1)), (dLn s p j D).2.2) = dLn s p (j - 1) D := by
  rw [dLn_at, mDl_take h0 hj hp]
  unfold dLn
  rw [lsS_2]
theorem dTm_all (q : Rw → Bool) (D : Dy) : dTm q D.2.2.2.1.length D = D := by
  unfold dTm
  rw [mDl_all]
theorem dTm_keep {q : Rw → Bool} {j : Nat} {D : Dy} (h0 : 0 < j) (hj : j ≤ D.2.2.2.1.length) (hp : q (gR D.2.2.2.1 (j - 1)) = false) : dTm q j D = dTm q (j - 1) D := by
  unfold dTm
  rw [mDl_keep h0 hj hp]
theorem dTm_take {q : Rw → Bool} {j : Nat} {D : Dy} (h0 : 0 < j) (hj : j ≤ D.2.2.2.1.length) (hp : q (gR D.2.2.2.1 (j - 1)) = true) :
    ((dTm q j D).1, (dTm q j D).2.1, (dTm q j D).2.2.1, (dTm q j D).2.2.2.1.eraseIdx (j - 1), (dTm q j D).2.2.2.2) = dTm q (j - 1) D := by
  show (D.1, D.2.1, D.2.2.1, (mDl D.2.2.2.1 q j).eraseIdx (j - 1), D.2.2.2.2) = _
  rw [mDl_take h0 hj hp]
  rfl
/-- a line's timers -/
def pTm (s : Nat) (p : Rw → Bool) (r : Rw) : Bool := decide (r 8 = (s : Int)) && p r
theorem dLn_len {s : Nat} {p : Rw → Bool} {j : Nat} {D : Dy} (hj : j ≤ (D.2.1 s).length) : j ≤ ((dLn s p j D).2.1 s).length := by
  rw [dLn_at]; exact mDl_len hj
theorem mDrop_eq (s : Nat) (p : Rw → Bool) (D : Dy) : dTm (pTm s p) 0 (dLn s p 0 D) = mDrop s p D := rfl
theorem Rp_dLr {a : Nat → Int} {D : Dy} {s j k : Nat} {p : Rw → Bool} (h : Rp a (dLn s p j D)) (hs : s < 2) (h0 : 0 < j) (hj : j ≤ (D.2.1 s).length) (hk : k < 7) : a (49 + 168 * s + 7 * (j - 1) + k) = gR (D.2.1 s) (j - 1) k := by
  rw [Rp_lr h hs (by have := dLn_len (p := p) hj; omega) hk, dLn_at, mDl_row h0 hj]
theorem Rp_dTr {a : Nat → Int} {D : Dy} {j k : Nat} {q : Rw → Bool} (h : Rp a (dTm q j D)) (h0 : 0 < j) (hj : j ≤ D.2.2.2.1.length) (hk : k < 9) : a (817 + 9 * (j - 1) + tpc k) = gR D.2.2.2.1 (j - 1) k := by
  have hl := mDl_len (p := q) hj
  rw [Rp_tr h (i := j - 1) (k := k) (show j - 1 < (mDl D.2.2.2.1 q j).length by omega) hk]
  show gR (mDl D.2.2.2.1 q j) (j - 1) k = _
  rw [mDl_row h0 hj]

set_option maxHeartbeats 4000000 in
set_option maxRecDepth 100000 in
theorem eX11_writeDown (l : Launch) (G : GT) (o : Nat) (am : Nat → Nat) (u a0 : Nat → Int) (b0 : Nat → Nat → Int) (D : Dy) (n : Int) (ht : Tok a0) (hd : Dok n D) (hn : 0 ≤ n ∧ n ≤ 900000000) (c0 : Int) (hc0 : D.1 18 = c0) (what c kind : Int) (hbo : (0 ≤ c0 ∧ c0 ≤ 10400) ∧ (0 ≤ what ∧ what ≤ 5) ∧ (0 ≤ c ∧ c ≤ 2) ∧ (0 ≤ kind ∧ kind ≤ 4)) : Ctr l G yX11_writeDown cX11_writeDown 5 ((Option.none : Option Jvm.ClassFile.FieldType)) 1 0 0 [vr o, vi what, vi c, vi kind] (fun w => isE o am u a0 b0 D w) (fun w r w' => r = none ∧ isE o am u a0 b0 (mNote (rwB c0 what c kind) D) w') := by
  refine Ctr.of (t := tX11_writeDown) (lv0 := [some (vr o), some (vi what), some (vi c), some (vi kind), none]) (by decide +kernel) tX11_writeDown_ok rfl rfl (fun w g hP M => ?_)
  obtain ⟨a, b, hM, hR, hF, hB⟩ := hP
  have hk_f := Dok_f hd
  have hk_t := Dok_t hd
  have hk_b := Dok_b hd
  have hc18 : a 18 = c0 := (Rp_s hR (k := 18) (by decide) (by decide) (by decide)).trans hc0
  refine M.run 1 (pc' := 1) (lv' := [some (vr o), some (vi what), some (vi c), some (vi kind), none]) (st' := [vr o]) rfl ?_
  refine M.get fl_X11_7 rfl (isM_o hM) (kf := 0) (v := vr (am 0)) rfl ?_
  refine M.run 1 (pc' := 6) (lv' := [some (vr o), some (vi what), some (vi c), some (vi kind), none]) (st' := [vi 23, vr (am 0)]) rfl ?_
  refine M.ialdN (23) rfl (isM_a hM) (by decide) (by decide) ?_
  rw [show a 23 = ((D.2.2.2.2.length : Nat) : Int) from Rp_b hR]
  refine M.run 1 (pc' := 9) (lv' := [some (vr o), some (vi what), some (vi c), some (vi kind), none]) (st' := [vi 25, vi ((D.2.2.2.2.length : Nat) : Int)]) rfl ?_
  refine M.icmp_ne (tgt := 63) rfl (qI (by omega)) (qI (by decide)) (by decide) (fun h9 => ?_) (fun h9 => ?_)
  · skip
    refine M.run 1 (pc' := 64) (lv' := [some (vr o), some (vi what), some (vi c), some (vi kind), none]) (st' := [vr o]) rfl ?_
    refine M.get fl_X11_7 rfl (isM_o hM) (kf := 0) (v := vr (am 0)) rfl ?_
    refine M.run 2 (pc' := 71) (lv' := [some (vr o), some (vi what), some (vi c), some (vi kind), none]) (st' := [vr o, vi 961, vr (am 0)]) rfl ?_
    refine M.get fl_X11_7 rfl (isM_o hM) (kf := 0) (v := vr (am 0)) rfl ?_
    refine M.run 1 (pc' := 76) (lv' := [some (vr o), some (vi what), some (vi c), some (vi kind), none]) (st' := [vi 23, vr (am 0), vi 961, vr (am 0)]) rfl ?_
    refine M.ialdN (23) rfl (isM_a hM) (by decide) (by decide) ?_
    rw [show a 23 = ((D.2.2.2.2.length : Nat) : Int) from Rp_b hR]
    refine M.run 2 (pc' := 79) (lv' := [some (vr o), some (vi what), some (vi c), some (vi kind), none]) (st' := [vr o, vi (961 + ((D.2.2.2.2.length : Nat) : Int)), vr (am 0)]) rfl ?_
    refine M.get fl_X11_7 rfl (isM_o hM) (kf := 0) (v := vr (am 0)) rfl ?_
    refine M.run 1 (pc' := 84) (lv' := [some (vr o), some (vi what), some (vi c), some (vi kind), none]) (st' := [vi 18, vr (am 0), vi (961 + ((D.2.2.2.2.length : Nat) : Int)), vr (am 0)]) rfl ?_
    refine M.ialdN (18) rfl (isM_a hM) (by decide) (by decide) ?_
    rw [show a 18 = c0 from hc18]
    refine M.run 12 (pc' := 98) (lv' := [some (vr o), some (vi what), some (vi c), some (vi kind), none]) (st' := [vi ((((((c0 * 6) + what) * 3) + c) * 5) + kind), vi (961 + ((D.2.2.2.2.length : Nat) : Int)), vr (am 0)]) rfl ?_
    refine M.iastN (961 + D.2.2.2.2.length) rfl (isM_a hM) (by omega) (by decide) ?_
    have hM2 := isM_setA hM (uN a (961 + D.2.2.2.2.length) ((((((c0 * 6) + what) * 3) + c) * 5) + kind))
    generalize up w (am 0) (Ar 0 30042 (uN a (961 + D.2.2.2.2.length) ((((((c0 * 6) + what) * 3) + c) * 5) + kind))) = w1 at hM2 ⊢
    refine M.run 1 (pc' := 100) (lv' := [some (vr o), some (vi what), some (vi c), some (vi kind), none]) (st' := [vr o]) rfl ?_
    refine M.get fl_X11_7 rfl (isM_o hM2) (kf := 0) (v := vr (am 0)) rfl ?_
    refine M.run 2 (pc' := 106) (lv' := [some (vr o), some (vi what), some (vi c), some (vi kind), none]) (st' := [vi 23, vr (am 0), vi 23, vr (am 0)]) rfl ?_
    refine M.ialdN (23) rfl (isM_a hM2) (by decide) (by decide) ?_
    rw [show (uN a (961 + D.2.2.2.2.length) ((((((c0 * 6) + what) * 3) + c) * 5) + kind)) 23 = ((D.2.2.2.2.length : Nat) : Int) from (uN_o (by omega)).trans (Rp_b hR)]
    refine M.run 2 (pc' := 109) (lv' := [some (vr o), some (vi what), some (vi c), some (vi kind), none]) (st' := [vi (((D.2.2.2.2.length : Nat) : Int) + 1), vi 23, vr (am 0)]) rfl ?_
    refine M.iastN (23) rfl (isM_a hM2) (by decide) (by decide) ?_
    have hM4 := isM_setA hM2 (uN (uN a (961 + D.2.2.2.2.length) ((((((c0 * 6) + what) * 3) + c) * 5) + kind)) 23 (((D.2.2.2.2.length : Nat) : Int) + 1))
    generalize up w1 (am 0) (Ar 0 30042 (uN (uN a (961 + D.2.2.2.2.length) ((((((c0 * 6) + what) * 3) + c) * 5) + kind)) 23 (((D.2.2.2.2.length : Nat) : Int) + 1))) = w3 at hM4 ⊢
    exact M.vret rfl (Nat.zero_le _) (Nat.zero_le _) (by
        first
        | (refine ⟨rfl, _, b, hM4, ?_, fun q hq => ?_, hB⟩
           · refine Rp_ub hR (fun s hs => Dok_l hd hs) (by omega) (by omega) (x := bkA D.2.2.2.2 (rwB c0 what c kind)) (fun j j1 j2 => ?_) ?_ (fun i hi => ?_)
             · rw [uN_o (by omega), uN_o (by omega), uN_o (by omega), hsh j, if_neg (by omega)]
             · rw [uN_s]
               unfold bkA
               rw [if_pos (by omega), List.length_append, List.length_tail]
               show _ = ((D.2.2.2.2.length - 1 + 1 : Nat) : Int)
               omega
             · unfold bkA at hi ⊢
               rw [if_pos (by omega)] at hi ⊢
               rw [List.length_append, List.length_tail] at hi
               have hi2 : i < D.2.2.2.2.length - 1 + 1 := hi
               by_cases e : i < 24
               · rw [gR_app (by rw [List.length_tail]; omega), gR_tail, uN_o (by omega), uN_o (by omega), uN_o (by omega), hsh, if_pos (by omega)]
                 have q := Rp_br hR (i := i + 1) (by omega)
                 rw [← q]; congr 1
               · have e2 : i = D.2.2.2.2.tail.length := by rw [List.length_tail]; omega
                 rw [uN_o (by omega), show 961 + i = 961 + 24 by omega, uN_s, e2, gR_last]; rfl
           · rw [uN_o (by omega), uN_o (by omega), uN_o (by omega), hsh q, if_neg (by omega)]; exact hF q hq)
        | (refine ⟨rfl, _, b, hM4, ?_, fun q hq => ?_, hB⟩
           · refine Rp_ub hR (fun s hs => Dok_l hd hs) (by omega) (by omega) (x := bkA D.2.2.2.2 (rwB c0 what c kind)) (fun j j1 j2 => ?_) ?_ (fun i hi => ?_)
             · rw [uN_o (by omega), uN_o (by omega)]
             · rw [uN_s]
               unfold bkA
               rw [if_neg (by omega), List.length_append]
               rfl
             · unfold bkA at hi ⊢
               rw [if_neg (by omega)] at hi ⊢
               rw [List.length_append] at hi
               have hi2 : i < D.2.2.2.2.length + 1 := hi
               by_cases e : i < D.2.2.2.2.length
               · rw [gR_app e, uN_o (by omega), uN_o (by omega)]
                 exact Rp_br hR e
               · have e2 : i = D.2.2.2.2.length := by omega
                 subst e2
                 rw [uN_o (by omega), uN_s, gR_last]; rfl
           · rw [uN_o (by omega), uN_o (by omega)]; exact hF q hq))
  · skip
    refine M.run 2 (pc' := 15) (lv' := [some (vr o), some (vi what), some (vi c), some (vi kind), some (vi 1)]) (st' := []) rfl ?_
    have Lp15 : ∀ (N : Nat) (f : Nat → Int) (ww : Wo) (p : Nat), (isM o am u f b ww) → (shP a f 961 (960 + p) 1) → (f 23 = ((D.2.2.2.2.length : Nat) : Int)) → (f 18 = c0) → (1 ≤ p) → (p ≤ 25) → 25 - p < N → g 0 0 ww 15 [some (vr o), some (vi what), some (vi c), some (vi kind), some (vi ((p : Nat) : Int))] [] := by
      intro N
      induction N with
      | zero => intro f ww p _ _ _ _ _ _ hN; exact absurd hN (Nat.not_lt_zero _)
      | succ N ih15 =>
        intro f ww p hMf hsh hc hc18 hp1 hp2 hN
        refine M.run 2 (pc' := 19) (lv' := [some (vr o), some (vi what), some (vi c), some (vi kind), some (vi ((p : Nat) : Int))]) (st' := [vi 25, vi ((p : Nat) : Int)]) rfl ?_
        refine M.icmp_ge (tgt := 52) rfl (qI (by omega)) (qI (by decide)) (by decide) (fun h19 => ?_) (fun h19 => ?_)
        · skip
          refine M.run 1 (pc' := 53) (lv' := [some (vr o), some (vi what), some (vi c), some (vi kind), some (vi ((p : Nat) : Int))]) (st' := [vr o]) rfl ?_
          refine M.get fl_X11_7 rfl (isM_o hMf) (kf := 0) (v := vr (am 0)) rfl ?_
          refine M.run 2 (pc' := 59) (lv' := [some (vr o), some (vi what), some (vi c), some (vi kind), some (vi ((p : Nat) : Int))]) (st' := [vi 23, vr (am 0), vi 23, vr (am 0)]) rfl ?_
          refine M.ialdN (23) rfl (isM_a hMf) (by decide) (by decide) ?_
          rw [show f 23 = ((D.2.2.2.2.length : Nat) : Int) from hc]
          refine M.run 2 (pc' := 62) (lv' := [some (vr o), some (vi what), some (vi c), some (vi kind), some (vi ((p : Nat) : Int))]) (st' := [vi (((D.2.2.2.2.length : Nat) : Int) - 1), vi 23, vr (am 0)]) rfl ?_
          rw [show (((D.2.2.2.2.length : Nat) : Int) - 1) = ((24 : Nat) : Int) by omega]
          refine M.iastN (23) rfl (isM_a hMf) (by decide) (by decide) ?_
          have hM6 := isM_setA hMf (uN f 23 ((24 : Nat) : Int))
          generalize up ww (am 0) (Ar 0 30042 (uN f 23 ((24 : Nat) : Int))) = w5 at hM6 ⊢
          refine M.run 1 (pc' := 64) (lv' := [some (vr o), some (vi what), some (vi c), some (vi kind), some (vi ((p : Nat) : Int))]) (st' := [vr o]) rfl ?_
          refine M.get fl_X11_7 rfl (isM_o hM6) (kf := 0) (v := vr (am 0)) rfl ?_
          refine M.run 2 (pc' := 71) (lv' := [some (vr o), some (vi what), some (vi c), some (vi kind), some (vi ((p : Nat) : Int))]) (st' := [vr o, vi 961, vr (am 0)]) rfl ?_
          refine M.get fl_X11_7 rfl (isM_o hM6) (kf := 0) (v := vr (am 0)) rfl ?_
          refine M.run 1 (pc' := 76) (lv' := [some (vr o), some (vi what), some (vi c), some (vi kind), some (vi ((p : Nat) : Int))]) (st' := [vi 23, vr (am 0), vi 961, vr (am 0)]) rfl ?_
          refine M.ialdN (23) rfl (isM_a hM6) (by decide) (by decide) ?_
          rw [show (uN f 23 ((24 : Nat) : Int)) 23 = ((24 : Nat) : Int) from uN_s _ _ _]
          refine M.run 2 (pc' := 79) (lv' := [some (vr o), some (vi what), some (vi c), some (vi kind), some (vi ((p : Nat) : Int))]) (st' := [vr o, vi (961 + ((24 : Nat) : Int)), vr (am 0)]) rfl ?_
          refine M.get fl_X11_7 rfl (isM_o hM6) (kf := 0) (v := vr (am 0)) rfl ?_
          refine M.run 1 (pc' := 84) (lv' := [some (vr o), some (vi what), some (vi c), some (vi kind), some (vi ((p : Nat) : Int))]) (st' := [vi 18, vr (am 0), vi (961 + ((24 : Nat) : Int)), vr (am 0)]) rfl ?_
          refine M.ialdN (18) rfl (isM_a hM6) (by decide) (by decide) ?_
          rw [show (uN f 23 ((24 : Nat) : Int)) 18 = c0 from (uN_o (by omega)).trans (hc18)]
          refine M.run 12 (pc' := 98) (lv' := [some (vr o), some (vi what), some (vi c), some (vi kind), some (vi ((p : Nat) : Int))]) (st' := [vi ((((((c0 * 6) + what) * 3) + c) * 5) + kind), vi (961 + ((24 : Nat) : Int)), vr (am 0)]) rfl ?_
          refine M.iastN (961 + 24) rfl (isM_a hM6) (by omega) (by decide) ?_
          have hM8 := isM_setA hM6 (uN (uN f 23 ((24 : Nat) : Int)) (961 + 24) ((((((c0 * 6) + what) * 3) + c) * 5) + kind))
          generalize up w5 (am 0) (Ar 0 30042 (uN (uN f 23 ((24 : Nat) : Int)) (961 + 24) ((((((c0 * 6) + what) * 3) + c) * 5) + kind))) = w7 at hM8 ⊢
          refine M.run 1 (pc' := 100) (lv' := [some (vr o), some (vi what), some (vi c), some (vi kind), some (vi ((p : Nat) : Int))]) (st' := [vr o]) rfl ?_
          refine M.get fl_X11_7 rfl (isM_o hM8) (kf := 0) (v := vr (am 0)) rfl ?_
          refine M.run 2 (pc' := 106) (lv' := [some (vr o), some (vi what), some (vi c), some (vi kind), some (vi ((p : Nat) : Int))]) (st' := [vi 23, vr (am 0), vi 23, vr (am 0)]) rfl ?_
          refine M.ialdN (23) rfl (isM_a hM8) (by decide) (by decide) ?_
          rw [show (uN (uN f 23 ((24 : Nat) : Int)) (961 + 24) ((((((c0 * 6) + what) * 3) + c) * 5) + kind)) 23 = ((24 : Nat) : Int) from (uN_o (by omega)).trans (uN_s _ _ _)]
          refine M.run 2 (pc' := 109) (lv' := [some (vr o), some (vi what), some (vi c), some (vi kind), some (vi ((p : Nat) : Int))]) (st' := [vi (((24 : Nat) : Int) + 1), vi 23, vr (am 0)]) rfl ?_
          refine M.iastN (23) rfl (isM_a hM8) (by decide) (by decide) ?_
          have hM10 := isM_setA hM8 (uN (uN (uN f 23 ((24 : Nat) : Int)) (961 + 24) ((((((c0 * 6) + what) * 3) + c) * 5) + kind)) 23 (((24 : Nat) : Int) + 1))
          generalize up w7 (am 0) (Ar 0 30042 (uN (uN (uN f 23 ((24 : Nat) : Int)) (961 + 24) ((((((c0 * 6) + what) * 3) + c) * 5) + kind)) 23 (((24 : Nat) : Int) + 1))) = w9 at hM10 ⊢
          exact M.vret rfl (Nat.zero_le _) (Nat.zero_le _) (by
              first
              | (refine ⟨rfl, _, b, hM10, ?_, fun q hq => ?_, hB⟩
                 · refine Rp_ub hR (fun s hs => Dok_l hd hs) (by omega) (by omega) (x := bkA D.2.2.2.2 (rwB c0 what c kind)) (fun j j1 j2 => ?_) ?_ (fun i hi => ?_)
                   · rw [uN_o (by omega), uN_o (by omega), uN_o (by omega), hsh j, if_neg (by omega)]
                   · rw [uN_s]
                     unfold bkA
                     rw [if_pos (by omega), List.length_append, List.length_tail]
                     show _ = ((D.2.2.2.2.length - 1 + 1 : Nat) : Int)
                     omega
                   · unfold bkA at hi ⊢
                     rw [if_pos (by omega)] at hi ⊢
                     rw [List.length_append, List.length_tail] at hi
                     have hi2 : i < D.2.2.2.2.length - 1 + 1 := hi
                     by_cases e : i < 24
                     · rw [gR_app (by rw [List.length_tail]; omega), gR_tail, uN_o (by omega), uN_o (by omega), uN_o (by omega), hsh, if_pos (by omega)]
                       have q := Rp_br hR (i := i + 1) (by omega)
                       rw [← q]; congr 1
                     · have e2 : i = D.2.2.2.2.tail.length := by rw [List.length_tail]; omega
                       rw [uN_o (by omega), show 961 + i = 961 + 24 by omega, uN_s, e2, gR_last]; rfl
                 · rw [uN_o (by omega), uN_o (by omega), uN_o (by omega), hsh q, if_neg (by omega)]; exact hF q hq)
              | (refine ⟨rfl, _, b, hM10, ?_, fun q hq => ?_, hB⟩
                 · refine Rp_ub hR (fun s hs => Dok_l hd hs) (by omega) (by omega) (x := bkA D.2.2.2.2 (rwB c0 what c kind)) (fun j j1 j2 => ?_) ?_ (fun i hi => ?_)
                   · rw [uN_o (by omega), uN_o (by omega)]
                   · rw [uN_s]
                     unfold bkA
                     rw [if_neg (by omega), List.length_append]
                     rfl
                   · unfold bkA at hi ⊢
                     rw [if_neg (by omega)] at hi ⊢
                     rw [List.length_append] at hi
                     have hi2 : i < D.2.2.2.2.length + 1 := hi
                     by_cases e : i < D.2.2.2.2.length
                     · rw [gR_app e, uN_o (by omega), uN_o (by omega)]
                       exact Rp_br hR e
                     · have e2 : i = D.2.2.2.2.length := by omega
                       subst e2
                       rw [uN_o (by omega), uN_s, gR_last]; rfl
                 · rw [uN_o (by omega), uN_o (by omega)]; exact hF q hq))
        · skip
          refine M.run 1 (pc' := 23) (lv' := [some (vr o), some (vi what), some (vi c), some (vi kind), some (vi ((p : Nat) : Int))]) (st' := [vr o]) rfl ?_
          refine M.get fl_X11_7 rfl (isM_o hMf) (kf := 0) (v := vr (am 0)) rfl ?_
          refine M.run 5 (pc' := 34) (lv' := [some (vr o), some (vi what), some (vi c), some (vi kind), some (vi ((p : Nat) : Int))]) (st' := [vi ((961 + ((p : Nat) : Int)) - 1), vr (am 0)]) rfl ?_
          rw [show (961 + ((p : Nat) : Int)) - 1 = ((960 + p : Nat) : Int) from by omega]
          refine M.run 1 (pc' := 35) (lv' := [some (vr o), some (vi what), some (vi c), some (vi kind), some (vi ((p : Nat) : Int))]) (st' := [vr o, vi ((960 + p : Nat) : Int), vr (am 0)]) rfl ?_
          refine M.get fl_X11_7 rfl (isM_o hMf) (kf := 0) (v := vr (am 0)) rfl ?_
          refine M.run 3 (pc' := 44) (lv' := [some (vr o), some (vi what), some (vi c), some (vi kind), some (vi ((p : Nat) : Int))]) (st' := [vi (961 + ((p : Nat) : Int)), vr (am 0), vi ((960 + p : Nat) : Int), vr (am 0)]) rfl ?_
          refine M.ialdN (961 + p) rfl (isM_a hMf) (by omega) (by decide) ?_
          refine M.iastN (960 + p) rfl (isM_a hMf) (by omega) (by decide) ?_
          have hM12 := isM_setA hMf (uN f (960 + p) (f (961 + p)))
          generalize up ww (am 0) (Ar 0 30042 (uN f (960 + p) (f (961 + p)))) = w11 at hM12 ⊢
          refine M.run 2 (pc' := 15) (lv' := [some (vr o), some (vi what), some (vi c), some (vi kind), some (vi (((p : Nat) : Int) + 1))]) (st' := []) rfl ?_
          exact ih15 ((uN f (960 + p) (f (961 + p)))) w11 (p + 1) hM12 (by have q := shP_s hsh (by omega); rw [show 960 + p + 1 = 961 + p by omega] at q; rw [show 960 + (p + 1) = 961 + p by omega]; exact q) (by rw [uN_o (by omega)]; exact hc) (by rw [uN_o (by omega)]; exact hc18) (by omega) (by omega) (by omega)
    exact Lp15 _ a w 1 hM (shP_0 _ _ _) (Rp_b hR) hc18 (by omega) (by omega) (Nat.lt_succ_self _)
set_option maxHeartbeats 4000000 in
set_option maxRecDepth 100000 in
theorem eX11_anew (l : Launch) (G : GT) (o : Nat) (am : Nat → Nat) (u a0 : Nat → Int) (b0 : Nat → Nat → Int) (D : Dy) (n : Int) (ht : Tok a0) (hd : Dok n D) (hn : 0 ≤ n ∧ n ≤ 900000000)  : Ctr l G yX11_anew cX11_anew 1 ((Option.none : Option Jvm.ClassFile.FieldType)) 1 0 0 [vr o] (fun w => isE o am u a0 b0 D w) (fun w r w' => r = none ∧ isE o am u a0 b0 (mAnew D) w') := by
  refine Ctr.of (t := tX11_anew) (lv0 := [some (vr o)]) (by decide +kernel) tX11_anew_ok rfl rfl (fun w g hP M => ?_)
  obtain ⟨a, b, hM, hR, hF, hB⟩ := hP
  have hk19 := Dok_x hd
  have ht9 := tm_b (x := D.1 19 * 757 + 617) (m := 31091) (by omega) (by decide)
  refine M.run 1 (pc' := 1) (lv' := [some (vr o)]) (st' := [vr o]) rfl ?_
  refine M.get fl_X11_7 rfl (isM_o hM) (kf := 0) (v := vr (am 0)) rfl ?_
  refine M.run 2 (pc' := 7) (lv' := [some (vr o)]) (st' := [vr o, vi 19, vr (am 0)]) rfl ?_
  refine M.get fl_X11_7 rfl (isM_o hM) (kf := 0) (v := vr (am 0)) rfl ?_
  refine M.run 1 (pc' := 12) (lv' := [some (vr o)]) (st' := [vi 19, vr (am 0), vi 19, vr (am 0)]) rfl ?_
  refine M.ialdN (19) rfl (isM_a hM) (by decide) (by decide) ?_
  rw [show a 19 = D.1 19 from Rp_s hR (k := 19) (by decide) (by decide) (by decide)]
  refine M.i2l rfl (qI (by omega)) ?_
  refine M.ldc2 (x := 757) kl_X11_286 rfl rfl ?_
  refine M.run 1 (pc' := 18) (lv' := [some (vr o)]) (st' := [vl ((D.1 19) * 757), vi 19, vr (am 0)]) rfl ?_
  refine M.ldc2 (x := 617) kl_X11_288 rfl rfl ?_
  refine M.run 1 (pc' := 22) (lv' := [some (vr o)]) (st' := [vl (((D.1 19) * 757) + 617), vi 19, vr (am 0)]) rfl ?_
  refine M.ldc2 (x := 31091) kl_X11_290 rfl rfl ?_
  refine M.lrem rfl (qL (by omega)) (qL (by decide)) (by omega) ?_
  refine M.run 1 (pc' := 27) (lv' := [some (vr o)]) (st' := [vi ((((D.1 19) * 757) + 617).tmod 31091), vi 19, vr (am 0)]) rfl ?_
  refine M.iastN (19) rfl (isM_a hM) (by decide) (by decide) ?_
  have hM2 := isM_setA hM (uN a 19 ((((D.1 19) * 757) + 617).tmod 31091))
  generalize up w (am 0) (Ar 0 30042 (uN a 19 ((((D.1 19) * 757) + 617).tmod 31091))) = w1 at hM2 ⊢
  have hR3 : Rp _ (mS 19 ((((D.1 19) * 757) + 617).tmod 31091) D) := Rp_us hR ((((D.1 19) * 757) + 617).tmod 31091) (k := 19) (by omega) (by omega) (by omega)
  have hF3 := Fr_u (k := 19) (v := (((D.1 19) * 757) + 617).tmod 31091) hF (by omega) (by omega)
  have hd3 := Dok_S (k := 19) (v := (((D.1 19) * 757) + 617).tmod 31091) hd (fun _ _ _ => by unfold Shi; (repeat' split) <;> omega)
  have es3 : (mS 19 ((((D.1 19) * 757) + 617).tmod 31091) D).1 = uN D.1 19 ((((D.1 19) * 757) + 617).tmod 31091) := rfl
  exact M.vret rfl (Nat.zero_le _) (Nat.zero_le _) ⟨rfl, _, _, hM2, hR3, hF3, hB⟩
set_option maxHeartbeats 4000000 in
set_option maxRecDepth 100000 in
theorem eX11_drawnBy (l : Launch) (G : GT) (o : Nat) (am : Nat → Nat) (u a0 : Nat → Int) (b0 : Nat → Nat → Int) (D : Dy) (n : Int) (ht : Tok a0) (hd : Dok n D) (hn : 0 ≤ n ∧ n ≤ 900000000)  : Ctr l G yX11_drawnBy cX11_drawnBy 3 ((Option.some Jvm.ClassFile.FieldType.int)) 2 0 0 [vr o, vi 10] (fun w => isE o am u a0 b0 D w) (fun w r w' => r = some (vi ((D.1 19).tmod 10)) ∧ isE o am u a0 b0 (mAnew D) w') := by
  refine Ctr.of (t := tX11_drawnBy) (lv0 := [some (vr o), some (vi 10), none]) (by decide +kernel) tX11_drawnBy_ok rfl rfl (fun w g hP M => ?_)
  obtain ⟨a, b, hM, hR, hF, hB⟩ := hP
  have hk19 := Dok_x hd
  refine M.run 1 (pc' := 1) (lv' := [some (vr o), some (vi 10), none]) (st' := [vr o]) rfl ?_
  refine M.get fl_X11_7 rfl (isM_o hM) (kf := 0) (v := vr (am 0)) rfl ?_
  refine M.run 1 (pc' := 6) (lv' := [some (vr o), some (vi 10), none]) (st' := [vi 19, vr (am 0)]) rfl ?_
  refine M.ialdN (19) rfl (isM_a hM) (by decide) (by decide) ?_
  rw [show a 19 = D.1 19 from Rp_s hR (k := 19) (by decide) (by decide) (by decide)]
  refine M.run 1 (pc' := 8) (lv' := [some (vr o), some (vi 10), none]) (st' := [vi 10, vi (D.1 19)]) rfl ?_
  refine M.irem rfl (qI (by omega)) (qI (by decide)) (by omega) ?_
  refine M.run 2 (pc' := 11) (lv' := [some (vr o), some (vi 10), some (vi ((D.1 19).tmod 10))]) (st' := [vr o]) rfl ?_
  refine M.callV (eX11_anew l G o am u a0 b0 D _ ht hd (by omega)  ) cv_X11_283 cd_X11_anew rfl (st := []) rfl (isM_o hM) (by decide) (by decide) rfl (Nat.zero_le _) (Nat.zero_le _) ⟨_, _, hM, hR, hF, hB⟩ (fun r2 w3 q4 => ?_)
  obtain ⟨q4r, a1, b1, hM1, hR1, hF1, hB1⟩ := q4
  rw [q4r]
  have hd1 : Dok n (mAnew D) := Dok_anew hd
  have es1 : (mAnew D).1 = (mAnew D).1 := rfl
  refine M.run 1 (pc' := 15) (lv' := [some (vr o), some (vi 10), some (vi ((D.1 19).tmod 10))]) (st' := [vi ((D.1 19).tmod 10)]) rfl ?_
  exact M.iret rfl (Nat.zero_le _) (Nat.zero_le _) ⟨rfl, _, _, hM1, hR1, hF1, hB1⟩
set_option maxHeartbeats 4000000 in
set_option maxRecDepth 100000 in
theorem eX11_howAt (l : Launch) (G : GT) (o : Nat) (am : Nat → Nat) (u a0 : Nat → Int) (b0 : Nat → Nat → Int) (D : Dy) (n : Int) (ht : Tok a0) (hd : Dok n D) (hn : 0 ≤ n ∧ n ≤ 900000000) (c : Nat) (hc : c < 3) (s : Nat) (hs : s < 2) : Ctr l G yX11_howAt cX11_howAt 3 ((Option.some Jvm.ClassFile.FieldType.int)) 1 0 0 [vr o, vi ((c : Nat) : Int), vi ((s : Nat) : Int)] (fun w => isE o am u a0 b0 D w) (fun w r w' => r = some (vi (D.1 (28 + 3 * s + c))) ∧ w' = w) := by
  refine Ctr.of (t := tX11_howAt) (lv0 := [some (vr o), some (vi ((c : Nat) : Int)), some (vi ((s : Nat) : Int))]) (by decide +kernel) tX11_howAt_ok rfl rfl (fun w g hP M => ?_)
  obtain ⟨a, b, hM, hR, hF, hB⟩ := hP
  refine M.run 1 (pc' := 1) (lv' := [some (vr o), some (vi ((c : Nat) : Int)), some (vi ((s : Nat) : Int))]) (st' := [vr o]) rfl ?_
  refine M.get fl_X11_7 rfl (isM_o hM) (kf := 0) (v := vr (am 0)) rfl ?_
  refine M.run 7 (pc' := 12) (lv' := [some (vr o), some (vi ((c : Nat) : Int)), some (vi ((s : Nat) : Int))]) (st' := [vi ((28 + (3 * ((s : Nat) : Int))) + ((c : Nat) : Int)), vr (am 0)]) rfl ?_
  refine M.ialdN (28 + (3 * s) + c) rfl (isM_a hM) (by omega) (by decide) ?_
  rw [show a (28 + (3 * s) + c) = D.1 (28 + (3 * s) + c) from Rp_s hR (k := 28 + (3 * s) + c) (by omega) (by omega) (by omega)]
  exact M.iret rfl (Nat.zero_le _) (Nat.zero_le _) ⟨rfl, rfl⟩
set_option maxHeartbeats 4000000 in
set_option maxRecDepth 100000 in
theorem eX11_dropAll (l : Launch) (G : GT) (o : Nat) (am : Nat → Nat) (u a0 : Nat → Int) (b0 : Nat → Nat → Int) (D : Dy) (n : Int) (ht : Tok a0) (hd : Dok n D) (hn : 0 ≤ n ∧ n ≤ 900000000) (s : Nat) (hs : s < 2) (c : Nat) (hc : c < 3) (kind serial : Int) (hkd : -1 ≤ kind ∧ kind ≤ 4) (hse : 0 ≤ serial ∧ serial ≤ 2000000000) : Ctr l G yX11_dropAll cX11_dropAll 7 ((Option.none : Option Jvm.ClassFile.FieldType)) 3 0 0 [vr o, vi ((s : Nat) : Int), vi ((c : Nat) : Int), vi kind, vi serial] (fun w => isE o am u a0 b0 D w) (fun w r w' => r = none ∧ isE o am u a0 b0 (mDrop s (pKS ((c : Nat) : Int) kind serial) D) w') := by
  refine Ctr.of (t := tX11_dropAll) (lv0 := [some (vr o), some (vi ((s : Nat) : Int)), some (vi ((c : Nat) : Int)), some (vi kind), some (vi serial), none, none]) (by decide +kernel) tX11_dropAll_ok rfl rfl (fun w g hP M => ?_)
  obtain ⟨a, b, hM, hR, hF, hB⟩ := hP
  have hk_l_s := Dok_l hd (s := s) (by omega)
  have hk_t := Dok_t hd
  have hrow : ∀ i : Nat, i < (D.2.1 s).length → rowOk n (gR (D.2.1 s) i) := fun i hi => Dok_lr hd hs hi
  have hrt : ∀ i : Nat, i < D.2.2.2.1.length → rowOk n (gR D.2.2.2.1 i) := fun i hi => Dok_tr hd hi
  refine M.run 1 (pc' := 1) (lv' := [some (vr o), some (vi ((s : Nat) : Int)), some (vi ((c : Nat) : Int)), some (vi kind), some (vi serial), none, none]) (st' := [vr o]) rfl ?_
  refine M.get fl_X11_7 rfl (isM_o hM) (kf := 0) (v := vr (am 0)) rfl ?_
  refine M.run 3 (pc' := 8) (lv' := [some (vr o), some (vi ((s : Nat) : Int)), some (vi ((c : Nat) : Int)), some (vi kind), some (vi serial), none, none]) (st' := [vi (24 + ((s : Nat) : Int)), vr (am 0)]) rfl ?_
  refine M.ialdN (24 + s) rfl (isM_a hM) (by omega) (by decide) ?_
  rw [show a (24 + s) = (((D.2.1 s).length : Nat) : Int) from Rp_l hR (s := s) (by omega)]
  refine M.run 3 (pc' := 13) (lv' := [some (vr o), some (vi ((s : Nat) : Int)), some (vi ((c : Nat) : Int)), some (vi kind), some (vi serial), some (vi ((((D.2.1 s).length : Nat) : Int) - 1)), none]) (st' := []) rfl ?_
  have Lp13 : ∀ (N : Nat) (j : Nat) (ax : Nat → Int) (bx : Nat → Nat → Int) (wx : Wo), (isM o am u ax bx wx) → (Rp ax (dLn s (pKS ((c : Nat) : Int) kind serial) j D)) → (Fr a0 ax) → (Fb b0 bx) → (Dok n (dLn s (pKS ((c : Nat) : Int) kind serial) j D)) → (j ≤ (D.2.1 s).length) → j < N → g 0 0 wx 13 [some (vr o), some (vi ((s : Nat) : Int)), some (vi ((c : Nat) : Int)), some (vi kind), some (vi serial), some (vi (((j : Nat) : Int) - 1)), none] [] := by
    intro N
    induction N with
    | zero => intro j ax bx wx _ _ _ _ _ _ hN; exact absurd hN (Nat.not_lt_zero _)
    | succ N ih13 =>
      intro j ax bx wx hMx hRx hFx hBx hdx hj hN
      refine M.run 1 (pc' := 15) (lv' := [some (vr o), some (vi ((s : Nat) : Int)), some (vi ((c : Nat) : Int)), some (vi kind), some (vi serial), some (vi (((j : Nat) : Int) - 1)), none]) (st' := [vi (((j : Nat) : Int) - 1)]) rfl ?_
      refine M.if_lt (tgt := 84) rfl (qI (by omega)) (by decide) (fun h15 => ?_) (fun h15 => ?_)
      · skip
        refine M.run 1 (pc' := 85) (lv' := [some (vr o), some (vi ((s : Nat) : Int)), some (vi ((c : Nat) : Int)), some (vi kind), some (vi serial), some (vi (((j : Nat) : Int) - 1)), none]) (st' := [vr o]) rfl ?_
        refine M.get fl_X11_7 rfl (isM_o hMx) (kf := 0) (v := vr (am 0)) rfl ?_
        refine M.run 1 (pc' := 90) (lv' := [some (vr o), some (vi ((s : Nat) : Int)), some (vi ((c : Nat) : Int)), some (vi kind), some (vi serial), some (vi (((j : Nat) : Int) - 1)), none]) (st' := [vi 27, vr (am 0)]) rfl ?_
        refine M.ialdN (27) rfl (isM_a hMx) (by decide) (by decide) ?_
        rw [show ax 27 = ((D.2.2.2.1.length : Nat) : Int) from (by have q := Rp_t hRx; exact q)]
        refine M.run 3 (pc' := 95) (lv' := [some (vr o), some (vi ((s : Nat) : Int)), some (vi ((c : Nat) : Int)), some (vi kind), some (vi serial), some (vi (((D.2.2.2.1.length : Nat) : Int) - 1)), none]) (st' := []) rfl ?_
        have Lp95 : ∀ (N : Nat) (j : Nat) (az : Nat → Int) (bz : Nat → Nat → Int) (wz : Wo), (isM o am u az bz wz) → (Rp az (dTm (pTm s (pKS ((c : Nat) : Int) kind serial)) j (dLn s (pKS ((c : Nat) : Int) kind serial) 0 D))) → (Fr a0 az) → (Fb b0 bz) → (Dok n (dTm (pTm s (pKS ((c : Nat) : Int) kind serial)) j (dLn s (pKS ((c : Nat) : Int) kind serial) 0 D))) → (j ≤ D.2.2.2.1.length) → j < N → g 0 0 wz 95 [some (vr o), some (vi ((s : Nat) : Int)), some (vi ((c : Nat) : Int)), some (vi kind), some (vi serial), some (vi (((j : Nat) : Int) - 1)), none] [] := by
          intro N
          induction N with
          | zero => intro j az bz wz _ _ _ _ _ _ hN; exact absurd hN (Nat.not_lt_zero _)
          | succ N ih95 =>
            intro j az bz wz hMz hRz hFz hBz hdz hj hN
            refine M.run 1 (pc' := 97) (lv' := [some (vr o), some (vi ((s : Nat) : Int)), some (vi ((c : Nat) : Int)), some (vi kind), some (vi serial), some (vi (((j : Nat) : Int) - 1)), none]) (st' := [vi (((j : Nat) : Int) - 1)]) rfl ?_
            refine M.if_lt (tgt := 177) rfl (qI (by omega)) (by decide) (fun h97 => ?_) (fun h97 => ?_)
            · skip
              exact M.vret rfl (Nat.zero_le _) (Nat.zero_le _) ⟨rfl, az, bz, hMz, by rw [← mDrop_eq, show 0 = j by omega]; have q := hRz; rw [show j = 0 by omega] at q ⊢; exact q, hFz, hBz⟩
            · skip
              rw [show ((j : Nat) : Int) - 1 = ((j - 1 : Nat) : Int) from by omega]
              obtain ⟨rk0, rk1, rk2, rk3, rk4, rk5, rk6, rk7, rk8, rk9⟩ := hrt (j - 1) (by omega)
              have hjl : j ≤ (dTm (pTm s (pKS ((c : Nat) : Int) kind serial)) j (dLn s (pKS ((c : Nat) : Int) kind serial) 0 D)).2.2.2.1.length := mDl_len hj
              refine M.run 1 (pc' := 102) (lv' := [some (vr o), some (vi ((s : Nat) : Int)), some (vi ((c : Nat) : Int)), some (vi kind), some (vi serial), some (vi ((j - 1 : Nat) : Int)), none]) (st' := [vi ((j - 1 : Nat) : Int)]) rfl ?_
              refine M.callS (kX11_timerAt l G (j - 1) (by omega)) cs_X11_295 cd_X11_timerAt rfl (st := []) rfl (by decide) (by decide) rfl (Nat.zero_le _) (Nat.zero_le _) trivial (fun r1 w2 q3 => ?_)
              rw [q3.1, q3.2]
              refine M.run 2 (pc' := 108) (lv' := [some (vr o), some (vi ((s : Nat) : Int)), some (vi ((c : Nat) : Int)), some (vi kind), some (vi serial), some (vi ((j - 1 : Nat) : Int)), some (vi ((817 + 9 * (j - 1) : Nat) : Int))]) (st' := [vr o]) rfl ?_
              refine M.get fl_X11_7 rfl (isM_o hMz) (kf := 0) (v := vr (am 0)) rfl ?_
              refine M.run 3 (pc' := 115) (lv' := [some (vr o), some (vi ((s : Nat) : Int)), some (vi ((c : Nat) : Int)), some (vi kind), some (vi serial), some (vi ((j - 1 : Nat) : Int)), some (vi ((817 + 9 * (j - 1) : Nat) : Int))]) (st' := [vi (((817 + 9 * (j - 1) : Nat) : Int) + 0), vr (am 0)]) rfl ?_
              refine M.ialdN (817 + 9 * (j - 1) + 0) rfl (isM_a hMz) (by omega) (by decide) ?_
              rw [show az (817 + 9 * (j - 1) + 0) = gR D.2.2.2.1 (j - 1) 8 from (Rp_dTr (D := dLn s (pKS ((c : Nat) : Int) kind serial) 0 D) hRz (k := 8) (by omega) hj (by decide))]
              refine M.run 1 (pc' := 117) (lv' := [some (vr o), some (vi ((s : Nat) : Int)), some (vi ((c : Nat) : Int)), some (vi kind), some (vi serial), some (vi ((j - 1 : Nat) : Int)), some (vi ((817 + 9 * (j - 1) : Nat) : Int))]) (st' := [vi ((s : Nat) : Int), vi (gR D.2.2.2.1 (j - 1) 8)]) rfl ?_
              refine M.icmp_ne (tgt := 171) rfl (qI (by omega)) (qI (by omega)) (by decide) (fun h117 => ?_) (fun h117 => ?_)
              · skip
                have eq5 := dTm_keep (q := pTm s (pKS ((c : Nat) : Int) kind serial)) (D := dLn s (pKS ((c : Nat) : Int) kind serial) 0 D) (by omega) hj (by show pTm s (pKS ((c : Nat) : Int) kind serial) (gR D.2.2.2.1 (j - 1)) = false; unfold pTm pKS; simp only [decide_eq_false_iff_not, Bool.and_eq_false_iff]; omega)
                have hRm5 := hRz
                rw [eq5] at hRm5
                have hdm5 := hdz
                rw [eq5] at hdm5
                refine M.run 1 (pc' := 174) (lv' := [some (vr o), some (vi ((s : Nat) : Int)), some (vi ((c : Nat) : Int)), some (vi kind), some (vi serial), some (vi (((j - 1 : Nat) : Int) + (-1))), some (vi ((817 + 9 * (j - 1) : Nat) : Int))]) (st' := []) rfl ?_
                rw [show ((j - 1 : Nat) : Int) + (-1) = ((j - 1 : Nat) : Int) - 1 from by omega]
                refine M.run 1 (pc' := 95) (lv' := [some (vr o), some (vi ((s : Nat) : Int)), some (vi ((c : Nat) : Int)), some (vi kind), some (vi serial), some (vi (((j - 1 : Nat) : Int) - 1)), some (vi ((817 + 9 * (j - 1) : Nat) : Int))]) (st' := []) rfl ?_
                refine M.fgt [false, false, false, false, false, false, true] ?_
                exact ih95 (j - 1) az bz wz hMz (by omega) hFz hBz (by omega) (by omega) (by omega)
              · skip
                refine M.run 1 (pc' := 121) (lv' := [some (vr o), some (vi ((s : Nat) : Int)), some (vi ((c : Nat) : Int)), some (vi kind), some (vi serial), some (vi ((j - 1 : Nat) : Int)), some (vi ((817 + 9 * (j - 1) : Nat) : Int))]) (st' := [vr o]) rfl ?_
                refine M.get fl_X11_7 rfl (isM_o hMz) (kf := 0) (v := vr (am 0)) rfl ?_
                refine M.run 3 (pc' := 128) (lv' := [some (vr o), some (vi ((s : Nat) : Int)), some (vi ((c : Nat) : Int)), some (vi kind), some (vi serial), some (vi ((j - 1 : Nat) : Int)), some (vi ((817 + 9 * (j - 1) : Nat) : Int))]) (st' := [vi (((817 + 9 * (j - 1) : Nat) : Int) + 2), vr (am 0)]) rfl ?_
                refine M.ialdN (817 + 9 * (j - 1) + 2) rfl (isM_a hMz) (by omega) (by decide) ?_
                rw [show az (817 + 9 * (j - 1) + 2) = gR D.2.2.2.1 (j - 1) 1 from (Rp_dTr (D := dLn s (pKS ((c : Nat) : Int) kind serial) 0 D) hRz (k := 1) (by omega) hj (by decide))]
                refine M.run 1 (pc' := 130) (lv' := [some (vr o), some (vi ((s : Nat) : Int)), some (vi ((c : Nat) : Int)), some (vi kind), some (vi serial), some (vi ((j - 1 : Nat) : Int)), some (vi ((817 + 9 * (j - 1) : Nat) : Int))]) (st' := [vi ((c : Nat) : Int), vi (gR D.2.2.2.1 (j - 1) 1)]) rfl ?_
                refine M.icmp_ne (tgt := 171) rfl (qI (by omega)) (qI (by omega)) (by decide) (fun h130 => ?_) (fun h130 => ?_)
                · skip
                  have eq6 := dTm_keep (q := pTm s (pKS ((c : Nat) : Int) kind serial)) (D := dLn s (pKS ((c : Nat) : Int) kind serial) 0 D) (by omega) hj (by show pTm s (pKS ((c : Nat) : Int) kind serial) (gR D.2.2.2.1 (j - 1)) = false; unfold pTm pKS; simp only [decide_eq_false_iff_not, Bool.and_eq_false_iff]; omega)
                  have hRm6 := hRz
                  rw [eq6] at hRm6
                  have hdm6 := hdz
                  rw [eq6] at hdm6
                  refine M.run 1 (pc' := 174) (lv' := [some (vr o), some (vi ((s : Nat) : Int)), some (vi ((c : Nat) : Int)), some (vi kind), some (vi serial), some (vi (((j - 1 : Nat) : Int) + (-1))), some (vi ((817 + 9 * (j - 1) : Nat) : Int))]) (st' := []) rfl ?_
                  rw [show ((j - 1 : Nat) : Int) + (-1) = ((j - 1 : Nat) : Int) - 1 from by omega]
                  refine M.run 1 (pc' := 95) (lv' := [some (vr o), some (vi ((s : Nat) : Int)), some (vi ((c : Nat) : Int)), some (vi kind), some (vi serial), some (vi (((j - 1 : Nat) : Int) - 1)), some (vi ((817 + 9 * (j - 1) : Nat) : Int))]) (st' := []) rfl ?_
                  refine M.fgt [false, false, false, false, false, false, true] ?_
                  exact ih95 (j - 1) az bz wz hMz (by omega) hFz hBz (by omega) (by omega) (by omega)
                · skip
                  refine M.run 2 (pc' := 135) (lv' := [some (vr o), some (vi ((s : Nat) : Int)), some (vi ((c : Nat) : Int)), some (vi kind), some (vi serial), some (vi ((j - 1 : Nat) : Int)), some (vi ((817 + 9 * (j - 1) : Nat) : Int))]) (st' := [vi (-1), vi kind]) rfl ?_
                  refine M.icmp_eq (tgt := 165) rfl (qI (by omega)) (qI (by decide)) (by decide) (fun h135 => ?_) (fun h135 => ?_)
                  · skip
                    refine M.run 2 (pc' := 168) (lv' := [some (vr o), some (vi ((s : Nat) : Int)), some (vi ((c : Nat) : Int)), some (vi kind), some (vi serial), some (vi ((j - 1 : Nat) : Int)), some (vi ((817 + 9 * (j - 1) : Nat) : Int))]) (st' := [vi ((j - 1 : Nat) : Int), vr o]) rfl ?_
                    refine M.callV (eX11_takeTimer l G o am u a0 b0 (dTm (pTm s (pKS ((c : Nat) : Int) kind serial)) j (dLn s (pKS ((c : Nat) : Int) kind serial) 0 D)) _ ht hdz (by omega)  (j - 1) (by omega)) cv_X11_304 cd_X11_takeTimer rfl (st := []) rfl (isM_o hMz) (by decide) (by decide) rfl (Nat.zero_le _) (Nat.zero_le _) ⟨_, _, hMz, hRz, hFz, hBz⟩ (fun r8 w9 q10 => ?_)
                    obtain ⟨q10r, a7, b7, hM7, hR7, hF7, hB7⟩ := q10
                    rw [q10r]
                    have hd7 : Dok n (((dTm (pTm s (pKS ((c : Nat) : Int) kind serial)) j (dLn s (pKS ((c : Nat) : Int) kind serial) 0 D)).1, (dTm (pTm s (pKS ((c : Nat) : Int) kind serial)) j (dLn s (pKS ((c : Nat) : Int) kind serial) 0 D)).2.1, (dTm (pTm s (pKS ((c : Nat) : Int) kind serial)) j (dLn s (pKS ((c : Nat) : Int) kind serial) 0 D)).2.2.1, (dTm (pTm s (pKS ((c : Nat) : Int) kind serial)) j (dLn s (pKS ((c : Nat) : Int) kind serial) 0 D)).2.2.2.1.eraseIdx (j - 1), (dTm (pTm s (pKS ((c : Nat) : Int) kind serial)) j (dLn s (pKS ((c : Nat) : Int) kind serial) 0 D)).2.2.2.2)) := Dok_takeT hdz
                    have es7 : (((dTm (pTm s (pKS ((c : Nat) : Int) kind serial)) j (dLn s (pKS ((c : Nat) : Int) kind serial) 0 D)).1, (dTm (pTm s (pKS ((c : Nat) : Int) kind serial)) j (dLn s (pKS ((c : Nat) : Int) kind serial) 0 D)).2.1, (dTm (pTm s (pKS ((c : Nat) : Int) kind serial)) j (dLn s (pKS ((c : Nat) : Int) kind serial) 0 D)).2.2.1, (dTm (pTm s (pKS ((c : Nat) : Int) kind serial)) j (dLn s (pKS ((c : Nat) : Int) kind serial) 0 D)).2.2.2.1.eraseIdx (j - 1), (dTm (pTm s (pKS ((c : Nat) : Int) kind serial)) j (dLn s (pKS ((c : Nat) : Int) kind serial) 0 D)).2.2.2.2)).1 = D.1 := rfl
                    have eq12 := dTm_take (q := pTm s (pKS ((c : Nat) : Int) kind serial)) (D := dLn s (pKS ((c : Nat) : Int) kind serial) 0 D) (by omega) hj (by show pTm s (pKS ((c : Nat) : Int) kind serial) (gR D.2.2.2.1 (j - 1)) = true; unfold pTm pKS; simp only [decide_eq_true_eq, Bool.and_eq_true]; omega)
                    have hRm12 := hR7
                    rw [eq12] at hRm12
                    have hdm12 := hd7
                    rw [eq12] at hdm12
                    refine M.run 1 (pc' := 174) (lv' := [some (vr o), some (vi ((s : Nat) : Int)), some (vi ((c : Nat) : Int)), some (vi kind), some (vi serial), some (vi (((j - 1 : Nat) : Int) + (-1))), some (vi ((817 + 9 * (j - 1) : Nat) : Int))]) (st' := []) rfl ?_
                    rw [show ((j - 1 : Nat) : Int) + (-1) = ((j - 1 : Nat) : Int) - 1 from by omega]
                    refine M.run 1 (pc' := 95) (lv' := [some (vr o), some (vi ((s : Nat) : Int)), some (vi ((c : Nat) : Int)), some (vi kind), some (vi serial), some (vi (((j - 1 : Nat) : Int) - 1)), some (vi ((817 + 9 * (j - 1) : Nat) : Int))]) (st' := []) rfl ?_
                    refine M.fgt [false, false, false, false, false, false, true] ?_
                    exact ih95 (j - 1) a7 b7 w9 hM7 (by omega) hF7 hB7 (by omega) (by omega) (by omega)
                  · skip
                    refine M.run 1 (pc' := 139) (lv' := [some (vr o), some (vi ((s : Nat) : Int)), some (vi ((c : Nat) : Int)), some (vi kind), some (vi serial), some (vi ((j - 1 : Nat) : Int)), some (vi ((817 + 9 * (j - 1) : Nat) : Int))]) (st' := [vr o]) rfl ?_
                    refine M.get fl_X11_7 rfl (isM_o hMz) (kf := 0) (v := vr (am 0)) rfl ?_
                    refine M.run 3 (pc' := 146) (lv' := [some (vr o), some (vi ((s : Nat) : Int)), some (vi ((c : Nat) : Int)), some (vi kind), some (vi serial), some (vi ((j - 1 : Nat) : Int)), some (vi ((817 + 9 * (j - 1) : Nat) : Int))]) (st' := [vi (((817 + 9 * (j - 1) : Nat) : Int) + 1), vr (am 0)]) rfl ?_
                    refine M.ialdN (817 + 9 * (j - 1) + 1) rfl (isM_a hMz) (by omega) (by decide) ?_
                    rw [show az (817 + 9 * (j - 1) + 1) = gR D.2.2.2.1 (j - 1) 0 from (Rp_dTr (D := dLn s (pKS ((c : Nat) : Int) kind serial) 0 D) hRz (k := 0) (by omega) hj (by decide))]
                    refine M.run 1 (pc' := 148) (lv' := [some (vr o), some (vi ((s : Nat) : Int)), some (vi ((c : Nat) : Int)), some (vi kind), some (vi serial), some (vi ((j - 1 : Nat) : Int)), some (vi ((817 + 9 * (j - 1) : Nat) : Int))]) (st' := [vi kind, vi (gR D.2.2.2.1 (j - 1) 0)]) rfl ?_
                    refine M.icmp_ne (tgt := 171) rfl (qI (by omega)) (qI (by omega)) (by decide) (fun h148 => ?_) (fun h148 => ?_)
                    · skip
                      have eq13 := dTm_keep (q := pTm s (pKS ((c : Nat) : Int) kind serial)) (D := dLn s (pKS ((c : Nat) : Int) kind serial) 0 D) (by omega) hj (by show pTm s (pKS ((c : Nat) : Int) kind serial) (gR D.2.2.2.1 (j - 1)) = false; unfold pTm pKS; simp only [decide_eq_false_iff_not, Bool.and_eq_false_iff]; omega)
                      have hRm13 := hRz
                      rw [eq13] at hRm13
                      have hdm13 := hdz
                      rw [eq13] at hdm13
                      refine M.run 1 (pc' := 174) (lv' := [some (vr o), some (vi ((s : Nat) : Int)), some (vi ((c : Nat) : Int)), some (vi kind), some (vi serial), some (vi (((j - 1 : Nat) : Int) + (-1))), some (vi ((817 + 9 * (j - 1) : Nat) : Int))]) (st' := []) rfl ?_
                      rw [show ((j - 1 : Nat) : Int) + (-1) = ((j - 1 : Nat) : Int) - 1 from by omega]
                      refine M.run 1 (pc' := 95) (lv' := [some (vr o), some (vi ((s : Nat) : Int)), some (vi ((c : Nat) : Int)), some (vi kind), some (vi serial), some (vi (((j - 1 : Nat) : Int) - 1)), some (vi ((817 + 9 * (j - 1) : Nat) : Int))]) (st' := []) rfl ?_
                      refine M.fgt [false, false, false, false, false, false, true] ?_
                      exact ih95 (j - 1) az bz wz hMz (by omega) hFz hBz (by omega) (by omega) (by omega)
                    · skip
                      refine M.run 1 (pc' := 152) (lv' := [some (vr o), some (vi ((s : Nat) : Int)), some (vi ((c : Nat) : Int)), some (vi kind), some (vi serial), some (vi ((j - 1 : Nat) : Int)), some (vi ((817 + 9 * (j - 1) : Nat) : Int))]) (st' := [vr o]) rfl ?_
                      refine M.get fl_X11_7 rfl (isM_o hMz) (kf := 0) (v := vr (am 0)) rfl ?_
                      refine M.run 3 (pc' := 159) (lv' := [some (vr o), some (vi ((s : Nat) : Int)), some (vi ((c : Nat) : Int)), some (vi kind), some (vi serial), some (vi ((j - 1 : Nat) : Int)), some (vi ((817 + 9 * (j - 1) : Nat) : Int))]) (st' := [vi (((817 + 9 * (j - 1) : Nat) : Int) + 3), vr (am 0)]) rfl ?_
                      refine M.ialdN (817 + 9 * (j - 1) + 3) rfl (isM_a hMz) (by omega) (by decide) ?_
                      rw [show az (817 + 9 * (j - 1) + 3) = gR D.2.2.2.1 (j - 1) 2 from (Rp_dTr (D := dLn s (pKS ((c : Nat) : Int) kind serial) 0 D) hRz (k := 2) (by omega) hj (by decide))]
                      refine M.run 1 (pc' := 162) (lv' := [some (vr o), some (vi ((s : Nat) : Int)), some (vi ((c : Nat) : Int)), some (vi kind), some (vi serial), some (vi ((j - 1 : Nat) : Int)), some (vi ((817 + 9 * (j - 1) : Nat) : Int))]) (st' := [vi serial, vi (gR D.2.2.2.1 (j - 1) 2)]) rfl ?_
                      refine M.icmp_ne (tgt := 171) rfl (qI (by omega)) (qI (by omega)) (by decide) (fun h162 => ?_) (fun h162 => ?_)
                      · skip
                        have eq14 := dTm_keep (q := pTm s (pKS ((c : Nat) : Int) kind serial)) (D := dLn s (pKS ((c : Nat) : Int) kind serial) 0 D) (by omega) hj (by show pTm s (pKS ((c : Nat) : Int) kind serial) (gR D.2.2.2.1 (j - 1)) = false; unfold pTm pKS; simp only [decide_eq_false_iff_not, Bool.and_eq_false_iff]; omega)
                        have hRm14 := hRz
                        rw [eq14] at hRm14
                        have hdm14 := hdz
                        rw [eq14] at hdm14
                        refine M.run 1 (pc' := 174) (lv' := [some (vr o), some (vi ((s : Nat) : Int)), some (vi ((c : Nat) : Int)), some (vi kind), some (vi serial), some (vi (((j - 1 : Nat) : Int) + (-1))), some (vi ((817 + 9 * (j - 1) : Nat) : Int))]) (st' := []) rfl ?_
                        rw [show ((j - 1 : Nat) : Int) + (-1) = ((j - 1 : Nat) : Int) - 1 from by omega]
                        refine M.run 1 (pc' := 95) (lv' := [some (vr o), some (vi ((s : Nat) : Int)), some (vi ((c : Nat) : Int)), some (vi kind), some (vi serial), some (vi (((j - 1 : Nat) : Int) - 1)), some (vi ((817 + 9 * (j - 1) : Nat) : Int))]) (st' := []) rfl ?_
                        refine M.fgt [false, false, false, false, false, false, true] ?_
                        exact ih95 (j - 1) az bz wz hMz (by omega) hFz hBz (by omega) (by omega) (by omega)
                      · skip
                        refine M.run 2 (pc' := 168) (lv' := [some (vr o), some (vi ((s : Nat) : Int)), some (vi ((c : Nat) : Int)), some (vi kind), some (vi serial), some (vi ((j - 1 : Nat) : Int)), some (vi ((817 + 9 * (j - 1) : Nat) : Int))]) (st' := [vi ((j - 1 : Nat) : Int), vr o]) rfl ?_
                        refine M.callV (eX11_takeTimer l G o am u a0 b0 (dTm (pTm s (pKS ((c : Nat) : Int) kind serial)) j (dLn s (pKS ((c : Nat) : Int) kind serial) 0 D)) _ ht hdz (by omega)  (j - 1) (by omega)) cv_X11_304 cd_X11_takeTimer rfl (st := []) rfl (isM_o hMz) (by decide) (by decide) rfl (Nat.zero_le _) (Nat.zero_le _) ⟨_, _, hMz, hRz, hFz, hBz⟩ (fun r16 w17 q18 => ?_)
                        obtain ⟨q18r, a15, b15, hM15, hR15, hF15, hB15⟩ := q18
                        rw [q18r]
                        have hd15 : Dok n (((dTm (pTm s (pKS ((c : Nat) : Int) kind serial)) j (dLn s (pKS ((c : Nat) : Int) kind serial) 0 D)).1, (dTm (pTm s (pKS ((c : Nat) : Int) kind serial)) j (dLn s (pKS ((c : Nat) : Int) kind serial) 0 D)).2.1, (dTm (pTm s (pKS ((c : Nat) : Int) kind serial)) j (dLn s (pKS ((c : Nat) : Int) kind serial) 0 D)).2.2.1, (dTm (pTm s (pKS ((c : Nat) : Int) kind serial)) j (dLn s (pKS ((c : Nat) : Int) kind serial) 0 D)).2.2.2.1.eraseIdx (j - 1), (dTm (pTm s (pKS ((c : Nat) : Int) kind serial)) j (dLn s (pKS ((c : Nat) : Int) kind serial) 0 D)).2.2.2.2)) := Dok_takeT hdz
                        have es15 : (((dTm (pTm s (pKS ((c : Nat) : Int) kind serial)) j (dLn s (pKS ((c : Nat) : Int) kind serial) 0 D)).1, (dTm (pTm s (pKS ((c : Nat) : Int) kind serial)) j (dLn s (pKS ((c : Nat) : Int) kind serial) 0 D)).2.1, (dTm (pTm s (pKS ((c : Nat) : Int) kind serial)) j (dLn s (pKS ((c : Nat) : Int) kind serial) 0 D)).2.2.1, (dTm (pTm s (pKS ((c : Nat) : Int) kind serial)) j (dLn s (pKS ((c : Nat) : Int) kind serial) 0 D)).2.2.2.1.eraseIdx (j - 1), (dTm (pTm s (pKS ((c : Nat) : Int) kind serial)) j (dLn s (pKS ((c : Nat) : Int) kind serial) 0 D)).2.2.2.2)).1 = D.1 := rfl
                        have eq20 := dTm_take (q := pTm s (pKS ((c : Nat) : Int) kind serial)) (D := dLn s (pKS ((c : Nat) : Int) kind serial) 0 D) (by omega) hj (by show pTm s (pKS ((c : Nat) : Int) kind serial) (gR D.2.2.2.1 (j - 1)) = true; unfold pTm pKS; simp only [decide_eq_true_eq, Bool.and_eq_true]; omega)
                        have hRm20 := hR15
                        rw [eq20] at hRm20
                        have hdm20 := hd15
                        rw [eq20] at hdm20
                        refine M.run 1 (pc' := 174) (lv' := [some (vr o), some (vi ((s : Nat) : Int)), some (vi ((c : Nat) : Int)), some (vi kind), some (vi serial), some (vi (((j - 1 : Nat) : Int) + (-1))), some (vi ((817 + 9 * (j - 1) : Nat) : Int))]) (st' := []) rfl ?_
                        rw [show ((j - 1 : Nat) : Int) + (-1) = ((j - 1 : Nat) : Int) - 1 from by omega]
                        refine M.run 1 (pc' := 95) (lv' := [some (vr o), some (vi ((s : Nat) : Int)), some (vi ((c : Nat) : Int)), some (vi kind), some (vi serial), some (vi (((j - 1 : Nat) : Int) - 1)), some (vi ((817 + 9 * (j - 1) : Nat) : Int))]) (st' := []) rfl ?_
                        refine M.fgt [false, false, false, false, false, false, true] ?_
                        exact ih95 (j - 1) a15 b15 w17 hM15 (by omega) hF15 hB15 (by omega) (by omega) (by omega)
        exact Lp95 _ D.2.2.2.1.length ax bx wx hMx (by rw [show (D.2.2.2.1.length) = (dLn s (pKS ((c : Nat) : Int) kind serial) 0 D).2.2.2.1.length from rfl, dTm_all, show 0 = j by omega]; exact hRx) hFx hBx (by rw [show (D.2.2.2.1.length) = (dLn s (pKS ((c : Nat) : Int) kind serial) 0 D).2.2.2.1.length from rfl, dTm_all, show 0 = j by omega]; exact hdx) (by omega) (Nat.lt_succ_self _)
      · skip
        rw [show ((j : Nat) : Int) - 1 = ((j - 1 : Nat) : Int) from by omega]
        obtain ⟨rk0, rk1, rk2, rk3⟩ := hrow (j - 1) (by omega)
        have hjl := dLn_len (p := pKS ((c : Nat) : Int) kind serial) (D := D) (s := s) hj
        refine M.run 2 (pc' := 21) (lv' := [some (vr o), some (vi ((s : Nat) : Int)), some (vi ((c : Nat) : Int)), some (vi kind), some (vi serial), some (vi ((j - 1 : Nat) : Int)), none]) (st' := [vi ((j - 1 : Nat) : Int), vi ((s : Nat) : Int)]) rfl ?_
        refine M.callS (kX11_outAt l G s (j - 1) (by omega) (by omega)) cs_X11_292 cd_X11_outAt rfl (st := []) rfl (by decide) (by decide) rfl (Nat.zero_le _) (Nat.zero_le _) trivial (fun r21 w22 q23 => ?_)
        rw [q23.1, q23.2]
        refine M.run 2 (pc' := 27) (lv' := [some (vr o), some (vi ((s : Nat) : Int)), some (vi ((c : Nat) : Int)), some (vi kind), some (vi serial), some (vi ((j - 1 : Nat) : Int)), some (vi ((49 + 7 * (24 * s + (j - 1)) : Nat) : Int))]) (st' := [vr o]) rfl ?_
        refine M.get fl_X11_7 rfl (isM_o hMx) (kf := 0) (v := vr (am 0)) rfl ?_
        refine M.run 3 (pc' := 34) (lv' := [some (vr o), some (vi ((s : Nat) : Int)), some (vi ((c : Nat) : Int)), some (vi kind), some (vi serial), some (vi ((j - 1 : Nat) : Int)), some (vi ((49 + 7 * (24 * s + (j - 1)) : Nat) : Int))]) (st' := [vi (((49 + 7 * (24 * s + (j - 1)) : Nat) : Int) + 1), vr (am 0)]) rfl ?_
        refine M.ialdN (49 + 7 * (24 * s + (j - 1)) + 1) rfl (isM_a hMx) (by omega) (by decide) ?_
        rw [show ax (49 + 7 * (24 * s + (j - 1)) + 1) = gR (D.2.1 s) (j - 1) 1 from (show _ from (congrArg _ (by omega)).trans (Rp_dLr hRx hs (k := 1) (by omega) hj (by decide)))]
        refine M.run 1 (pc' := 36) (lv' := [some (vr o), some (vi ((s : Nat) : Int)), some (vi ((c : Nat) : Int)), some (vi kind), some (vi serial), some (vi ((j - 1 : Nat) : Int)), some (vi ((49 + 7 * (24 * s + (j - 1)) : Nat) : Int))]) (st' := [vi ((c : Nat) : Int), vi (gR (D.2.1 s) (j - 1) 1)]) rfl ?_
        refine M.icmp_ne (tgt := 78) rfl (qI (by omega)) (qI (by omega)) (by decide) (fun h36 => ?_) (fun h36 => ?_)
        · skip
          have eq25 := dLn_keep (s := s) (p := (pKS ((c : Nat) : Int) kind serial)) (D := D) (by omega) hj (by unfold pKS; simp only [decide_eq_false_iff_not]; omega)
          have hRm25 := hRx
          rw [eq25] at hRm25
          have hdm25 := hdx
          rw [eq25] at hdm25
          refine M.run 1 (pc' := 81) (lv' := [some (vr o), some (vi ((s : Nat) : Int)), some (vi ((c : Nat) : Int)), some (vi kind), some (vi serial), some (vi (((j - 1 : Nat) : Int) + (-1))), some (vi ((49 + 7 * (24 * s + (j - 1)) : Nat) : Int))]) (st' := []) rfl ?_
          rw [show ((j - 1 : Nat) : Int) + (-1) = ((j - 1 : Nat) : Int) - 1 from by omega]
          refine M.run 1 (pc' := 13) (lv' := [some (vr o), some (vi ((s : Nat) : Int)), some (vi ((c : Nat) : Int)), some (vi kind), some (vi serial), some (vi (((j - 1 : Nat) : Int) - 1)), some (vi ((49 + 7 * (24 * s + (j - 1)) : Nat) : Int))]) (st' := []) rfl ?_
          refine M.fgt [false, false, false, false, false, false, true] ?_
          exact ih13 (j - 1) ax bx wx hMx (by omega) hFx hBx (by omega) (by omega) (by omega)
        · skip
          refine M.run 2 (pc' := 41) (lv' := [some (vr o), some (vi ((s : Nat) : Int)), some (vi ((c : Nat) : Int)), some (vi kind), some (vi serial), some (vi ((j - 1 : Nat) : Int)), some (vi ((49 + 7 * (24 * s + (j - 1)) : Nat) : Int))]) (st' := [vi (-1), vi kind]) rfl ?_
          refine M.icmp_eq (tgt := 71) rfl (qI (by omega)) (qI (by decide)) (by decide) (fun h41 => ?_) (fun h41 => ?_)
          · skip
            refine M.run 3 (pc' := 75) (lv' := [some (vr o), some (vi ((s : Nat) : Int)), some (vi ((c : Nat) : Int)), some (vi kind), some (vi serial), some (vi ((j - 1 : Nat) : Int)), some (vi ((49 + 7 * (24 * s + (j - 1)) : Nat) : Int))]) (st' := [vi ((j - 1 : Nat) : Int), vi ((s : Nat) : Int), vr o]) rfl ?_
            refine M.callV (eX11_takeOut l G o am u a0 b0 (dLn s (pKS ((c : Nat) : Int) kind serial) j D) _ ht hdx (by omega)  s (by omega) (j - 1) (by omega)) cv_X11_301 cd_X11_takeOut rfl (st := []) rfl (isM_o hMx) (by decide) (by decide) rfl (Nat.zero_le _) (Nat.zero_le _) ⟨_, _, hMx, hRx, hFx, hBx⟩ (fun r27 w28 q29 => ?_)
            obtain ⟨q29r, a26, b26, hM26, hR26, hF26, hB26⟩ := q29
            rw [q29r]
            have hd26 : Dok n (((dLn s (pKS ((c : Nat) : Int) kind serial) j D).1, lsS (dLn s (pKS ((c : Nat) : Int) kind serial) j D).2.1 s (((dLn s (pKS ((c : Nat) : Int) kind serial) j D).2.1 s).eraseIdx (j - 1)), (dLn s (pKS ((c : Nat) : Int) kind serial) j D).2.2)) := Dok_takeO hdx
            have es26 : (((dLn s (pKS ((c : Nat) : Int) kind serial) j D).1, lsS (dLn s (pKS ((c : Nat) : Int) kind serial) j D).2.1 s (((dLn s (pKS ((c : Nat) : Int) kind serial) j D).2.1 s).eraseIdx (j - 1)), (dLn s (pKS ((c : Nat) : Int) kind serial) j D).2.2)).1 = D.1 := rfl
            have eq31 := dLn_take (s := s) (p := (pKS ((c : Nat) : Int) kind serial)) (D := D) (by omega) hj (by unfold pKS; simp only [decide_eq_true_eq]; omega)
            have hRm31 := hR26
            rw [eq31] at hRm31
            have hdm31 := hd26
            rw [eq31] at hdm31
            refine M.run 1 (pc' := 81) (lv' := [some (vr o), some (vi ((s : Nat) : Int)), some (vi ((c : Nat) : Int)), some (vi kind), some (vi serial), some (vi (((j - 1 : Nat) : Int) + (-1))), some (vi ((49 + 7 * (24 * s + (j - 1)) : Nat) : Int))]) (st' := []) rfl ?_
            rw [show ((j - 1 : Nat) : Int) + (-1) = ((j - 1 : Nat) : Int) - 1 from by omega]
            refine M.run 1 (pc' := 13) (lv' := [some (vr o), some (vi ((s : Nat) : Int)), some (vi ((c : Nat) : Int)), some (vi kind), some (vi serial), some (vi (((j - 1 : Nat) : Int) - 1)), some (vi ((49 + 7 * (24 * s + (j - 1)) : Nat) : Int))]) (st' := []) rfl ?_
            refine M.fgt [false, false, false, false, false, false, true] ?_
            exact ih13 (j - 1) a26 b26 w28 hM26 (by omega) hF26 hB26 (by omega) (by omega) (by omega)
          · skip
            refine M.run 1 (pc' := 45) (lv' := [some (vr o), some (vi ((s : Nat) : Int)), some (vi ((c : Nat) : Int)), some (vi kind), some (vi serial), some (vi ((j - 1 : Nat) : Int)), some (vi ((49 + 7 * (24 * s + (j - 1)) : Nat) : Int))]) (st' := [vr o]) rfl ?_
            refine M.get fl_X11_7 rfl (isM_o hMx) (kf := 0) (v := vr (am 0)) rfl ?_
            refine M.run 3 (pc' := 52) (lv' := [some (vr o), some (vi ((s : Nat) : Int)), some (vi ((c : Nat) : Int)), some (vi kind), some (vi serial), some (vi ((j - 1 : Nat) : Int)), some (vi ((49 + 7 * (24 * s + (j - 1)) : Nat) : Int))]) (st' := [vi (((49 + 7 * (24 * s + (j - 1)) : Nat) : Int) + 0), vr (am 0)]) rfl ?_
            refine M.ialdN (49 + 7 * (24 * s + (j - 1)) + 0) rfl (isM_a hMx) (by omega) (by decide) ?_
            rw [show ax (49 + 7 * (24 * s + (j - 1)) + 0) = gR (D.2.1 s) (j - 1) 0 from (show _ from (congrArg _ (by omega)).trans (Rp_dLr hRx hs (k := 0) (by omega) hj (by decide)))]
            refine M.run 1 (pc' := 54) (lv' := [some (vr o), some (vi ((s : Nat) : Int)), some (vi ((c : Nat) : Int)), some (vi kind), some (vi serial), some (vi ((j - 1 : Nat) : Int)), some (vi ((49 + 7 * (24 * s + (j - 1)) : Nat) : Int))]) (st' := [vi kind, vi (gR (D.2.1 s) (j - 1) 0)]) rfl ?_
            refine M.icmp_ne (tgt := 78) rfl (qI (by omega)) (qI (by omega)) (by decide) (fun h54 => ?_) (fun h54 => ?_)
            · skip
              have eq32 := dLn_keep (s := s) (p := (pKS ((c : Nat) : Int) kind serial)) (D := D) (by omega) hj (by unfold pKS; simp only [decide_eq_false_iff_not]; omega)
              have hRm32 := hRx
              rw [eq32] at hRm32
              have hdm32 := hdx
              rw [eq32] at hdm32
              refine M.run 1 (pc' := 81) (lv' := [some (vr o), some (vi ((s : Nat) : Int)), some (vi ((c : Nat) : Int)), some (vi kind), some (vi serial), some (vi (((j - 1 : Nat) : Int) + (-1))), some (vi ((49 + 7 * (24 * s + (j - 1)) : Nat) : Int))]) (st' := []) rfl ?_
              rw [show ((j - 1 : Nat) : Int) + (-1) = ((j - 1 : Nat) : Int) - 1 from by omega]
              refine M.run 1 (pc' := 13) (lv' := [some (vr o), some (vi ((s : Nat) : Int)), some (vi ((c : Nat) : Int)), some (vi kind), some (vi serial), some (vi (((j - 1 : Nat) : Int) - 1)), some (vi ((49 + 7 * (24 * s + (j - 1)) : Nat) : Int))]) (st' := []) rfl ?_
              refine M.fgt [false, false, false, false, false, false, true] ?_
              exact ih13 (j - 1) ax bx wx hMx (by omega) hFx hBx (by omega) (by omega) (by omega)
            · skip
              refine M.run 1 (pc' := 58) (lv' := [some (vr o), some (vi ((s : Nat) : Int)), some (vi ((c : Nat) : Int)), some (vi kind), some (vi serial), some (vi ((j - 1 : Nat) : Int)), some (vi ((49 + 7 * (24 * s + (j - 1)) : Nat) : Int))]) (st' := [vr o]) rfl ?_
              refine M.get fl_X11_7 rfl (isM_o hMx) (kf := 0) (v := vr (am 0)) rfl ?_
              refine M.run 3 (pc' := 65) (lv' := [some (vr o), some (vi ((s : Nat) : Int)), some (vi ((c : Nat) : Int)), some (vi kind), some (vi serial), some (vi ((j - 1 : Nat) : Int)), some (vi ((49 + 7 * (24 * s + (j - 1)) : Nat) : Int))]) (st' := [vi (((49 + 7 * (24 * s + (j - 1)) : Nat) : Int) + 2), vr (am 0)]) rfl ?_
              refine M.ialdN (49 + 7 * (24 * s + (j - 1)) + 2) rfl (isM_a hMx) (by omega) (by decide) ?_
              rw [show ax (49 + 7 * (24 * s + (j - 1)) + 2) = gR (D.2.1 s) (j - 1) 2 from (show _ from (congrArg _ (by omega)).trans (Rp_dLr hRx hs (k := 2) (by omega) hj (by decide)))]
              refine M.run 1 (pc' := 68) (lv' := [some (vr o), some (vi ((s : Nat) : Int)), some (vi ((c : Nat) : Int)), some (vi kind), some (vi serial), some (vi ((j - 1 : Nat) : Int)), some (vi ((49 + 7 * (24 * s + (j - 1)) : Nat) : Int))]) (st' := [vi serial, vi (gR (D.2.1 s) (j - 1) 2)]) rfl ?_
              refine M.icmp_ne (tgt := 78) rfl (qI (by omega)) (qI (by omega)) (by decide) (fun h68 => ?_) (fun h68 => ?_)
              · skip
                have eq33 := dLn_keep (s := s) (p := (pKS ((c : Nat) : Int) kind serial)) (D := D) (by omega) hj (by unfold pKS; simp only [decide_eq_false_iff_not]; omega)
                have hRm33 := hRx
                rw [eq33] at hRm33
                have hdm33 := hdx
                rw [eq33] at hdm33
                refine M.run 1 (pc' := 81) (lv' := [some (vr o), some (vi ((s : Nat) : Int)), some (vi ((c : Nat) : Int)), some (vi kind), some (vi serial), some (vi (((j - 1 : Nat) : Int) + (-1))), some (vi ((49 + 7 * (24 * s + (j - 1)) : Nat) : Int))]) (st' := []) rfl ?_
                rw [show ((j - 1 : Nat) : Int) + (-1) = ((j - 1 : Nat) : Int) - 1 from by omega]
                refine M.run 1 (pc' := 13) (lv' := [some (vr o), some (vi ((s : Nat) : Int)), some (vi ((c : Nat) : Int)), some (vi kind), some (vi serial), some (vi (((j - 1 : Nat) : Int) - 1)), some (vi ((49 + 7 * (24 * s + (j - 1)) : Nat) : Int))]) (st' := []) rfl ?_
                refine M.fgt [false, false, false, false, false, false, true] ?_
                exact ih13 (j - 1) ax bx wx hMx (by omega) hFx hBx (by omega) (by omega) (by omega)
              · skip
                refine M.run 3 (pc' := 75) (lv' := [some (vr o), some (vi ((s : Nat) : Int)), some (vi ((c : Nat) : Int)), some (vi kind), some (vi serial), some (vi ((j - 1 : Nat) : Int)), some (vi ((49 + 7 * (24 * s + (j - 1)) : Nat) : Int))]) (st' := [vi ((j - 1 : Nat) : Int), vi ((s : Nat) : Int), vr o]) rfl ?_
                refine M.callV (eX11_takeOut l G o am u a0 b0 (dLn s (pKS ((c : Nat) : Int) kind serial) j D) _ ht hdx (by omega)  s (by omega) (j - 1) (by omega)) cv_X11_301 cd_X11_takeOut rfl (st := []) rfl (isM_o hMx) (by decide) (by decide) rfl (Nat.zero_le _) (Nat.zero_le _) ⟨_, _, hMx, hRx, hFx, hBx⟩ (fun r35 w36 q37 => ?_)
                obtain ⟨q37r, a34, b34, hM34, hR34, hF34, hB34⟩ := q37
                rw [q37r]
                have hd34 : Dok n (((dLn s (pKS ((c : Nat) : Int) kind serial) j D).1, lsS (dLn s (pKS ((c : Nat) : Int) kind serial) j D).2.1 s (((dLn s (pKS ((c : Nat) : Int) kind serial) j D).2.1 s).eraseIdx (j - 1)), (dLn s (pKS ((c : Nat) : Int) kind serial) j D).2.2)) := Dok_takeO hdx
                have es34 : (((dLn s (pKS ((c : Nat) : Int) kind serial) j D).1, lsS (dLn s (pKS ((c : Nat) : Int) kind serial) j D).2.1 s (((dLn s (pKS ((c : Nat) : Int) kind serial) j D).2.1 s).eraseIdx (j - 1)), (dLn s (pKS ((c : Nat) : Int) kind serial) j D).2.2)).1 = D.1 := rfl
                have eq39 := dLn_take (s := s) (p := (pKS ((c : Nat) : Int) kind serial)) (D := D) (by omega) hj (by unfold pKS; simp only [decide_eq_true_eq]; omega)
                have hRm39 := hR34
                rw [eq39] at hRm39
                have hdm39 := hd34
                rw [eq39] at hdm39
                refine M.run 1 (pc' := 81) (lv' := [some (vr o), some (vi ((s : Nat) : Int)), some (vi ((c : Nat) : Int)), some (vi kind), some (vi serial), some (vi (((j - 1 : Nat) : Int) + (-1))), some (vi ((49 + 7 * (24 * s + (j - 1)) : Nat) : Int))]) (st' := []) rfl ?_
                rw [show ((j - 1 : Nat) : Int) + (-1) = ((j - 1 : Nat) : Int) - 1 from by omega]
                refine M.run 1 (pc' := 13) (lv' := [some (vr o), some (vi ((s : Nat) : Int)), some (vi ((c : Nat) : Int)), some (vi kind), some (vi serial), some (vi (((j - 1 : Nat) : Int) - 1)), some (vi ((49 + 7 * (24 * s + (j - 1)) : Nat) : Int))]) (st' := []) rfl ?_
                refine M.fgt [false, false, false, false, false, false, true] ?_
                exact ih13 (j - 1) a34 b34 w36 hM34 (by omega) hF34 hB34 (by omega) (by omega) (by omega)
  exact Lp13 _ ((D.2.1 s).length) a b w hM (by rw [dLn_all]; exact hR) hF hB (by rw [dLn_all]; exact hd) (by omega) (Nat.lt_succ_self _)
set_option maxHeartbeats 4000000 in
set_option maxRecDepth 100000 in
theorem eX11_endNow (l : Launch) (G : GT) (o : Nat) (am : Nat → Nat) (u a0 : Nat → Int) (b0 : Nat → Nat → Int) (D : Dy) (n : Int) (ht : Tok a0) (hd : Dok n D) (hn : 0 ≤ n ∧ n ≤ 900000000) (c : Nat) (hc : c < 3) : Ctr l G yX11_endNow cX11_endNow 2 ((Option.none : Option Jvm.ClassFile.FieldType)) 2 0 0 [vr o, vi ((c : Nat) : Int)] (fun w => isE o am u a0 b0 D w) (fun w r w' => r = none ∧ isE o am u a0 b0 (mEnd c D) w') := by
  refine Ctr.of (t := tX11_endNow) (lv0 := [some (vr o), some (vi ((c : Nat) : Int))]) (by decide +kernel) tX11_endNow_ok rfl rfl (fun w g hP M => ?_)
  obtain ⟨a, b, hM, hR, hF, hB⟩ := hP
  have hk18 := Dok_clk hd
  refine M.run 1 (pc' := 1) (lv' := [some (vr o), some (vi ((c : Nat) : Int))]) (st' := [vr o]) rfl ?_
  refine M.get fl_X11_7 rfl (isM_o hM) (kf := 0) (v := vr (am 0)) rfl ?_
  refine M.run 4 (pc' := 9) (lv' := [some (vr o), some (vi ((c : Nat) : Int))]) (st' := [vi 2, vi (28 + ((c : Nat) : Int)), vr (am 0)]) rfl ?_
  refine M.iastN (28 + c) rfl (isM_a hM) (by omega) (by decide) ?_
  have hM2 := isM_setA hM (uN a (28 + c) 2)
  generalize up w (am 0) (Ar 0 30042 (uN a (28 + c) 2)) = w1 at hM2 ⊢
  have hR3 : Rp _ (mS (28 + c) 2 D) := Rp_us hR 2 (k := 28 + c) (by omega) (by omega) (by omega)
  have hF3 := Fr_u (k := 28 + c) (v := 2) hF (by omega) (by omega)
  have hd3 := Dok_S (k := 28 + c) (v := 2) hd (fun _ _ _ => by unfold Shi; (repeat' split) <;> omega)
  have es3 : (mS (28 + c) 2 D).1 = uN D.1 (28 + c) 2 := rfl
  refine M.run 4 (pc' := 14) (lv' := [some (vr o), some (vi ((c : Nat) : Int))]) (st' := [vi 0, vi ((c : Nat) : Int), vi 1, vr o]) rfl ?_
  refine M.callV (eX11_writeDown l G o am u a0 b0 (mS (28 + c) 2 D) _ ht hd3 (by omega)  (D.1 18) (((congrFun es3 _)).trans (uN_o (by omega))) 1 ((c : Nat) : Int) 0 (by omega)) cv_X11_321 cd_X11_writeDown rfl (st := []) rfl (isM_o hM2) (by decide) (by decide) rfl (Nat.zero_le _) (Nat.zero_le _) ⟨_, _, hM2, hR3, hF3, hB⟩ (fun r5 w6 q7 => ?_)
  obtain ⟨q7r, a4, b4, hM4, hR4, hF4, hB4⟩ := q7
  rw [q7r]
  have hd4 : Dok n (mNote (rwB (D.1 18) 1 ((c : Nat) : Int) 0) (mS (28 + c) 2 D)) := Dok_note hd3 (bokOk_B (by omega))
  have es4 : (mNote (rwB (D.1 18) 1 ((c : Nat) : Int) 0) (mS (28 + c) 2 D)).1 = uN D.1 (28 + c) 2 := es3
  exact M.vret rfl (Nat.zero_le _) (Nat.zero_le _) ⟨rfl, _, _, hM4, hR4, hF4, hB4⟩
set_option maxHeartbeats 4000000 in
set_option maxRecDepth 100000 in
theorem eX11_isAll (l : Launch) (G : GT) (o : Nat) (am : Nat → Nat) (u a0 : Nat → Int) (b0 : Nat → Nat → Int) (D : Dy) (n : Int) (ht : Tok a0) (hd : Dok n D) (hn : 0 ≤ n ∧ n ≤ 900000000) (c : Nat) (hc : c < 3) : Ctr l G yX11_isAll cX11_isAll 2 ((Option.some Jvm.ClassFile.FieldType.boolean)) 4 0 0 [vr o, vi ((c : Nat) : Int)] (fun w => isE o am u a0 b0 D w) (fun w r w' => r = some (vi (zb (decide (mMiss a0 c (D.1 (34 + c)).toNat = 0)))) ∧ w' = w) := by
  refine Ctr.of (t := tX11_isAll) (lv0 := [some (vr o), some (vi ((c : Nat) : Int))]) (by decide +kernel) tX11_isAll_ok rfl rfl (fun w g hP M => ?_)
  obtain ⟨a, b, hM, hR, hF, hB⟩ := hP
  have hk_red_c : 0 ≤ a0 (15 + c) ∧ a0 (15 + c) ≤ 30 := Tok_red ht (x := c) (by omega)
  have hk_clm_c : 0 ≤ D.1 (34 + c) ∧ D.1 (34 + c) ≤ 1073741823 := by have := Dok_bit hd (x := 0 + c) (by omega); rwa [show 34 + (0 + c) = 34 + c by omega] at this
  have hmm : mMiss a0 c (D.1 (34 + c)).toNat < 1073741824 := bDf_lt30 (bFs_lt (by omega))
  refine M.run 2 (pc' := 2) (lv' := [some (vr o), some (vi ((c : Nat) : Int))]) (st' := [vi ((c : Nat) : Int), vr o]) rfl ?_
  refine M.callV (kX11_missingOf l G o am u a b c (by omega) (Mok_of ht hd (by omega) hR hF)) cv_X11_318 cd_X11_missingOf rfl (st := []) rfl (isM_o hM) (by decide) (by decide) rfl (Nat.zero_le _) (Nat.zero_le _) hM (fun r1 w2 q3 => ?_)
  rw [q3.1, q3.2]
  rw [show bDf (bFs (a (15 + c)).toNat) (a (34 + c)).toNat = mMiss a0 c ((D.1 (34 + c)).toNat) from by unfold mMiss mRedOf; rw [hF _ (Or.inl (by omega)), (Rp_s hR (k := 34 + c) (by omega) (by omega) (by omega))] <;> rfl]
  refine M.if_ne (tgt := 12) rfl (qI (by omega)) (by decide) (fun h5 => ?_) (fun h5 => ?_)
  · skip
    refine M.run 1 (pc' := 13) (lv' := [some (vr o), some (vi ((c : Nat) : Int))]) (st' := [vi 0]) rfl ?_
    exact M.zret rfl (Or.inl rfl) (Nat.zero_le _) (Nat.zero_le _) ⟨by first | (rw [decide_eq_true (by omega)]; rfl) | (rw [decide_eq_false (by omega)]; rfl), rfl⟩
  · skip
    refine M.run 2 (pc' := 13) (lv' := [some (vr o), some (vi ((c : Nat) : Int))]) (st' := [vi 1]) rfl ?_
    exact M.zret rfl (Or.inr rfl) (Nat.zero_le _) (Nat.zero_le _) ⟨by first | (rw [decide_eq_true (by omega)]; rfl) | (rw [decide_eq_false (by omega)]; rfl), rfl⟩
set_option maxHeartbeats 4000000 in
set_option maxRecDepth 100000 in
theorem eX11_canOpen (l : Launch) (G : GT) (o : Nat) (am : Nat → Nat) (u a0 : Nat → Int) (b0 : Nat → Nat → Int) (D : Dy) (n : Int) (ht : Tok a0) (hd : Dok n D) (hn : 0 ≤ n ∧ n ≤ 900000000) (x : Int) (hx : -2147483648 ≤ x ∧ x ≤ 2147483647) : Ctr l G yX11_canOpen cX11_canOpen 2 ((Option.some Jvm.ClassFile.FieldType.boolean)) 3 0 0 [vr o, vi x] (fun w => isE o am u a0 b0 D w) (fun w r w' => r = some (vi (zb (decide ((0 ≤ x ∧ x < a0 0) ∧ D.1 (28 + x.toNat) = 0)))) ∧ w' = w) := by
  refine Ctr.of (t := tX11_canOpen) (lv0 := [some (vr o), some (vi x)]) (by decide +kernel) tX11_canOpen_ok rfl rfl (fun w g hP M => ?_)
  obtain ⟨a, b, hM, hR, hF, hB⟩ := hP
  have hk0 : 0 ≤ a0 0 ∧ a0 0 ≤ 3 := ht.1 0 (by decide)
  refine M.run 2 (pc' := 2) (lv' := [some (vr o), some (vi x)]) (st' := [vi x, vr o]) rfl ?_
  refine M.callV (kX11_isBlock l G o am u a b x (by omega) (Mok_of ht hd (by omega) hR hF)) cv_X11_331 cd_X11_isBlock rfl (st := []) rfl (isM_o hM) (by decide) (by decide) rfl (Nat.zero_le _) (Nat.zero_le _) hM (fun r1 w2 q3 => ?_)
  rw [q3.1, q3.2]
  rw [hF 0 (Or.inl (by decide))]
  refine M.if_eq (tgt := 21) rfl (inI_zb _) (by decide) (fun h5 => ?_) (fun h5 => ?_)
  · skip
    replace h5 := zb_fd h5
    refine M.run 1 (pc' := 22) (lv' := [some (vr o), some (vi x)]) (st' := [vi 0]) rfl ?_
    exact M.zret rfl (Or.inl rfl) (Nat.zero_le _) (Nat.zero_le _) ⟨by first | (show _ = some (vi (zb (decide ((0 ≤ ((c : Nat) : Int) ∧ ((c : Nat) : Int) < a0 0) ∧ D.1 (28 + c) = 0)))); first | (rw [decide_eq_true (And.intro h5 (by omega))]; rfl) | (rw [decide_eq_false (by intro q; have := q.2; omega)]; rfl)) | (rw [decide_eq_true (And.intro h5 (by omega))]; rfl) | (rw [decide_eq_false (by intro q; exact h5 q.1)]; rfl) | (rw [decide_eq_false (by intro q; have := q.2; omega)]; rfl), rfl⟩
  · skip
    replace h5 := zb_td h5
    obtain ⟨c, rfl⟩ := Int.eq_ofNat_of_zero_le (show (0 : Int) ≤ x from h5.1)
    have hk_how_c : 0 ≤ D.1 (28 + c) ∧ D.1 (28 + c) ≤ 3 := Dok_how hd (by omega)
    refine M.run 3 (pc' := 11) (lv' := [some (vr o), some (vi ((c : Nat) : Int))]) (st' := [vi 0, vi ((c : Nat) : Int), vr o]) rfl ?_
    refine M.callV (eX11_howAt l G o am u a0 b0 D _ ht hd (by omega) c (by omega) 0 (by omega)) cv_X11_334 cd_X11_howAt rfl (st := []) rfl (isM_o hM) (by decide) (by decide) rfl (Nat.zero_le _) (Nat.zero_le _) ⟨_, _, hM, hR, hF, hB⟩ (fun r5 w6 q7 => ?_)
    rw [q7.1, q7.2]
    rw [show D.1 (28 + 3 * 0 + c) = D.1 (28 + c) from rfl]
    refine M.if_ne (tgt := 21) rfl (qI (by omega)) (by decide) (fun h14 => ?_) (fun h14 => ?_)
    · skip
      refine M.run 1 (pc' := 22) (lv' := [some (vr o), some (vi ((c : Nat) : Int))]) (st' := [vi 0]) rfl ?_
      exact M.zret rfl (Or.inl rfl) (Nat.zero_le _) (Nat.zero_le _) ⟨by first | (show _ = some (vi (zb (decide ((0 ≤ ((c : Nat) : Int) ∧ ((c : Nat) : Int) < a0 0) ∧ D.1 (28 + c) = 0)))); first | (rw [decide_eq_true (And.intro h5 (by omega))]; rfl) | (rw [decide_eq_false (by intro q; have := q.2; omega)]; rfl)) | (rw [decide_eq_true (And.intro h5 (by omega))]; rfl) | (rw [decide_eq_false (by intro q; exact h5 q.1)]; rfl) | (rw [decide_eq_false (by intro q; have := q.2; omega)]; rfl), rfl⟩
    · skip
      refine M.run 2 (pc' := 22) (lv' := [some (vr o), some (vi ((c : Nat) : Int))]) (st' := [vi 1]) rfl ?_
      exact M.zret rfl (Or.inr rfl) (Nat.zero_le _) (Nat.zero_le _) ⟨by first | (show _ = some (vi (zb (decide ((0 ≤ ((c : Nat) : Int) ∧ ((c : Nat) : Int) < a0 0) ∧ D.1 (28 + c) = 0)))); first | (rw [decide_eq_true (And.intro h5 (by omega))]; rfl) | (rw [decide_eq_false (by intro q; have := q.2; omega)]; rfl)) | (rw [decide_eq_true (And.intro h5 (by omega))]; rfl) | (rw [decide_eq_false (by intro q; exact h5 q.1)]; rfl) | (rw [decide_eq_false (by intro q; have := q.2; omega)]; rfl), rfl⟩
set_option maxHeartbeats 4000000 in
set_option maxRecDepth 100000 in
theorem eX11_canCancel (l : Launch) (G : GT) (o : Nat) (am : Nat → Nat) (u a0 : Nat → Int) (b0 : Nat → Nat → Int) (D : Dy) (n : Int) (ht : Tok a0) (hd : Dok n D) (hn : 0 ≤ n ∧ n ≤ 900000000) (c : Nat) (hc : c < 3) (s : Nat) (hs : s < 2) : Ctr l G yX11_canCancel cX11_canCancel 3 ((Option.some Jvm.ClassFile.FieldType.boolean)) 2 0 0 [vr o, vi ((c : Nat) : Int), vi ((s : Nat) : Int)] (fun w => isE o am u a0 b0 D w) (fun w r w' => r = some (vi (zb (decide (mCan c s D)))) ∧ w' = w) := by
  refine Ctr.of (t := tX11_canCancel) (lv0 := [some (vr o), some (vi ((c : Nat) : Int)), some (vi ((s : Nat) : Int))]) (by decide +kernel) tX11_canCancel_ok rfl rfl (fun w g hP M => ?_)
  obtain ⟨a, b, hM, hR, hF, hB⟩ := hP
  have hk_how_c : 0 ≤ D.1 (28 + c) ∧ D.1 (28 + c) ≤ 3 := by have := Dok_how hd (x := 0 + c) (by omega); rwa [show 28 + (0 + c) = 28 + c by omega] at this
  have hk_how2 : 0 ≤ D.1 (31 + c) ∧ D.1 (31 + c) ≤ 3 := by have := Dok_how hd (x := 3 + c) (by omega); rwa [show 28 + (3 + c) = 31 + c by omega] at this
  refine M.run 3 (pc' := 3) (lv' := [some (vr o), some (vi ((c : Nat) : Int)), some (vi ((s : Nat) : Int))]) (st' := [vi 0, vi ((c : Nat) : Int), vr o]) rfl ?_
  refine M.callV (eX11_howAt l G o am u a0 b0 D _ ht hd (by omega) c (by omega) 0 (by omega)) cv_X11_334 cd_X11_howAt rfl (st := []) rfl (isM_o hM) (by decide) (by decide) rfl (Nat.zero_le _) (Nat.zero_le _) ⟨_, _, hM, hR, hF, hB⟩ (fun r1 w2 q3 => ?_)
  rw [q3.1, q3.2]
  rw [show D.1 (28 + 3 * 0 + c) = D.1 (28 + c) from rfl]
  refine M.run 1 (pc' := 7) (lv' := [some (vr o), some (vi ((c : Nat) : Int)), some (vi ((s : Nat) : Int))]) (st' := [vi 1, vi (D.1 (28 + c))]) rfl ?_
  refine M.icmp_ne (tgt := 27) rfl (qI (by omega)) (qI (by decide)) (by decide) (fun h7 => ?_) (fun h7 => ?_)
  · skip
    refine M.run 1 (pc' := 28) (lv' := [some (vr o), some (vi ((c : Nat) : Int)), some (vi ((s : Nat) : Int))]) (st' := [vi 0]) rfl ?_
    exact M.zret rfl (Or.inl rfl) (Nat.zero_le _) (Nat.zero_le _) ⟨by first | (rw [decide_eq_true (by unfold mCan; omega)]; rfl) | (rw [decide_eq_false (by unfold mCan; omega)]; rfl), rfl⟩
  · skip
    refine M.run 1 (pc' := 11) (lv' := [some (vr o), some (vi ((c : Nat) : Int)), some (vi ((s : Nat) : Int))]) (st' := [vi ((s : Nat) : Int)]) rfl ?_
    refine M.if_eq (tgt := 23) rfl (qI (by omega)) (by decide) (fun h11 => ?_) (fun h11 => ?_)
    · skip
      refine M.run 2 (pc' := 28) (lv' := [some (vr o), some (vi ((c : Nat) : Int)), some (vi ((s : Nat) : Int))]) (st' := [vi 1]) rfl ?_
      exact M.zret rfl (Or.inr rfl) (Nat.zero_le _) (Nat.zero_le _) ⟨by first | (rw [decide_eq_true (by unfold mCan; omega)]; rfl) | (rw [decide_eq_false (by unfold mCan; omega)]; rfl), rfl⟩
    · skip
      refine M.run 3 (pc' := 17) (lv' := [some (vr o), some (vi ((c : Nat) : Int)), some (vi ((s : Nat) : Int))]) (st' := [vi 1, vi ((c : Nat) : Int), vr o]) rfl ?_
      refine M.callV (eX11_howAt l G o am u a0 b0 D _ ht hd (by omega) c (by omega) 1 (by omega)) cv_X11_334 cd_X11_howAt rfl (st := []) rfl (isM_o hM) (by decide) (by decide) rfl (Nat.zero_le _) (Nat.zero_le _) ⟨_, _, hM, hR, hF, hB⟩ (fun r5 w6 q7 => ?_)
      rw [q7.1, q7.2]
      rw [show D.1 (28 + 3 * 1 + c) = D.1 (31 + c) from rfl]
      refine M.if_ne (tgt := 27) rfl (qI (by omega)) (by decide) (fun h20 => ?_) (fun h20 => ?_)
      · skip
        refine M.run 1 (pc' := 28) (lv' := [some (vr o), some (vi ((c : Nat) : Int)), some (vi ((s : Nat) : Int))]) (st' := [vi 0]) rfl ?_
        exact M.zret rfl (Or.inl rfl) (Nat.zero_le _) (Nat.zero_le _) ⟨by first | (rw [decide_eq_true (by unfold mCan; omega)]; rfl) | (rw [decide_eq_false (by unfold mCan; omega)]; rfl), rfl⟩
      · skip
        refine M.run 2 (pc' := 28) (lv' := [some (vr o), some (vi ((c : Nat) : Int)), some (vi ((s : Nat) : Int))]) (st' := [vi 1]) rfl ?_
        exact M.zret rfl (Or.inr rfl) (Nat.zero_le _) (Nat.zero_le _) ⟨by first | (rw [decide_eq_true (by unfold mCan; omega)]; rfl) | (rw [decide_eq_false (by unfold mCan; omega)]; rfl), rfl⟩
set_option maxHeartbeats 4000000 in
set_option maxRecDepth 100000 in
theorem eX11_cancelNow (l : Launch) (G : GT) (o : Nat) (am : Nat → Nat) (u a0 : Nat → Int) (b0 : Nat → Nat → Int) (D : Dy) (n : Int) (ht : Tok a0) (hd : Dok n D) (hn : 0 ≤ n ∧ n ≤ 900000000) (c : Nat) (hc : c < 3) (s : Nat) (hs : s < 2) : Ctr l G yX11_cancelNow cX11_cancelNow 3 ((Option.none : Option Jvm.ClassFile.FieldType)) 4 0 0 [vr o, vi ((c : Nat) : Int), vi ((s : Nat) : Int)] (fun w => isE o am u a0 b0 D w) (fun w r w' => r = none ∧ isE o am u a0 b0 (mCancel c s D) w') := by
  refine Ctr.of (t := tX11_cancelNow) (lv0 := [some (vr o), some (vi ((c : Nat) : Int)), some (vi ((s : Nat) : Int))]) (by decide +kernel) tX11_cancelNow_ok rfl rfl (fun w g hP M => ?_)
  obtain ⟨a, b, hM, hR, hF, hB⟩ := hP
  have hk18 := Dok_clk hd
  refine M.run 1 (pc' := 1) (lv' := [some (vr o), some (vi ((c : Nat) : Int)), some (vi ((s : Nat) : Int))]) (st' := [vr o]) rfl ?_
  refine M.get fl_X11_7 rfl (isM_o hM) (kf := 0) (v := vr (am 0)) rfl ?_
  refine M.run 8 (pc' := 13) (lv' := [some (vr o), some (vi ((c : Nat) : Int)), some (vi ((s : Nat) : Int))]) (st' := [vi 3, vi ((28 + (3 * ((s : Nat) : Int))) + ((c : Nat) : Int)), vr (am 0)]) rfl ?_
  refine M.iastN (28 + (3 * s) + c) rfl (isM_a hM) (by omega) (by decide) ?_
  have hM2 := isM_setA hM (uN a (28 + (3 * s) + c) 3)
  generalize up w (am 0) (Ar 0 30042 (uN a (28 + (3 * s) + c) 3)) = w1 at hM2 ⊢
  have hR3 : Rp _ (mS (28 + (3 * s) + c) 3 D) := Rp_us hR 3 (k := 28 + (3 * s) + c) (by omega) (by omega) (by omega)
  have hF3 := Fr_u (k := 28 + (3 * s) + c) (v := 3) hF (by omega) (by omega)
  have hd3 := Dok_S (k := 28 + (3 * s) + c) (v := 3) hd (fun _ _ _ => by unfold Shi; (repeat' split) <;> omega)
  have es3 : (mS (28 + (3 * s) + c) 3 D).1 = uN D.1 (28 + (3 * s) + c) 3 := rfl
  refine M.run 5 (pc' := 19) (lv' := [some (vr o), some (vi ((c : Nat) : Int)), some (vi ((s : Nat) : Int))]) (st' := [vi 0, vi (-1), vi ((c : Nat) : Int), vi ((s : Nat) : Int), vr o]) rfl ?_
  refine M.callV (eX11_dropAll l G o am u a0 b0 (mS (28 + (3 * s) + c) 3 D) _ ht hd3 (by omega)  s (by omega) c (by omega) (-1) 0 (by omega) (by omega)) cv_X11_337 cd_X11_dropAll rfl (st := []) rfl (isM_o hM2) (by decide) (by decide) rfl (Nat.zero_le _) (Nat.zero_le _) ⟨_, _, hM2, hR3, hF3, hB⟩ (fun r5 w6 q7 => ?_)
  obtain ⟨q7r, a4, b4, hM4, hR4, hF4, hB4⟩ := q7
  rw [q7r]
  have hd4 : Dok n (mDrop s (pKS ((c : Nat) : Int) (-1) 0) (mS (28 + (3 * s) + c) 3 D)) := Dok_drop hd3
  have es4 : (mDrop s (pKS ((c : Nat) : Int) (-1) 0) (mS (28 + (3 * s) + c) 3 D)).1 = uN D.1 (28 + (3 * s) + c) 3 := es3
  refine M.run 6 (pc' := 28) (lv' := [some (vr o), some (vi ((c : Nat) : Int)), some (vi ((s : Nat) : Int))]) (st' := [vi 0, vi ((c : Nat) : Int), vi (2 + ((s : Nat) : Int)), vr o]) rfl ?_
  refine M.callV (eX11_writeDown l G o am u a0 b0 (mDrop s (pKS ((c : Nat) : Int) (-1) 0) (mS (28 + (3 * s) + c) 3 D)) _ ht hd4 (by omega)  (D.1 18) (((congrFun es4 _)).trans (uN_o (by omega))) (2 + ((s : Nat) : Int)) ((c : Nat) : Int) 0 (by omega)) cv_X11_321 cd_X11_writeDown rfl (st := []) rfl (isM_o hM4) (by decide) (by decide) rfl (Nat.zero_le _) (Nat.zero_le _) ⟨_, _, hM4, hR4, hF4, hB4⟩ (fun r10 w11 q12 => ?_)
  obtain ⟨q12r, a9, b9, hM9, hR9, hF9, hB9⟩ := q12
  rw [q12r]
  have hd9 : Dok n (mNote (rwB (D.1 18) (2 + ((s : Nat) : Int)) ((c : Nat) : Int) 0) (mDrop s (pKS ((c : Nat) : Int) (-1) 0) (mS (28 + (3 * s) + c) 3 D))) := Dok_note hd4 (bokOk_B (by omega))
  have es9 : (mNote (rwB (D.1 18) (2 + ((s : Nat) : Int)) ((c : Nat) : Int) 0) (mDrop s (pKS ((c : Nat) : Int) (-1) 0) (mS (28 + (3 * s) + c) 3 D))).1 = uN D.1 (28 + (3 * s) + c) 3 := es4
  refine M.run 9 (pc' := 40) (lv' := [some (vr o), some (vi ((c : Nat) : Int)), some (vi ((s : Nat) : Int))]) (st' := [vi 0, vi 0, vi 0, vi 0, vi 0, vi ((c : Nat) : Int), vi 3, vi ((s : Nat) : Int), vr o]) rfl ?_
  refine M.callV (eX11_put l G o am u a0 b0 (mNote (rwB (D.1 18) (2 + ((s : Nat) : Int)) ((c : Nat) : Int) 0) (mDrop s (pKS ((c : Nat) : Int) (-1) 0) (mS (28 + (3 * s) + c) 3 D))) _ ht hd9 (by omega)  s (by omega) 3 ((c : Nat) : Int) 0 0 0 0 0) cv_X11_314 cd_X11_put rfl (st := []) rfl (isM_o hM9) (by decide) (by decide) rfl (Nat.zero_le _) (Nat.zero_le _) ⟨_, _, hM9, hR9, hF9, hB9⟩ (fun r15 w16 q17 => ?_)
  obtain ⟨q17r, a14, b14, hM14, hR14, hF14, hB14⟩ := q17
  rw [q17r]
  have hd14 : Dok n (mPut s (rwM 3 ((c : Nat) : Int) 0 0 0 0 0) (mNote (rwB (D.1 18) (2 + ((s : Nat) : Int)) ((c : Nat) : Int) 0) (mDrop s (pKS ((c : Nat) : Int) (-1) 0) (mS (28 + (3 * s) + c) 3 D)))) := Dok_put hd9 (by omega) (rowOk_M (by omega))
  have es14 : (mPut s (rwM 3 ((c : Nat) : Int) 0 0 0 0 0) (mNote (rwB (D.1 18) (2 + ((s : Nat) : Int)) ((c : Nat) : Int) 0) (mDrop s (pKS ((c : Nat) : Int) (-1) 0) (mS (28 + (3 * s) + c) 3 D)))).1 = uN D.1 (28 + (3 * s) + c) 3 := (mPut_1 _ _ _).trans es9
  refine M.run 1 (pc' := 44) (lv' := [some (vr o), some (vi ((c : Nat) : Int)), some (vi ((s : Nat) : Int))]) (st' := []) rfl ?_
  exact M.vret rfl (Nat.zero_le _) (Nat.zero_le _) ⟨rfl, _, _, hM14, hR14, hF14, hB14⟩
