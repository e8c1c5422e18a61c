theorem uN_s (f : Nat → Int) (k : Nat) (v : Int) : uN f k v k = v := if_pos rfl
theorem uN_o {f : Nat → Int} {k j : Nat} {v : Int} (h : j ≠ k) : uN f k v j = f j := if_neg h
theorem Tok_red {a0 : Nat → Int} (h : Tok a0) {x : Nat} (hx : x < 3) : 0 ≤ a0 (15 + x) ∧ a0 (15 + x) ≤ 30 := by
  match x, hx with
  | 0, _ => exact h.1 15 (by decide)
  | 1, _ => exact h.1 16 (by decide)
  | 2, _ => exact h.1 17 (by decide)
  | n + 3, h => exact absurd h (by omega)
theorem Tok_len {a0 : Nat → Int} (h : Tok a0) {x : Nat} (hx : x < 3) : 0 ≤ a0 (12 + x) ∧ a0 (12 + x) ≤ 30 := by
  match x, hx with
  | 0, _ => exact h.1 12 (by decide)
  | 1, _ => exact h.1 13 (by decide)
  | 2, _ => exact h.1 14 (by decide)
  | n + 3, h => exact absurd h (by omega)
/-- seven cells and a count -/
theorem put7 {f : Nat → Int} {x c : Nat} {v0 v1 v2 v3 v4 v5 v6 v : Int} (hc : c < x) :
    (∀ k : Nat, k < 7 → uN (uN (uN (uN (uN (uN (uN (uN f (x + 0) v0) (x + 1) v1) (x + 2) v2) (x + 3) v3) (x + 4) v4) (x + 5) v5) (x + 6) v6) c v (x + k) = rwM v0 v1 v2 v3 v4 v5 v6 k) ∧
    (uN (uN (uN (uN (uN (uN (uN (uN f (x + 0) v0) (x + 1) v1) (x + 2) v2) (x + 3) v3) (x + 4) v4) (x + 5) v5) (x + 6) v6) c v c = v) ∧
    (∀ j : Nat, j ≠ c → (j < x ∨ x + 7 ≤ j) → uN (uN (uN (uN (uN (uN (uN (uN f (x + 0) v0) (x + 1) v1) (x + 2) v2) (x + 3) v3) (x + 4) v4) (x + 5) v5) (x + 6) v6) c v j = f j) := by
  refine ⟨fun k hk => ?_, uN_s _ _ _, fun j h1 h2 => ?_⟩
  · rw [uN_o (by omega)]
    match k, hk with
    | 0, _ => rw [uN_o (by omega), uN_o (by omega), uN_o (by omega), uN_o (by omega), uN_o (by omega), uN_o (by omega), uN_s]; rfl
    | 1, _ => rw [uN_o (by omega), uN_o (by omega), uN_o (by omega), uN_o (by omega), uN_o (by omega), uN_s]; rfl
    | 2, _ => rw [uN_o (by omega), uN_o (by omega), uN_o (by omega), uN_o (by omega), uN_s]; rfl
    | 3, _ => rw [uN_o (by omega), uN_o (by omega), uN_o (by omega), uN_s]; rfl
    | 4, _ => rw [uN_o (by omega), uN_o (by omega), uN_s]; rfl
    | 5, _ => rw [uN_o (by omega), uN_s]; rfl
    | 6, _ => rw [uN_s]; rfl
    | n + 7, h => exact absurd h (by omega)
  · rw [uN_o h1, uN_o (by omega), uN_o (by omega), uN_o (by omega), uN_o (by omega), uN_o (by omega), uN_o (by omega), uN_o (by omega)]
/-- a row with cells from lo to below hi shifted down by d -/
def shP (a f : Nat → Int) (lo hi d : Nat) : Prop := ∀ q : Nat, f q = if lo ≤ q ∧ q < hi then a (q + d) else a q
theorem shP_0 (a : Nat → Int) (lo d : Nat) : shP a a lo lo d := fun q => by rw [if_neg (by omega)]
theorem shP_s {a f : Nat → Int} {lo hi d : Nat} (h : shP a f lo hi d) (h1 : lo ≤ hi) : shP a (uN f hi (f (hi + d))) lo (hi + 1) d := fun q => by
  by_cases e : q = hi
  · subst e
    rw [uN_s, if_pos (by omega), h (q + d)]
    by_cases e2 : d = 0
    · subst e2
      simp
    · rw [if_neg (by omega)]
  · rw [uN_o e, h q]
    by_cases e2 : lo ≤ q ∧ q < hi
    · rw [if_pos e2, if_pos (by omega)]
    · rw [if_neg e2, if_neg (by omega)]
theorem mPut_1 (s : Nat) (r : Rw) (D : Dy) : (mPut s r D).1 = D.1 := by
  unfold mPut
  split <;> rfl
theorem Dok_put {n : Int} {s : Nat} {r : Rw} {D : Dy} (hd : Dok n D) (hs : s < 2) (hr : rowOk n r) : Dok n (mPut s r D) := by
  unfold mPut
  by_cases h : (D.2.1 s).length = 24
  · rw [if_pos h]; exact hd
  · rw [if_neg h]
    obtain ⟨h1, h2, h3⟩ := hd
    refine ⟨h1, fun t ht => ?_, h3⟩
    by_cases e : t = s
    · subst e
      show (lsS D.2.1 t (D.2.1 t ++ [r]) t).length ≤ 24 ∧ ∀ q ∈ lsS D.2.1 t (D.2.1 t ++ [r]) t, rowOk n q
      rw [lsS_s, List.length_append]
      have := (h2 t ht).1
      refine ⟨by show (D.2.1 t).length + 1 ≤ 24; omega, fun q hq => ?_⟩
      rcases List.mem_append.mp hq with h5 | h5
      · exact (h2 t ht).2 q h5
      · rw [List.mem_singleton.mp h5]; exact hr
    · show (lsS D.2.1 s (D.2.1 s ++ [r]) t).length ≤ 24 ∧ ∀ q ∈ lsS D.2.1 s (D.2.1 s ++ [r]) t, rowOk n q
      rw [lsS_n _ _ e]
      exact h2 t ht
theorem Dok_drop {n : Int} {s : Nat} {p : Rw → Bool} {D : Dy} (hd : Dok n D) : Dok n (mDrop s p D) := by
  obtain ⟨h1, h2, h3, h4, h5⟩ := hd
  refine ⟨h1, fun t ht => ?_, h3, ⟨Nat.le_trans (List.length_filter_le _ _) h4.1, fun r hr => h4.2 r (List.mem_filter.mp hr).1⟩, h5⟩
  by_cases e : t = s
  · subst e
    show (lsS D.2.1 t _ t).length ≤ 24 ∧ ∀ q ∈ lsS D.2.1 t _ t, rowOk n q
    rw [lsS_s]
    exact ⟨Nat.le_trans (List.length_filter_le _ _) (h2 t ht).1, fun r hr => (h2 t ht).2 r (List.mem_filter.mp hr).1⟩
  · show (lsS D.2.1 s _ t).length ≤ 24 ∧ ∀ q ∈ lsS D.2.1 s _ t, rowOk n q
    rw [lsS_n _ _ e]
    exact h2 t ht
theorem Dok_note {n : Int} {r : Rw} {D : Dy} (hd : Dok n D) (hr : bokOk r) : Dok n (mNote r D) := by
  obtain ⟨h1, h2, h3, h4, h5⟩ := hd
  refine ⟨h1, h2, h3, h4, ?_⟩
  show (bkA D.2.2.2.2 r).length ≤ 25 ∧ ∀ q ∈ bkA D.2.2.2.2 r, bokOk q
  unfold bkA
  by_cases h : D.2.2.2.2.length = 25
  · rw [if_pos h, List.length_append, List.length_tail, h]
    refine ⟨Nat.le_refl 25, fun q hq => ?_⟩
    rcases List.mem_append.mp hq with h6 | h6
    · exact h5.2 q (List.mem_of_mem_tail h6)
    · rw [List.mem_singleton.mp h6]; exact hr
  · rw [if_neg h, List.length_append]
    refine ⟨by show D.2.2.2.2.length + 1 ≤ 25; have := h5.1; omega, fun q hq => ?_⟩
    rcases List.mem_append.mp hq with h6 | h6
    · exact h5.2 q h6
    · rw [List.mem_singleton.mp h6]; exact hr
theorem Dok_S {n : Int} {k : Nat} {v : Int} {D : Dy} (hd : Dok n D) (h : 18 ≤ k → k < 49 → (k < 23 ∨ 27 < k) → 0 ≤ v ∧ v ≤ Shi n k) : Dok n (mS k v D) := by
  refine ⟨fun j j1 j2 j3 => ?_, hd.2⟩
  show 0 ≤ uN D.1 k v j ∧ uN D.1 k v j ≤ Shi n j
  by_cases e : j = k
  · subst e
    rw [uN_s]; exact h j1 j2 j3
  · rw [uN_o e]; exact hd.1 j j1 j2 j3
theorem Shi_v {n : Int} {k : Nat} : Shi n k = if k = 18 then 10400 else if k = 19 then 31090 else if k = 20 then 10400 else if k < 28 then n else if k < 34 then 3 else if k < 40 then 1073741823 else n := rfl

set_option maxHeartbeats 4000000 in
set_option maxRecDepth 100000 in
theorem kX11_outAt (l : Launch) (G : GT) (s i : Nat) (hs : s < 2) (hi : i < 100000) : Ctr l G yX11_outAt cX11_outAt 2 ((Option.some Jvm.ClassFile.FieldType.int)) 1 0 0 [vi ((s : Nat) : Int), vi ((i : Nat) : Int)] (fun w => True) (fun w r w' => r = some (vi ((49 + 7 * (24 * s + i) : Nat) : Int)) ∧ w' = w) := by
  refine Ctr.of (t := tX11_outAt) (lv0 := [some (vi ((s : Nat) : Int)), some (vi ((i : Nat) : Int))]) (by decide +kernel) tX11_outAt_ok rfl rfl (fun w g hP M => ?_)
  refine M.run 9 (pc' := 12) (lv' := [some (vi ((s : Nat) : Int)), some (vi ((i : Nat) : Int))]) (st' := [vi (49 + (7 * ((24 * ((s : Nat) : Int)) + ((i : Nat) : Int))))]) rfl ?_
  exact M.iret rfl (Nat.zero_le _) (Nat.zero_le _) ⟨by congr 2, rfl⟩
set_option maxHeartbeats 4000000 in
set_option maxRecDepth 100000 in
theorem kX11_timerAt (l : Launch) (G : GT) (i : Nat) (hi : i < 100000) : Ctr l G yX11_timerAt cX11_timerAt 1 ((Option.some Jvm.ClassFile.FieldType.int)) 1 0 0 [vi ((i : Nat) : Int)] (fun w => True) (fun w r w' => r = some (vi ((817 + 9 * i : Nat) : Int)) ∧ w' = w) := by
  refine Ctr.of (t := tX11_timerAt) (lv0 := [some (vi ((i : Nat) : Int))]) (by decide +kernel) tX11_timerAt_ok rfl rfl (fun w g hP M => ?_)
  refine M.run 5 (pc' := 8) (lv' := [some (vi ((i : Nat) : Int))]) (st' := [vi (817 + (9 * ((i : Nat) : Int)))]) rfl ?_
  exact M.iret rfl (Nat.zero_le _) (Nat.zero_le _) ⟨by congr 2, rfl⟩
set_option maxHeartbeats 4000000 in
set_option maxRecDepth 100000 in
theorem kX11_flightAt (l : Launch) (G : GT) (i : Nat) (hi : i < 100000) : Ctr l G yX11_flightAt cX11_flightAt 1 ((Option.some Jvm.ClassFile.FieldType.int)) 1 0 0 [vi ((i : Nat) : Int)] (fun w => True) (fun w r w' => r = some (vi ((385 + 9 * i : Nat) : Int)) ∧ w' = w) := by
  refine Ctr.of (t := tX11_flightAt) (lv0 := [some (vi ((i : Nat) : Int))]) (by decide +kernel) tX11_flightAt_ok rfl rfl (fun w g hP M => ?_)
  refine M.run 5 (pc' := 8) (lv' := [some (vi ((i : Nat) : Int))]) (st' := [vi (385 + (9 * ((i : Nat) : Int)))]) rfl ?_
  exact M.iret rfl (Nat.zero_le _) (Nat.zero_le _) ⟨by congr 2, rfl⟩
set_option maxHeartbeats 4000000 in
set_option maxRecDepth 100000 in
theorem eX11_put (l : Launch) (G : GT) (o : Nat) (am : Nat → Nat) (u a0 : Nat → Int) (b0 : Nat → Nat → Int) (D : Dy) (n : Int) (ht : Tok a0) (hd : Dok n D) (hn : 0 ≤ n ∧ n ≤ 900000000) (s : Nat) (hs : s < 2) (kind c serial f t claims tried : Int) : Ctr l G yX11_put cX11_put 10 ((Option.some Jvm.ClassFile.FieldType.int)) 2 0 0 [vr o, vi ((s : Nat) : Int), vi kind, vi c, vi serial, vi f, vi t, vi claims, vi tried] (fun w => isE o am u a0 b0 D w) (fun w r w' => r = some (vi (if (D.2.1 s).length = 24 then 0 else 1)) ∧ isE o am u a0 b0 (mPut s (rwM kind c serial f t claims tried) D) w') := by
  refine Ctr.of (t := tX11_put) (lv0 := [some (vr o), some (vi ((s : Nat) : Int)), some (vi kind), some (vi c), some (vi serial), some (vi f), some (vi t), some (vi claims), some (vi tried), none]) (by decide +kernel) tX11_put_ok rfl rfl (fun w g hP M => ?_)
  obtain ⟨a, b, hM, hR, hF, hB⟩ := hP
  have hk_l_s := Dok_l hd (s := s) (by omega)
  refine M.run 1 (pc' := 1) (lv' := [some (vr o), some (vi ((s : Nat) : Int)), some (vi kind), some (vi c), some (vi serial), some (vi f), some (vi t), some (vi claims), some (vi tried), none]) (st' := [vr o]) rfl ?_
  refine M.get fl_X11_7 rfl (isM_o hM) (kf := 0) (v := vr (am 0)) rfl ?_
  refine M.run 3 (pc' := 8) (lv' := [some (vr o), some (vi ((s : Nat) : Int)), some (vi kind), some (vi c), some (vi serial), some (vi f), some (vi t), some (vi claims), some (vi tried), none]) (st' := [vi (24 + ((s : Nat) : Int)), vr (am 0)]) rfl ?_
  refine M.ialdN (24 + s) rfl (isM_a hM) (by omega) (by decide) ?_
  rw [show a (24 + s) = (((D.2.1 s).length : Nat) : Int) from Rp_l hR (s := s) (by omega)]
  refine M.run 1 (pc' := 11) (lv' := [some (vr o), some (vi ((s : Nat) : Int)), some (vi kind), some (vi c), some (vi serial), some (vi f), some (vi t), some (vi claims), some (vi tried), none]) (st' := [vi 24, vi (((D.2.1 s).length : Nat) : Int)]) rfl ?_
  refine M.icmp_ne (tgt := 16) rfl (qI (by omega)) (qI (by decide)) (by decide) (fun h11 => ?_) (fun h11 => ?_)
  · skip
    refine M.run 2 (pc' := 18) (lv' := [some (vr o), some (vi ((s : Nat) : Int)), some (vi kind), some (vi c), some (vi serial), some (vi f), some (vi t), some (vi claims), some (vi tried), none]) (st' := [vr o, vi ((s : Nat) : Int)]) rfl ?_
    refine M.get fl_X11_7 rfl (isM_o hM) (kf := 0) (v := vr (am 0)) rfl ?_
    refine M.run 3 (pc' := 25) (lv' := [some (vr o), some (vi ((s : Nat) : Int)), some (vi kind), some (vi c), some (vi serial), some (vi f), some (vi t), some (vi claims), some (vi tried), none]) (st' := [vi (24 + ((s : Nat) : Int)), vr (am 0), vi ((s : Nat) : Int)]) rfl ?_
    refine M.ialdN (24 + s) rfl (isM_a hM) (by omega) (by decide) ?_
    rw [show a (24 + s) = (((D.2.1 s).length : Nat) : Int) from Rp_l hR (s := s) (by omega)]
    refine M.callS (kX11_outAt l G s ((D.2.1 s).length) (by omega) (by omega)) cs_X11_292 cd_X11_outAt rfl (st := []) rfl (by decide) (by decide) rfl (Nat.zero_le _) (Nat.zero_le _) trivial (fun r1 w2 q3 => ?_)
    rw [q3.1, q3.2]
    refine M.run 2 (pc' := 32) (lv' := [some (vr o), some (vi ((s : Nat) : Int)), some (vi kind), some (vi c), some (vi serial), some (vi f), some (vi t), some (vi claims), some (vi tried), some (vi ((49 + 7 * (24 * s + ((D.2.1 s).length)) : Nat) : Int))]) (st' := [vr o]) rfl ?_
    refine M.get fl_X11_7 rfl (isM_o hM) (kf := 0) (v := vr (am 0)) rfl ?_
    refine M.run 4 (pc' := 40) (lv' := [some (vr o), some (vi ((s : Nat) : Int)), some (vi kind), some (vi c), some (vi serial), some (vi f), some (vi t), some (vi claims), some (vi tried), some (vi ((49 + 7 * (24 * s + ((D.2.1 s).length)) : Nat) : Int))]) (st' := [vi kind, vi (((49 + 7 * (24 * s + ((D.2.1 s).length)) : Nat) : Int) + 0), vr (am 0)]) rfl ?_
    refine M.iastN (49 + 7 * (24 * s + ((D.2.1 s).length)) + 0) rfl (isM_a hM) (by omega) (by decide) ?_
    have hM6 := isM_setA hM (uN a (49 + 7 * (24 * s + ((D.2.1 s).length)) + 0) kind)
    generalize up w (am 0) (Ar 0 30042 (uN a (49 + 7 * (24 * s + ((D.2.1 s).length)) + 0) kind)) = w5 at hM6 ⊢
    refine M.run 1 (pc' := 42) (lv' := [some (vr o), some (vi ((s : Nat) : Int)), some (vi kind), some (vi c), some (vi serial), some (vi f), some (vi t), some (vi claims), some (vi tried), some (vi ((49 + 7 * (24 * s + ((D.2.1 s).length)) : Nat) : Int))]) (st' := [vr o]) rfl ?_
    refine M.get fl_X11_7 rfl (isM_o hM6) (kf := 0) (v := vr (am 0)) rfl ?_
    refine M.run 4 (pc' := 50) (lv' := [some (vr o), some (vi ((s : Nat) : Int)), some (vi kind), some (vi c), some (vi serial), some (vi f), some (vi t), some (vi claims), some (vi tried), some (vi ((49 + 7 * (24 * s + ((D.2.1 s).length)) : Nat) : Int))]) (st' := [vi c, vi (((49 + 7 * (24 * s + ((D.2.1 s).length)) : Nat) : Int) + 1), vr (am 0)]) rfl ?_
    refine M.iastN (49 + 7 * (24 * s + ((D.2.1 s).length)) + 1) rfl (isM_a hM6) (by omega) (by decide) ?_
    have hM8 := isM_setA hM6 (uN (uN a (49 + 7 * (24 * s + ((D.2.1 s).length)) + 0) kind) (49 + 7 * (24 * s + ((D.2.1 s).length)) + 1) c)
    generalize up w5 (am 0) (Ar 0 30042 (uN (uN a (49 + 7 * (24 * s + ((D.2.1 s).length)) + 0) kind) (49 + 7 * (24 * s + ((D.2.1 s).length)) + 1) c)) = w7 at hM8 ⊢
    refine M.run 1 (pc' := 52) (lv' := [some (vr o), some (vi ((s : Nat) : Int)), some (vi kind), some (vi c), some (vi serial), some (vi f), some (vi t), some (vi claims), some (vi tried), some (vi ((49 + 7 * (24 * s + ((D.2.1 s).length)) : Nat) : Int))]) (st' := [vr o]) rfl ?_
    refine M.get fl_X11_7 rfl (isM_o hM8) (kf := 0) (v := vr (am 0)) rfl ?_
    refine M.run 4 (pc' := 61) (lv' := [some (vr o), some (vi ((s : Nat) : Int)), some (vi kind), some (vi c), some (vi serial), some (vi f), some (vi t), some (vi claims), some (vi tried), some (vi ((49 + 7 * (24 * s + ((D.2.1 s).length)) : Nat) : Int))]) (st' := [vi serial, vi (((49 + 7 * (24 * s + ((D.2.1 s).length)) : Nat) : Int) + 2), vr (am 0)]) rfl ?_
    refine M.iastN (49 + 7 * (24 * s + ((D.2.1 s).length)) + 2) rfl (isM_a hM8) (by omega) (by decide) ?_
    have hM10 := isM_setA hM8 (uN (uN (uN a (49 + 7 * (24 * s + ((D.2.1 s).length)) + 0) kind) (49 + 7 * (24 * s + ((D.2.1 s).length)) + 1) c) (49 + 7 * (24 * s + ((D.2.1 s).length)) + 2) serial)
    generalize up w7 (am 0) (Ar 0 30042 (uN (uN (uN a (49 + 7 * (24 * s + ((D.2.1 s).length)) + 0) kind) (49 + 7 * (24 * s + ((D.2.1 s).length)) + 1) c) (49 + 7 * (24 * s + ((D.2.1 s).length)) + 2) serial)) = w9 at hM10 ⊢
    refine M.run 1 (pc' := 63) (lv' := [some (vr o), some (vi ((s : Nat) : Int)), some (vi kind), some (vi c), some (vi serial), some (vi f), some (vi t), some (vi claims), some (vi tried), some (vi ((49 + 7 * (24 * s + ((D.2.1 s).length)) : Nat) : Int))]) (st' := [vr o]) rfl ?_
    refine M.get fl_X11_7 rfl (isM_o hM10) (kf := 0) (v := vr (am 0)) rfl ?_
    refine M.run 4 (pc' := 72) (lv' := [some (vr o), some (vi ((s : Nat) : Int)), some (vi kind), some (vi c), some (vi serial), some (vi f), some (vi t), some (vi claims), some (vi tried), some (vi ((49 + 7 * (24 * s + ((D.2.1 s).length)) : Nat) : Int))]) (st' := [vi f, vi (((49 + 7 * (24 * s + ((D.2.1 s).length)) : Nat) : Int) + 3), vr (am 0)]) rfl ?_
    refine M.iastN (49 + 7 * (24 * s + ((D.2.1 s).length)) + 3) rfl (isM_a hM10) (by omega) (by decide) ?_
    have hM12 := isM_setA hM10 (uN (uN (uN (uN a (49 + 7 * (24 * s + ((D.2.1 s).length)) + 0) kind) (49 + 7 * (24 * s + ((D.2.1 s).length)) + 1) c) (49 + 7 * (24 * s + ((D.2.1 s).length)) + 2) serial) (49 + 7 * (24 * s + ((D.2.1 s).length)) + 3) f)
    generalize up w9 (am 0) (Ar 0 30042 (uN (uN (uN (uN a (49 + 7 * (24 * s + ((D.2.1 s).length)) + 0) kind) (49 + 7 * (24 * s + ((D.2.1 s).length)) + 1) c) (49 + 7 * (24 * s + ((D.2.1 s).length)) + 2) serial) (49 + 7 * (24 * s + ((D.2.1 s).length)) + 3) f)) = w11 at hM12 ⊢
    refine M.run 1 (pc' := 74) (lv' := [some (vr o), some (vi ((s : Nat) : Int)), some (vi kind), some (vi c), some (vi serial), some (vi f), some (vi t), some (vi claims), some (vi tried), some (vi ((49 + 7 * (24 * s + ((D.2.1 s).length)) : Nat) : Int))]) (st' := [vr o]) rfl ?_
    refine M.get fl_X11_7 rfl (isM_o hM12) (kf := 0) (v := vr (am 0)) rfl ?_
    refine M.run 4 (pc' := 83) (lv' := [some (vr o), some (vi ((s : Nat) : Int)), some (vi kind), some (vi c), some (vi serial), some (vi f), some (vi t), some (vi claims), some (vi tried), some (vi ((49 + 7 * (24 * s + ((D.2.1 s).length)) : Nat) : Int))]) (st' := [vi t, vi (((49 + 7 * (24 * s + ((D.2.1 s).length)) : Nat) : Int) + 4), vr (am 0)]) rfl ?_
    refine M.iastN (49 + 7 * (24 * s + ((D.2.1 s).length)) + 4) rfl (isM_a hM12) (by omega) (by decide) ?_
    have hM14 := isM_setA hM12 (uN (uN (uN (uN (uN a (49 + 7 * (24 * s + ((D.2.1 s).length)) + 0) kind) (49 + 7 * (24 * s + ((D.2.1 s).length)) + 1) c) (49 + 7 * (24 * s + ((D.2.1 s).length)) + 2) serial) (49 + 7 * (24 * s + ((D.2.1 s).length)) + 3) f) (49 + 7 * (24 * s + ((D.2.1 s).length)) + 4) t)
    generalize up w11 (am 0) (Ar 0 30042 (uN (uN (uN (uN (uN a (49 + 7 * (24 * s + ((D.2.1 s).length)) + 0) kind) (49 + 7 * (24 * s + ((D.2.1 s).length)) + 1) c) (49 + 7 * (24 * s + ((D.2.1 s).length)) + 2) serial) (49 + 7 * (24 * s + ((D.2.1 s).length)) + 3) f) (49 + 7 * (24 * s + ((D.2.1 s).length)) + 4) t)) = w13 at hM14 ⊢
    refine M.run 1 (pc' := 85) (lv' := [some (vr o), some (vi ((s : Nat) : Int)), some (vi kind), some (vi c), some (vi serial), some (vi f), some (vi t), some (vi claims), some (vi tried), some (vi ((49 + 7 * (24 * s + ((D.2.1 s).length)) : Nat) : Int))]) (st' := [vr o]) rfl ?_
    refine M.get fl_X11_7 rfl (isM_o hM14) (kf := 0) (v := vr (am 0)) rfl ?_
    refine M.run 4 (pc' := 94) (lv' := [some (vr o), some (vi ((s : Nat) : Int)), some (vi kind), some (vi c), some (vi serial), some (vi f), some (vi t), some (vi claims), some (vi tried), some (vi ((49 + 7 * (24 * s + ((D.2.1 s).length)) : Nat) : Int))]) (st' := [vi claims, vi (((49 + 7 * (24 * s + ((D.2.1 s).length)) : Nat) : Int) + 5), vr (am 0)]) rfl ?_
    refine M.iastN (49 + 7 * (24 * s + ((D.2.1 s).length)) + 5) rfl (isM_a hM14) (by omega) (by decide) ?_
    have hM16 := isM_setA hM14 (uN (uN (uN (uN (uN (uN a (49 + 7 * (24 * s + ((D.2.1 s).length)) + 0) kind) (49 + 7 * (24 * s + ((D.2.1 s).length)) + 1) c) (49 + 7 * (24 * s + ((D.2.1 s).length)) + 2) serial) (49 + 7 * (24 * s + ((D.2.1 s).length)) + 3) f) (49 + 7 * (24 * s + ((D.2.1 s).length)) + 4) t) (49 + 7 * (24 * s + ((D.2.1 s).length)) + 5) claims)
    generalize up w13 (am 0) (Ar 0 30042 (uN (uN (uN (uN (uN (uN a (49 + 7 * (24 * s + ((D.2.1 s).length)) + 0) kind) (49 + 7 * (24 * s + ((D.2.1 s).length)) + 1) c) (49 + 7 * (24 * s + ((D.2.1 s).length)) + 2) serial) (49 + 7 * (24 * s + ((D.2.1 s).length)) + 3) f) (49 + 7 * (24 * s + ((D.2.1 s).length)) + 4) t) (49 + 7 * (24 * s + ((D.2.1 s).length)) + 5) claims)) = w15 at hM16 ⊢
    refine M.run 1 (pc' := 96) (lv' := [some (vr o), some (vi ((s : Nat) : Int)), some (vi kind), some (vi c), some (vi serial), some (vi f), some (vi t), some (vi claims), some (vi tried), some (vi ((49 + 7 * (24 * s + ((D.2.1 s).length)) : Nat) : Int))]) (st' := [vr o]) rfl ?_
    refine M.get fl_X11_7 rfl (isM_o hM16) (kf := 0) (v := vr (am 0)) rfl ?_
    refine M.run 4 (pc' := 106) (lv' := [some (vr o), some (vi ((s : Nat) : Int)), some (vi kind), some (vi c), some (vi serial), some (vi f), some (vi t), some (vi claims), some (vi tried), some (vi ((49 + 7 * (24 * s + ((D.2.1 s).length)) : Nat) : Int))]) (st' := [vi tried, vi (((49 + 7 * (24 * s + ((D.2.1 s).length)) : Nat) : Int) + 6), vr (am 0)]) rfl ?_
    refine M.iastN (49 + 7 * (24 * s + ((D.2.1 s).length)) + 6) rfl (isM_a hM16) (by omega) (by decide) ?_
    have hM18 := isM_setA hM16 (uN (uN (uN (uN (uN (uN (uN a (49 + 7 * (24 * s + ((D.2.1 s).length)) + 0) kind) (49 + 7 * (24 * s + ((D.2.1 s).length)) + 1) c) (49 + 7 * (24 * s + ((D.2.1 s).length)) + 2) serial) (49 + 7 * (24 * s + ((D.2.1 s).length)) + 3) f) (49 + 7 * (24 * s + ((D.2.1 s).length)) + 4) t) (49 + 7 * (24 * s + ((D.2.1 s).length)) + 5) claims) (49 + 7 * (24 * s + ((D.2.1 s).length)) + 6) tried)
    generalize up w15 (am 0) (Ar 0 30042 (uN (uN (uN (uN (uN (uN (uN a (49 + 7 * (24 * s + ((D.2.1 s).length)) + 0) kind) (49 + 7 * (24 * s + ((D.2.1 s).length)) + 1) c) (49 + 7 * (24 * s + ((D.2.1 s).length)) + 2) serial) (49 + 7 * (24 * s + ((D.2.1 s).length)) + 3) f) (49 + 7 * (24 * s + ((D.2.1 s).length)) + 4) t) (49 + 7 * (24 * s + ((D.2.1 s).length)) + 5) claims) (49 + 7 * (24 * s + ((D.2.1 s).length)) + 6) tried)) = w17 at hM18 ⊢
    refine M.run 1 (pc' := 108) (lv' := [some (vr o), some (vi ((s : Nat) : Int)), some (vi kind), some (vi c), some (vi serial), some (vi f), some (vi t), some (vi claims), some (vi tried), some (vi ((49 + 7 * (24 * s + ((D.2.1 s).length)) : Nat) : Int))]) (st' := [vr o]) rfl ?_
    refine M.get fl_X11_7 rfl (isM_o hM18) (kf := 0) (v := vr (am 0)) rfl ?_
    refine M.run 4 (pc' := 116) (lv' := [some (vr o), some (vi ((s : Nat) : Int)), some (vi kind), some (vi c), some (vi serial), some (vi f), some (vi t), some (vi claims), some (vi tried), some (vi ((49 + 7 * (24 * s + ((D.2.1 s).length)) : Nat) : Int))]) (st' := [vi (24 + ((s : Nat) : Int)), vr (am 0), vi (24 + ((s : Nat) : Int)), vr (am 0)]) rfl ?_
    refine M.ialdN (24 + s) rfl (isM_a hM18) (by omega) (by decide) ?_
    rw [show (uN (uN (uN (uN (uN (uN (uN a (49 + 7 * (24 * s + ((D.2.1 s).length)) + 0) kind) (49 + 7 * (24 * s + ((D.2.1 s).length)) + 1) c) (49 + 7 * (24 * s + ((D.2.1 s).length)) + 2) serial) (49 + 7 * (24 * s + ((D.2.1 s).length)) + 3) f) (49 + 7 * (24 * s + ((D.2.1 s).length)) + 4) t) (49 + 7 * (24 * s + ((D.2.1 s).length)) + 5) claims) (49 + 7 * (24 * s + ((D.2.1 s).length)) + 6) tried) (24 + s) = (((D.2.1 s).length : Nat) : Int) from (((((((uN_o (by omega)).trans (uN_o (by omega))).trans (uN_o (by omega))).trans (uN_o (by omega))).trans (uN_o (by omega))).trans (uN_o (by omega))).trans (uN_o (by omega))).trans (Rp_l hR (s := s) (by omega))]
    refine M.run 2 (pc' := 119) (lv' := [some (vr o), some (vi ((s : Nat) : Int)), some (vi kind), some (vi c), some (vi serial), some (vi f), some (vi t), some (vi claims), some (vi tried), some (vi ((49 + 7 * (24 * s + ((D.2.1 s).length)) : Nat) : Int))]) (st' := [vi ((((D.2.1 s).length : Nat) : Int) + 1), vi (24 + ((s : Nat) : Int)), vr (am 0)]) rfl ?_
    refine M.iastN (24 + s) rfl (isM_a hM18) (by omega) (by decide) ?_
    have hM20 := isM_setA hM18 (uN (uN (uN (uN (uN (uN (uN (uN a (49 + 7 * (24 * s + ((D.2.1 s).length)) + 0) kind) (49 + 7 * (24 * s + ((D.2.1 s).length)) + 1) c) (49 + 7 * (24 * s + ((D.2.1 s).length)) + 2) serial) (49 + 7 * (24 * s + ((D.2.1 s).length)) + 3) f) (49 + 7 * (24 * s + ((D.2.1 s).length)) + 4) t) (49 + 7 * (24 * s + ((D.2.1 s).length)) + 5) claims) (49 + 7 * (24 * s + ((D.2.1 s).length)) + 6) tried) (24 + s) ((((D.2.1 s).length : Nat) : Int) + 1))
    generalize up w17 (am 0) (Ar 0 30042 (uN (uN (uN (uN (uN (uN (uN (uN a (49 + 7 * (24 * s + ((D.2.1 s).length)) + 0) kind) (49 + 7 * (24 * s + ((D.2.1 s).length)) + 1) c) (49 + 7 * (24 * s + ((D.2.1 s).length)) + 2) serial) (49 + 7 * (24 * s + ((D.2.1 s).length)) + 3) f) (49 + 7 * (24 * s + ((D.2.1 s).length)) + 4) t) (49 + 7 * (24 * s + ((D.2.1 s).length)) + 5) claims) (49 + 7 * (24 * s + ((D.2.1 s).length)) + 6) tried) (24 + s) ((((D.2.1 s).length : Nat) : Int) + 1))) = w19 at hM20 ⊢
    refine M.run 1 (pc' := 121) (lv' := [some (vr o), some (vi ((s : Nat) : Int)), some (vi kind), some (vi c), some (vi serial), some (vi f), some (vi t), some (vi claims), some (vi tried), some (vi ((49 + 7 * (24 * s + ((D.2.1 s).length)) : Nat) : Int))]) (st' := [vi 1]) rfl ?_
    exact M.iret rfl (Nat.zero_le _) (Nat.zero_le _) (by
        obtain ⟨p1, p2, p3⟩ := put7 (f := a) (x := 49 + 7 * (24 * s + (D.2.1 s).length)) (c := 24 + s) (v0 := kind) (v1 := c) (v2 := serial) (v3 := f) (v4 := t) (v5 := claims) (v6 := tried) (v := ((D.2.1 s).length : Nat) + 1) (by omega)
        refine ⟨by rw [if_neg (by omega)], _, b, hM20, ?_, fun q hq => ?_, hB⟩
        · unfold mPut
          rw [if_neg (by omega)]
          refine Rp_ul hR hs (fun s hs => Dok_l hd hs) (fun j j1 j2 => p3 j j1 (by omega)) ?_ (fun i k hi hk => ?_)
          · rw [p2, List.length_append]; rfl
          · rw [List.length_append] at hi
            by_cases e : i < (D.2.1 s).length
            · rw [gR_app e, p3 _ (by omega) (by omega)]; exact Rp_lr hR hs e hk
            · have hi2 : i < (D.2.1 s).length + 1 := hi
              have : i = (D.2.1 s).length := by omega
              subst this
              rw [gR_last, ← p1 k hk]; congr 1; omega
        · rw [p3 _ (by omega) (by omega)]; exact hF q hq)
  · skip
    refine M.run 1 (pc' := 15) (lv' := [some (vr o), some (vi ((s : Nat) : Int)), some (vi kind), some (vi c), some (vi serial), some (vi f), some (vi t), some (vi claims), some (vi tried), none]) (st' := [vi 0]) rfl ?_
    exact M.iret rfl (Nat.zero_le _) (Nat.zero_le _) ⟨by rw [if_pos (by omega)], a, b, hM, by unfold mPut; rw [if_pos (by omega)]; exact hR, hF, hB⟩
set_option maxHeartbeats 4000000 in
set_option maxRecDepth 100000 in
theorem eX11_takeOut (l : Launch) (G : GT) (o : Nat) (am : Nat → Nat) (u a0 : Nat → Int) (b0 : Nat → Nat → Int) (D : Dy) (n : Int) (ht : Tok a0) (hd : Dok n D) (hn : 0 ≤ n ∧ n ≤ 900000000) (s : Nat) (hs : s < 2) (i : Nat) (hi : i < (D.2.1 s).length) : Ctr l G yX11_takeOut cX11_takeOut 4 ((Option.none : Option Jvm.ClassFile.FieldType)) 2 0 0 [vr o, vi ((s : Nat) : Int), vi ((i : Nat) : Int)] (fun w => isE o am u a0 b0 D w) (fun w r w' => r = none ∧ isE o am u a0 b0 (D.1, lsS D.2.1 s ((D.2.1 s).eraseIdx i), D.2.2) w') := by
  refine Ctr.of (t := tX11_takeOut) (lv0 := [some (vr o), some (vi ((s : Nat) : Int)), some (vi ((i : Nat) : Int)), none]) (by decide +kernel) tX11_takeOut_ok rfl rfl (fun w g hP M => ?_)
  obtain ⟨a, b, hM, hR, hF, hB⟩ := hP
  have hk_f := Dok_f hd
  have hk_t := Dok_t hd
  have hk_b := Dok_b hd
  have hl0 := Dok_l hd (s := 0) (by omega)
  have hl1 := Dok_l hd (s := 1) (by omega)
  refine M.run 1 (pc' := 1) (lv' := [some (vr o), some (vi ((s : Nat) : Int)), some (vi ((i : Nat) : Int)), none]) (st' := [vr o]) rfl ?_
  refine M.get fl_X11_7 rfl (isM_o hM) (kf := 0) (v := vr (am 0)) rfl ?_
  refine M.run 4 (pc' := 9) (lv' := [some (vr o), some (vi ((s : Nat) : Int)), some (vi ((i : Nat) : Int)), none]) (st' := [vi (24 + ((s : Nat) : Int)), vr (am 0), vi (24 + ((s : Nat) : Int)), vr (am 0)]) rfl ?_
  refine M.ialdN (24 + s) rfl (isM_a hM) (by omega) (by decide) ?_
  rw [show a (24 + s) = (((D.2.1 s).length : Nat) : Int) from Rp_l hR (s := s) (by omega)]
  refine M.run 2 (pc' := 12) (lv' := [some (vr o), some (vi ((s : Nat) : Int)), some (vi ((i : Nat) : Int)), none]) (st' := [vi ((((D.2.1 s).length : Nat) : Int) - 1), vi (24 + ((s : Nat) : Int)), vr (am 0)]) rfl ?_
  rw [show ((((D.2.1 s).length : Nat) : Int) - 1) = (((D.2.1 s).length - 1 : Nat) : Int) by omega]
  refine M.iastN (24 + s) rfl (isM_a hM) (by omega) (by decide) ?_
  have hM2 := isM_setA hM (uN a (24 + s) (((D.2.1 s).length - 1 : Nat) : Int))
  generalize up w (am 0) (Ar 0 30042 (uN a (24 + s) (((D.2.1 s).length - 1 : Nat) : Int))) = w1 at hM2 ⊢
  have hls := Dok_l hd hs
  refine M.run 2 (pc' := 15) (lv' := [some (vr o), some (vi ((s : Nat) : Int)), some (vi ((i : Nat) : Int)), none]) (st' := [vi ((i : Nat) : Int), vi ((s : Nat) : Int)]) rfl ?_
  refine M.callS (kX11_outAt l G s i (by omega) (by omega)) cs_X11_292 cd_X11_outAt rfl (st := []) rfl (by decide) (by decide) rfl (Nat.zero_le _) (Nat.zero_le _) trivial (fun r3 w4 q5 => ?_)
  rw [q5.1, q5.2]
  refine M.run 1 (pc' := 19) (lv' := [some (vr o), some (vi ((s : Nat) : Int)), some (vi ((i : Nat) : Int)), some (vi ((49 + 7 * (24 * s + i) : Nat) : Int))]) (st' := []) rfl ?_
  have Lp19 : ∀ (N : Nat) (f : Nat → Int) (ww : Wo) (p : Nat), (isM o am u f b ww) → (shP (uN a (24 + s) (((D.2.1 s).length - 1 : Nat) : Int)) f (49 + 7 * (24 * s + i)) p 7) → (f (24 + s) = (((D.2.1 s).length - 1 : Nat) : Int)) → (49 + 7 * (24 * s + i) ≤ p) → (p ≤ 49 + 7 * (24 * s + ((D.2.1 s).length - 1))) → 49 + 7 * (24 * s + ((D.2.1 s).length - 1)) - p < N → g 0 0 ww 19 [some (vr o), some (vi ((s : Nat) : Int)), some (vi ((i : Nat) : Int)), some (vi ((p : Nat) : Int))] [] := by
    intro N
    induction N with
    | zero => intro f ww p _ _ _ _ _ hN; exact absurd hN (Nat.not_lt_zero _)
    | succ N ih19 =>
      intro f ww p hMf hsh hc hp1 hp2 hN
      refine M.run 3 (pc' := 22) (lv' := [some (vr o), some (vi ((s : Nat) : Int)), some (vi ((i : Nat) : Int)), some (vi ((p : Nat) : Int))]) (st' := [vr o, vi ((s : Nat) : Int), vi ((p : Nat) : Int)]) rfl ?_
      refine M.get fl_X11_7 rfl (isM_o hMf) (kf := 0) (v := vr (am 0)) rfl ?_
      refine M.run 3 (pc' := 29) (lv' := [some (vr o), some (vi ((s : Nat) : Int)), some (vi ((i : Nat) : Int)), some (vi ((p : Nat) : Int))]) (st' := [vi (24 + ((s : Nat) : Int)), vr (am 0), vi ((s : Nat) : Int), vi ((p : Nat) : Int)]) rfl ?_
      refine M.ialdN (24 + s) rfl (isM_a hMf) (by omega) (by decide) ?_
      rw [show f (24 + s) = (((D.2.1 s).length - 1 : Nat) : Int) from hc]
      refine M.callS (kX11_outAt l G s ((D.2.1 s).length - 1) (by omega) (by omega)) cs_X11_292 cd_X11_outAt rfl (st := [vi ((p : Nat) : Int)]) rfl (by decide) (by decide) rfl (Nat.zero_le _) (Nat.zero_le _) trivial (fun r7 w8 q9 => ?_)
      rw [q9.1, q9.2]
      refine M.icmp_ge (tgt := 57) rfl (qI (by omega)) (qI (by omega)) (by decide) (fun h33 => ?_) (fun h33 => ?_)
      · skip
        refine M.run 2 (pc' := 59) (lv' := [some (vr o), some (vi ((s : Nat) : Int)), some (vi ((i : Nat) : Int)), some (vi 0)]) (st' := []) rfl ?_
        have Lp59 : ∀ (N : Nat) (gg : Nat → Int) (wx : Wo) (k : Nat), (isM o am u gg b wx) → (∀ q : Nat, (q < 49 + 7 * (24 * s + ((D.2.1 s).length - 1)) ∨ 49 + 7 * (24 * s + ((D.2.1 s).length - 1)) + 7 ≤ q) → gg q = f q) → (gg (24 + s) = (((D.2.1 s).length - 1 : Nat) : Int)) → (k ≤ 7) → 7 - k < N → g 0 0 wx 59 [some (vr o), some (vi ((s : Nat) : Int)), some (vi ((i : Nat) : Int)), some (vi ((k : Nat) : Int))] [] := by
          intro N
          induction N with
          | zero => intro gg wx k _ _ _ _ hN; exact absurd hN (Nat.not_lt_zero _)
          | succ N ih59 =>
            intro gg wx k hMg hz hc2 hk7 hN
            refine M.run 2 (pc' := 62) (lv' := [some (vr o), some (vi ((s : Nat) : Int)), some (vi ((i : Nat) : Int)), some (vi ((k : Nat) : Int))]) (st' := [vi 7, vi ((k : Nat) : Int)]) rfl ?_
            refine M.icmp_ge (tgt := 92) rfl (qI (by omega)) (qI (by decide)) (by decide) (fun h62 => ?_) (fun h62 => ?_)
            · skip
              exact M.vret rfl (Nat.zero_le _) (Nat.zero_le _) (by
                  have hpe : p = 49 + 7 * (24 * s + ((D.2.1 s).length - 1)) := by omega
                  subst hpe
                  refine ⟨rfl, gg, b, hMg, ?_, fun q hq => ?_, hB⟩
                  · have hlen : ((D.2.1 s).eraseIdx i).length = (D.2.1 s).length - 1 := by rw [List.length_eraseIdx, if_pos hi]
                    refine Rp_ul hR hs (fun s hs => Dok_l hd hs) (fun j j1 j2 => ?_) (by rw [hc2, hlen]) (fun i2 k2 hi2 hk2 => ?_)
                    · rw [hz j (by omega), hsh j, if_neg (by omega), uN_o (by omega)]
                    · rw [hlen] at hi2
                      skip
                      by_cases e : i2 < i
                      · rw [gR_er_lt e, hz _ (by omega), hsh, if_neg (by omega), uN_o (by omega)]
                        exact Rp_lr hR hs (by omega) hk2
                      · rw [gR_er_ge (by omega), hz _ (by omega), hsh, if_pos (by omega), uN_o (by omega), ← Rp_lr hR hs (i := i2 + 1) (by omega) hk2]
                        congr 1; omega
                  · rw [hz q (by omega), hsh q, if_neg (by omega), uN_o (by omega)]; exact hF q hq)
            · skip
              refine M.run 1 (pc' := 66) (lv' := [some (vr o), some (vi ((s : Nat) : Int)), some (vi ((i : Nat) : Int)), some (vi ((k : Nat) : Int))]) (st' := [vr o]) rfl ?_
              refine M.get fl_X11_7 rfl (isM_o hMg) (kf := 0) (v := vr (am 0)) rfl ?_
              refine M.run 2 (pc' := 71) (lv' := [some (vr o), some (vi ((s : Nat) : Int)), some (vi ((i : Nat) : Int)), some (vi ((k : Nat) : Int))]) (st' := [vr o, vi ((s : Nat) : Int), vr (am 0)]) rfl ?_
              refine M.get fl_X11_7 rfl (isM_o hMg) (kf := 0) (v := vr (am 0)) rfl ?_
              refine M.run 3 (pc' := 78) (lv' := [some (vr o), some (vi ((s : Nat) : Int)), some (vi ((i : Nat) : Int)), some (vi ((k : Nat) : Int))]) (st' := [vi (24 + ((s : Nat) : Int)), vr (am 0), vi ((s : Nat) : Int), vr (am 0)]) rfl ?_
              refine M.ialdN (24 + s) rfl (isM_a hMg) (by omega) (by decide) ?_
              rw [show gg (24 + s) = (((D.2.1 s).length - 1 : Nat) : Int) from hc2]
              refine M.callS (kX11_outAt l G s ((D.2.1 s).length - 1) (by omega) (by omega)) cs_X11_292 cd_X11_outAt rfl (st := [vr (am 0)]) rfl (by decide) (by decide) rfl (Nat.zero_le _) (Nat.zero_le _) trivial (fun r11 w12 q13 => ?_)
              rw [q13.1, q13.2]
              refine M.run 3 (pc' := 85) (lv' := [some (vr o), some (vi ((s : Nat) : Int)), some (vi ((i : Nat) : Int)), some (vi ((k : Nat) : Int))]) (st' := [vi 0, vi (((49 + 7 * (24 * s + ((D.2.1 s).length - 1)) : Nat) : Int) + ((k : Nat) : Int)), vr (am 0)]) rfl ?_
              refine M.iastN (49 + 7 * (24 * s + ((D.2.1 s).length - 1)) + k) rfl (isM_a hMg) (by omega) (by decide) ?_
              have hM16 := isM_setA hMg (uN gg (49 + 7 * (24 * s + ((D.2.1 s).length - 1)) + k) 0)
              generalize up wx (am 0) (Ar 0 30042 (uN gg (49 + 7 * (24 * s + ((D.2.1 s).length - 1)) + k) 0)) = w15 at hM16 ⊢
              refine M.run 2 (pc' := 59) (lv' := [some (vr o), some (vi ((s : Nat) : Int)), some (vi ((i : Nat) : Int)), some (vi (((k : Nat) : Int) + 1))]) (st' := []) rfl ?_
              exact ih59 ((uN gg (49 + 7 * (24 * s + ((D.2.1 s).length - 1)) + k) 0)) w15 (k + 1) hM16 (fun q hq => by rw [uN_o (by omega)]; exact hz q hq) (by rw [uN_o (by omega)]; exact hc2) (by omega) (by omega)
        exact Lp59 _ f ww 0 hMf (fun _ _ => rfl) hc (by omega) (Nat.lt_succ_self _)
      · skip
        refine M.run 1 (pc' := 37) (lv' := [some (vr o), some (vi ((s : Nat) : Int)), some (vi ((i : Nat) : Int)), some (vi ((p : Nat) : Int))]) (st' := [vr o]) rfl ?_
        refine M.get fl_X11_7 rfl (isM_o hMf) (kf := 0) (v := vr (am 0)) rfl ?_
        refine M.run 2 (pc' := 42) (lv' := [some (vr o), some (vi ((s : Nat) : Int)), some (vi ((i : Nat) : Int)), some (vi ((p : Nat) : Int))]) (st' := [vr o, vi ((p : Nat) : Int), vr (am 0)]) rfl ?_
        refine M.get fl_X11_7 rfl (isM_o hMf) (kf := 0) (v := vr (am 0)) rfl ?_
        refine M.run 3 (pc' := 49) (lv' := [some (vr o), some (vi ((s : Nat) : Int)), some (vi ((i : Nat) : Int)), some (vi ((p : Nat) : Int))]) (st' := [vi (((p : Nat) : Int) + 7), vr (am 0), vi ((p : Nat) : Int), vr (am 0)]) rfl ?_
        refine M.ialdN (p + 7) rfl (isM_a hMf) (by omega) (by decide) ?_
        refine M.iastN (p) rfl (isM_a hMf) (by omega) (by decide) ?_
        have hM18 := isM_setA hMf (uN f p (f (p + 7)))
        generalize up ww (am 0) (Ar 0 30042 (uN f p (f (p + 7)))) = w17 at hM18 ⊢
        refine M.run 2 (pc' := 19) (lv' := [some (vr o), some (vi ((s : Nat) : Int)), some (vi ((i : Nat) : Int)), some (vi (((p : Nat) : Int) + 1))]) (st' := []) rfl ?_
        exact ih19 ((uN f p (f (p + 7)))) w17 (p + 1) hM18 (shP_s hsh hp1) (by rw [uN_o (by omega)]; exact hc) (by omega) (by omega) (by omega)
  exact Lp19 _ ((uN a (24 + s) (((D.2.1 s).length - 1 : Nat) : Int))) w1 (49 + 7 * (24 * s + i)) hM2 (shP_0 _ _ _) (uN_s _ _ _) (by omega) (by omega) (Nat.lt_succ_self _)
set_option maxHeartbeats 4000000 in
set_option maxRecDepth 100000 in
theorem eX11_takeTimer (l : Launch) (G : GT) (o : Nat) (am : Nat → Nat) (u a0 : Nat → Int) (b0 : Nat → Nat → Int) (D : Dy) (n : Int) (ht : Tok a0) (hd : Dok n D) (hn : 0 ≤ n ∧ n ≤ 900000000) (i : Nat) (hi : i < D.2.2.2.1.length) : Ctr l G yX11_takeTimer cX11_takeTimer 3 ((Option.none : Option Jvm.ClassFile.FieldType)) 2 0 0 [vr o, vi ((i : Nat) : Int)] (fun w => isE o am u a0 b0 D w) (fun w r w' => r = none ∧ isE o am u a0 b0 (D.1, D.2.1, D.2.2.1, D.2.2.2.1.eraseIdx i, D.2.2.2.2) w') := by
  refine Ctr.of (t := tX11_takeTimer) (lv0 := [some (vr o), some (vi ((i : Nat) : Int)), none]) (by decide +kernel) tX11_takeTimer_ok rfl rfl (fun w g hP M => ?_)
  obtain ⟨a, b, hM, hR, hF, hB⟩ := hP
  have hk_f := Dok_f hd
  have hk_t := Dok_t hd
  have hk_b := Dok_b hd
  have hl0 := Dok_l hd (s := 0) (by omega)
  have hl1 := Dok_l hd (s := 1) (by omega)
  refine M.run 1 (pc' := 1) (lv' := [some (vr o), some (vi ((i : Nat) : Int)), none]) (st' := [vr o]) rfl ?_
  refine M.get fl_X11_7 rfl (isM_o hM) (kf := 0) (v := vr (am 0)) rfl ?_
  refine M.run 2 (pc' := 7) (lv' := [some (vr o), some (vi ((i : Nat) : Int)), none]) (st' := [vi 27, vr (am 0), vi 27, vr (am 0)]) rfl ?_
  refine M.ialdN (27) rfl (isM_a hM) (by decide) (by decide) ?_
  rw [show a 27 = ((D.2.2.2.1.length : Nat) : Int) from Rp_t hR]
  refine M.run 2 (pc' := 10) (lv' := [some (vr o), some (vi ((i : Nat) : Int)), none]) (st' := [vi (((D.2.2.2.1.length : Nat) : Int) - 1), vi 27, vr (am 0)]) rfl ?_
  rw [show (((D.2.2.2.1.length : Nat) : Int) - 1) = ((D.2.2.2.1.length - 1 : Nat) : Int) by omega]
  refine M.iastN (27) rfl (isM_a hM) (by decide) (by decide) ?_
  have hM2 := isM_setA hM (uN a 27 ((D.2.2.2.1.length - 1 : Nat) : Int))
  generalize up w (am 0) (Ar 0 30042 (uN a 27 ((D.2.2.2.1.length - 1 : Nat) : Int))) = w1 at hM2 ⊢
  refine M.run 1 (pc' := 12) (lv' := [some (vr o), some (vi ((i : Nat) : Int)), none]) (st' := [vi ((i : Nat) : Int)]) rfl ?_
  refine M.callS (kX11_timerAt l G i (by omega)) cs_X11_295 cd_X11_timerAt rfl (st := []) rfl (by decide) (by decide) rfl (Nat.zero_le _) (Nat.zero_le _) trivial (fun r3 w4 q5 => ?_)
  rw [q5.1, q5.2]
  refine M.run 1 (pc' := 16) (lv' := [some (vr o), some (vi ((i : Nat) : Int)), some (vi ((817 + 9 * i : Nat) : Int))]) (st' := []) rfl ?_
  have Lp16 : ∀ (N : Nat) (f : Nat → Int) (ww : Wo) (p : Nat), (isM o am u f b ww) → (shP (uN a (27) ((D.2.2.2.1.length - 1 : Nat) : Int)) f (817 + 9 * i) p 9) → (f (27) = ((D.2.2.2.1.length - 1 : Nat) : Int)) → (817 + 9 * i ≤ p) → (p ≤ 817 + 9 * (D.2.2.2.1.length - 1)) → 817 + 9 * (D.2.2.2.1.length - 1) - p < N → g 0 0 ww 16 [some (vr o), some (vi ((i : Nat) : Int)), some (vi ((p : Nat) : Int))] [] := by
    intro N
    induction N with
    | zero => intro f ww p _ _ _ _ _ hN; exact absurd hN (Nat.not_lt_zero _)
    | succ N ih16 =>
      intro f ww p hMf hsh hc hp1 hp2 hN
      refine M.run 2 (pc' := 18) (lv' := [some (vr o), some (vi ((i : Nat) : Int)), some (vi ((p : Nat) : Int))]) (st' := [vr o, vi ((p : Nat) : Int)]) rfl ?_
      refine M.get fl_X11_7 rfl (isM_o hMf) (kf := 0) (v := vr (am 0)) rfl ?_
      refine M.run 1 (pc' := 23) (lv' := [some (vr o), some (vi ((i : Nat) : Int)), some (vi ((p : Nat) : Int))]) (st' := [vi 27, vr (am 0), vi ((p : Nat) : Int)]) rfl ?_
      refine M.ialdN (27) rfl (isM_a hMf) (by decide) (by decide) ?_
      rw [show f 27 = ((D.2.2.2.1.length - 1 : Nat) : Int) from hc]
      refine M.callS (kX11_timerAt l G (D.2.2.2.1.length - 1) (by omega)) cs_X11_295 cd_X11_timerAt rfl (st := [vi ((p : Nat) : Int)]) rfl (by decide) (by decide) rfl (Nat.zero_le _) (Nat.zero_le _) trivial (fun r7 w8 q9 => ?_)
      rw [q9.1, q9.2]
      refine M.icmp_ge (tgt := 51) rfl (qI (by omega)) (qI (by omega)) (by decide) (fun h27 => ?_) (fun h27 => ?_)
      · skip
        refine M.run 2 (pc' := 53) (lv' := [some (vr o), some (vi ((i : Nat) : Int)), some (vi 0)]) (st' := []) rfl ?_
        have Lp53 : ∀ (N : Nat) (gg : Nat → Int) (wx : Wo) (k : Nat), (isM o am u gg b wx) → (∀ q : Nat, (q < 817 + 9 * (D.2.2.2.1.length - 1) ∨ 817 + 9 * (D.2.2.2.1.length - 1) + 9 ≤ q) → gg q = f q) → (gg (27) = ((D.2.2.2.1.length - 1 : Nat) : Int)) → (k ≤ 9) → 9 - k < N → g 0 0 wx 53 [some (vr o), some (vi ((i : Nat) : Int)), some (vi ((k : Nat) : Int))] [] := by
          intro N
          induction N with
          | zero => intro gg wx k _ _ _ _ hN; exact absurd hN (Nat.not_lt_zero _)
          | succ N ih53 =>
            intro gg wx k hMg hz hc2 hk7 hN
            refine M.run 2 (pc' := 56) (lv' := [some (vr o), some (vi ((i : Nat) : Int)), some (vi ((k : Nat) : Int))]) (st' := [vi 9, vi ((k : Nat) : Int)]) rfl ?_
            refine M.icmp_ge (tgt := 83) rfl (qI (by omega)) (qI (by decide)) (by decide) (fun h56 => ?_) (fun h56 => ?_)
            · skip
              exact M.vret rfl (Nat.zero_le _) (Nat.zero_le _) (by
                  have hpe : p = 817 + 9 * (D.2.2.2.1.length - 1) := by omega
                  subst hpe
                  refine ⟨rfl, gg, b, hMg, ?_, fun q hq => ?_, hB⟩
                  · have hlen : (D.2.2.2.1.eraseIdx i).length = D.2.2.2.1.length - 1 := by rw [List.length_eraseIdx, if_pos hi]
                    refine Rp_ut hR (fun s hs => Dok_l hd hs) (by omega) (fun j j1 j2 => ?_) (by rw [hc2, hlen]) (fun i2 k2 hi2 hk2 => ?_)
                    · rw [hz j (by omega), hsh j, if_neg (by omega), uN_o (by omega)]
                    · rw [hlen] at hi2
                      have ht9 := tpc_lt hk2
                      by_cases e : i2 < i
                      · rw [gR_er_lt e, hz _ (by omega), hsh, if_neg (by omega), uN_o (by omega)]
                        exact Rp_tr hR (by omega) hk2
                      · rw [gR_er_ge (by omega), hz _ (by omega), hsh, if_pos (by omega), uN_o (by omega), ← Rp_tr hR (i := i2 + 1) (by omega) hk2]
                        congr 1; omega
                  · rw [hz q (by omega), hsh q, if_neg (by omega), uN_o (by omega)]; exact hF q hq)
            · skip
              refine M.run 1 (pc' := 60) (lv' := [some (vr o), some (vi ((i : Nat) : Int)), some (vi ((k : Nat) : Int))]) (st' := [vr o]) rfl ?_
              refine M.get fl_X11_7 rfl (isM_o hMg) (kf := 0) (v := vr (am 0)) rfl ?_
              refine M.run 1 (pc' := 64) (lv' := [some (vr o), some (vi ((i : Nat) : Int)), some (vi ((k : Nat) : Int))]) (st' := [vr o, vr (am 0)]) rfl ?_
              refine M.get fl_X11_7 rfl (isM_o hMg) (kf := 0) (v := vr (am 0)) rfl ?_
              refine M.run 1 (pc' := 69) (lv' := [some (vr o), some (vi ((i : Nat) : Int)), some (vi ((k : Nat) : Int))]) (st' := [vi 27, vr (am 0), vr (am 0)]) rfl ?_
              refine M.ialdN (27) rfl (isM_a hMg) (by decide) (by decide) ?_
              rw [show gg 27 = ((D.2.2.2.1.length - 1 : Nat) : Int) from hc2]
              refine M.callS (kX11_timerAt l G (D.2.2.2.1.length - 1) (by omega)) cs_X11_295 cd_X11_timerAt rfl (st := [vr (am 0)]) rfl (by decide) (by decide) rfl (Nat.zero_le _) (Nat.zero_le _) trivial (fun r11 w12 q13 => ?_)
              rw [q13.1, q13.2]
              refine M.run 3 (pc' := 76) (lv' := [some (vr o), some (vi ((i : Nat) : Int)), some (vi ((k : Nat) : Int))]) (st' := [vi 0, vi (((817 + 9 * (D.2.2.2.1.length - 1) : Nat) : Int) + ((k : Nat) : Int)), vr (am 0)]) rfl ?_
              refine M.iastN (817 + 9 * (D.2.2.2.1.length - 1) + k) rfl (isM_a hMg) (by omega) (by decide) ?_
              have hM16 := isM_setA hMg (uN gg (817 + 9 * (D.2.2.2.1.length - 1) + k) 0)
              generalize up wx (am 0) (Ar 0 30042 (uN gg (817 + 9 * (D.2.2.2.1.length - 1) + k) 0)) = w15 at hM16 ⊢
              refine M.run 2 (pc' := 53) (lv' := [some (vr o), some (vi ((i : Nat) : Int)), some (vi (((k : Nat) : Int) + 1))]) (st' := []) rfl ?_
              exact ih53 ((uN gg (817 + 9 * (D.2.2.2.1.length - 1) + k) 0)) w15 (k + 1) hM16 (fun q hq => by rw [uN_o (by omega)]; exact hz q hq) (by rw [uN_o (by omega)]; exact hc2) (by omega) (by omega)
        exact Lp53 _ f ww 0 hMf (fun _ _ => rfl) hc (by omega) (Nat.lt_succ_self _)
      · skip
        refine M.run 1 (pc' := 31) (lv' := [some (vr o), some (vi ((i : Nat) : Int)), some (vi ((p : Nat) : Int))]) (st' := [vr o]) rfl ?_
        refine M.get fl_X11_7 rfl (isM_o hMf) (kf := 0) (v := vr (am 0)) rfl ?_
        refine M.run 2 (pc' := 36) (lv' := [some (vr o), some (vi ((i : Nat) : Int)), some (vi ((p : Nat) : Int))]) (st' := [vr o, vi ((p : Nat) : Int), vr (am 0)]) rfl ?_
        refine M.get fl_X11_7 rfl (isM_o hMf) (kf := 0) (v := vr (am 0)) rfl ?_
        refine M.run 3 (pc' := 43) (lv' := [some (vr o), some (vi ((i : Nat) : Int)), some (vi ((p : Nat) : Int))]) (st' := [vi (((p : Nat) : Int) + 9), vr (am 0), vi ((p : Nat) : Int), vr (am 0)]) rfl ?_
        refine M.ialdN (p + 9) rfl (isM_a hMf) (by omega) (by decide) ?_
        refine M.iastN (p) rfl (isM_a hMf) (by omega) (by decide) ?_
        have hM18 := isM_setA hMf (uN f p (f (p + 9)))
        generalize up ww (am 0) (Ar 0 30042 (uN f p (f (p + 9)))) = w17 at hM18 ⊢
        refine M.run 2 (pc' := 16) (lv' := [some (vr o), some (vi ((i : Nat) : Int)), some (vi (((p : Nat) : Int) + 1))]) (st' := []) rfl ?_
        exact ih16 ((uN f p (f (p + 9)))) w17 (p + 1) hM18 (shP_s hsh hp1) (by rw [uN_o (by omega)]; exact hc) (by omega) (by omega) (by omega)
  exact Lp16 _ ((uN a 27 ((D.2.2.2.1.length - 1 : Nat) : Int))) w1 (817 + 9 * i) hM2 (shP_0 _ _ _) (uN_s _ _ _) (by omega) (by omega) (Nat.lt_succ_self _)
set_option maxHeartbeats 4000000 in
set_option maxRecDepth 100000 in
theorem eX11_takeFlight (l : Launch) (G : GT) (o : Nat) (am : Nat → Nat) (u a0 : Nat → Int) (b0 : Nat → Nat → Int) (D : Dy) (n : Int) (ht : Tok a0) (hd : Dok n D) (hn : 0 ≤ n ∧ n ≤ 900000000) (i : Nat) (hi : i < D.2.2.1.length) : Ctr l G yX11_takeFlight cX11_takeFlight 3 ((Option.none : Option Jvm.ClassFile.FieldType)) 2 0 0 [vr o, vi ((i : Nat) : Int)] (fun w => isE o am u a0 b0 D w) (fun w r w' => r = none ∧ isE o am u a0 b0 (D.1, D.2.1, D.2.2.1.eraseIdx i, D.2.2.2) w') := by
  refine Ctr.of (t := tX11_takeFlight) (lv0 := [some (vr o), some (vi ((i : Nat) : Int)), none]) (by decide +kernel) tX11_takeFlight_ok rfl rfl (fun w g hP M => ?_)
  obtain ⟨a, b, hM, hR, hF, hB⟩ := hP
  have hk_f := Dok_f hd
  have hk_t := Dok_t hd
  have hk_b := Dok_b hd
  have hl0 := Dok_l hd (s := 0) (by omega)
  have hl1 := Dok_l hd (s := 1) (by omega)
  refine M.run 1 (pc' := 1) (lv' := [some (vr o), some (vi ((i : Nat) : Int)), none]) (st' := [vr o]) rfl ?_
  refine M.get fl_X11_7 rfl (isM_o hM) (kf := 0) (v := vr (am 0)) rfl ?_
  refine M.run 2 (pc' := 7) (lv' := [some (vr o), some (vi ((i : Nat) : Int)), none]) (st' := [vi 26, vr (am 0), vi 26, vr (am 0)]) rfl ?_
  refine M.ialdN (26) rfl (isM_a hM) (by decide) (by decide) ?_
  rw [show a 26 = ((D.2.2.1.length : Nat) : Int) from Rp_f hR]
  refine M.run 2 (pc' := 10) (lv' := [some (vr o), some (vi ((i : Nat) : Int)), none]) (st' := [vi (((D.2.2.1.length : Nat) : Int) - 1), vi 26, vr (am 0)]) rfl ?_
  rw [show (((D.2.2.1.length : Nat) : Int) - 1) = ((D.2.2.1.length - 1 : Nat) : Int) by omega]
  refine M.iastN (26) rfl (isM_a hM) (by decide) (by decide) ?_
  have hM2 := isM_setA hM (uN a 26 ((D.2.2.1.length - 1 : Nat) : Int))
  generalize up w (am 0) (Ar 0 30042 (uN a 26 ((D.2.2.1.length - 1 : Nat) : Int))) = w1 at hM2 ⊢
  refine M.run 1 (pc' := 12) (lv' := [some (vr o), some (vi ((i : Nat) : Int)), none]) (st' := [vi ((i : Nat) : Int)]) rfl ?_
  refine M.callS (kX11_flightAt l G i (by omega)) cs_X11_298 cd_X11_flightAt rfl (st := []) rfl (by decide) (by decide) rfl (Nat.zero_le _) (Nat.zero_le _) trivial (fun r3 w4 q5 => ?_)
  rw [q5.1, q5.2]
  refine M.run 1 (pc' := 16) (lv' := [some (vr o), some (vi ((i : Nat) : Int)), some (vi ((385 + 9 * i : Nat) : Int))]) (st' := []) rfl ?_
  have Lp16 : ∀ (N : Nat) (f : Nat → Int) (ww : Wo) (p : Nat), (isM o am u f b ww) → (shP (uN a (26) ((D.2.2.1.length - 1 : Nat) : Int)) f (385 + 9 * i) p 9) → (f (26) = ((D.2.2.1.length - 1 : Nat) : Int)) → (385 + 9 * i ≤ p) → (p ≤ 385 + 9 * (D.2.2.1.length - 1)) → 385 + 9 * (D.2.2.1.length - 1) - p < N → g 0 0 ww 16 [some (vr o), some (vi ((i : Nat) : Int)), some (vi ((p : Nat) : Int))] [] := by
    intro N
    induction N with
    | zero => intro f ww p _ _ _ _ _ hN; exact absurd hN (Nat.not_lt_zero _)
    | succ N ih16 =>
      intro f ww p hMf hsh hc hp1 hp2 hN
      refine M.run 2 (pc' := 18) (lv' := [some (vr o), some (vi ((i : Nat) : Int)), some (vi ((p : Nat) : Int))]) (st' := [vr o, vi ((p : Nat) : Int)]) rfl ?_
      refine M.get fl_X11_7 rfl (isM_o hMf) (kf := 0) (v := vr (am 0)) rfl ?_
      refine M.run 1 (pc' := 23) (lv' := [some (vr o), some (vi ((i : Nat) : Int)), some (vi ((p : Nat) : Int))]) (st' := [vi 26, vr (am 0), vi ((p : Nat) : Int)]) rfl ?_
      refine M.ialdN (26) rfl (isM_a hMf) (by decide) (by decide) ?_
      rw [show f 26 = ((D.2.2.1.length - 1 : Nat) : Int) from hc]
      refine M.callS (kX11_flightAt l G (D.2.2.1.length - 1) (by omega)) cs_X11_298 cd_X11_flightAt rfl (st := [vi ((p : Nat) : Int)]) rfl (by decide) (by decide) rfl (Nat.zero_le _) (Nat.zero_le _) trivial (fun r7 w8 q9 => ?_)
      rw [q9.1, q9.2]
      refine M.icmp_ge (tgt := 51) rfl (qI (by omega)) (qI (by omega)) (by decide) (fun h27 => ?_) (fun h27 => ?_)
      · skip
        refine M.run 2 (pc' := 53) (lv' := [some (vr o), some (vi ((i : Nat) : Int)), some (vi 0)]) (st' := []) rfl ?_
        have Lp53 : ∀ (N : Nat) (gg : Nat → Int) (wx : Wo) (k : Nat), (isM o am u gg b wx) → (∀ q : Nat, (q < 385 + 9 * (D.2.2.1.length - 1) ∨ 385 + 9 * (D.2.2.1.length - 1) + 9 ≤ q) → gg q = f q) → (gg (26) = ((D.2.2.1.length - 1 : Nat) : Int)) → (k ≤ 9) → 9 - k < N → g 0 0 wx 53 [some (vr o), some (vi ((i : Nat) : Int)), some (vi ((k : Nat) : Int))] [] := by
          intro N
          induction N with
          | zero => intro gg wx k _ _ _ _ hN; exact absurd hN (Nat.not_lt_zero _)
          | succ N ih53 =>
            intro gg wx k hMg hz hc2 hk7 hN
            refine M.run 2 (pc' := 56) (lv' := [some (vr o), some (vi ((i : Nat) : Int)), some (vi ((k : Nat) : Int))]) (st' := [vi 9, vi ((k : Nat) : Int)]) rfl ?_
            refine M.icmp_ge (tgt := 83) rfl (qI (by omega)) (qI (by decide)) (by decide) (fun h56 => ?_) (fun h56 => ?_)
            · skip
              exact M.vret rfl (Nat.zero_le _) (Nat.zero_le _) (by
                  have hpe : p = 385 + 9 * (D.2.2.1.length - 1) := by omega
                  subst hpe
                  refine ⟨rfl, gg, b, hMg, ?_, fun q hq => ?_, hB⟩
                  · have hlen : (D.2.2.1.eraseIdx i).length = D.2.2.1.length - 1 := by rw [List.length_eraseIdx, if_pos hi]
                    refine Rp_uf hR (fun s hs => Dok_l hd hs) (fun j j1 j2 => ?_) (by rw [hc2, hlen]) (fun i2 k2 hi2 hk2 => ?_)
                    · rw [hz j (by omega), hsh j, if_neg (by omega), uN_o (by omega)]
                    · rw [hlen] at hi2
                      skip
                      by_cases e : i2 < i
                      · rw [gR_er_lt e, hz _ (by omega), hsh, if_neg (by omega), uN_o (by omega)]
                        exact Rp_fr hR (by omega) hk2
                      · rw [gR_er_ge (by omega), hz _ (by omega), hsh, if_pos (by omega), uN_o (by omega), ← Rp_fr hR (i := i2 + 1) (by omega) hk2]
                        congr 1; omega
                  · rw [hz q (by omega), hsh q, if_neg (by omega), uN_o (by omega)]; exact hF q hq)
            · skip
              refine M.run 1 (pc' := 60) (lv' := [some (vr o), some (vi ((i : Nat) : Int)), some (vi ((k : Nat) : Int))]) (st' := [vr o]) rfl ?_
              refine M.get fl_X11_7 rfl (isM_o hMg) (kf := 0) (v := vr (am 0)) rfl ?_
              refine M.run 1 (pc' := 64) (lv' := [some (vr o), some (vi ((i : Nat) : Int)), some (vi ((k : Nat) : Int))]) (st' := [vr o, vr (am 0)]) rfl ?_
              refine M.get fl_X11_7 rfl (isM_o hMg) (kf := 0) (v := vr (am 0)) rfl ?_
              refine M.run 1 (pc' := 69) (lv' := [some (vr o), some (vi ((i : Nat) : Int)), some (vi ((k : Nat) : Int))]) (st' := [vi 26, vr (am 0), vr (am 0)]) rfl ?_
              refine M.ialdN (26) rfl (isM_a hMg) (by decide) (by decide) ?_
              rw [show gg 26 = ((D.2.2.1.length - 1 : Nat) : Int) from hc2]
              refine M.callS (kX11_flightAt l G (D.2.2.1.length - 1) (by omega)) cs_X11_298 cd_X11_flightAt rfl (st := [vr (am 0)]) rfl (by decide) (by decide) rfl (Nat.zero_le _) (Nat.zero_le _) trivial (fun r11 w12 q13 => ?_)
              rw [q13.1, q13.2]
              refine M.run 3 (pc' := 76) (lv' := [some (vr o), some (vi ((i : Nat) : Int)), some (vi ((k : Nat) : Int))]) (st' := [vi 0, vi (((385 + 9 * (D.2.2.1.length - 1) : Nat) : Int) + ((k : Nat) : Int)), vr (am 0)]) rfl ?_
              refine M.iastN (385 + 9 * (D.2.2.1.length - 1) + k) rfl (isM_a hMg) (by omega) (by decide) ?_
              have hM16 := isM_setA hMg (uN gg (385 + 9 * (D.2.2.1.length - 1) + k) 0)
              generalize up wx (am 0) (Ar 0 30042 (uN gg (385 + 9 * (D.2.2.1.length - 1) + k) 0)) = w15 at hM16 ⊢
              refine M.run 2 (pc' := 53) (lv' := [some (vr o), some (vi ((i : Nat) : Int)), some (vi (((k : Nat) : Int) + 1))]) (st' := []) rfl ?_
              exact ih53 ((uN gg (385 + 9 * (D.2.2.1.length - 1) + k) 0)) w15 (k + 1) hM16 (fun q hq => by rw [uN_o (by omega)]; exact hz q hq) (by rw [uN_o (by omega)]; exact hc2) (by omega) (by omega)
        exact Lp53 _ f ww 0 hMf (fun _ _ => rfl) hc (by omega) (Nat.lt_succ_self _)
      · skip
        refine M.run 1 (pc' := 31) (lv' := [some (vr o), some (vi ((i : Nat) : Int)), some (vi ((p : Nat) : Int))]) (st' := [vr o]) rfl ?_
        refine M.get fl_X11_7 rfl (isM_o hMf) (kf := 0) (v := vr (am 0)) rfl ?_
        refine M.run 2 (pc' := 36) (lv' := [some (vr o), some (vi ((i : Nat) : Int)), some (vi ((p : Nat) : Int))]) (st' := [vr o, vi ((p : Nat) : Int), vr (am 0)]) rfl ?_
        refine M.get fl_X11_7 rfl (isM_o hMf) (kf := 0) (v := vr (am 0)) rfl ?_
        refine M.run 3 (pc' := 43) (lv' := [some (vr o), some (vi ((i : Nat) : Int)), some (vi ((p : Nat) : Int))]) (st' := [vi (((p : Nat) : Int) + 9), vr (am 0), vi ((p : Nat) : Int), vr (am 0)]) rfl ?_
        refine M.ialdN (p + 9) rfl (isM_a hMf) (by omega) (by decide) ?_
        refine M.iastN (p) rfl (isM_a hMf) (by omega) (by decide) ?_
        have hM18 := isM_setA hMf (uN f p (f (p + 9)))
        generalize up ww (am 0) (Ar 0 30042 (uN f p (f (p + 9)))) = w17 at hM18 ⊢
        refine M.run 2 (pc' := 16) (lv' := [some (vr o), some (vi ((i : Nat) : Int)), some (vi (((p : Nat) : Int) + 1))]) (st' := []) rfl ?_
        exact ih16 ((uN f p (f (p + 9)))) w17 (p + 1) hM18 (shP_s hsh hp1) (by rw [uN_o (by omega)]; exact hc) (by omega) (by omega) (by omega)
  exact Lp16 _ ((uN a 26 ((D.2.2.1.length - 1 : Nat) : Int))) w1 (385 + 9 * i) hM2 (shP_0 _ _ _) (uN_s _ _ _) (by omega) (by omega) (Nat.lt_succ_self _)
