def gP (L : List (Nat × Nat)) (i : Nat) : Nat × Nat := L.getD i (0, 0)
theorem gP_mem {L : List (Nat × Nat)} {i : Nat} (h : i < L.length) : gP L i ∈ L := by
  unfold gP
  rw [List.getD_eq_getElem?_getD, List.getElem?_eq_getElem h]
  exact List.getElem_mem h
theorem bEg_0 {L : List (Nat × Nat)} {i : Nat} (h : i < L.length) : bEg L (i : Int) 0 = (((gP L i).1 : Nat) : Int) := by
  unfold bEg gP
  rw [if_pos (by omega), show ((i : Nat) : Int).toNat = i from rfl, List.getD_eq_getElem?_getD, List.getElem?_eq_getElem h]
  rfl
theorem bEg_1 {L : List (Nat × Nat)} {i : Nat} (h : i < L.length) : bEg L (i : Int) 1 = (((gP L i).2 : Nat) : Int) := by
  unfold bEg gP
  rw [if_pos (by omega), show ((i : Nat) : Int).toNat = i from rfl, List.getD_eq_getElem?_getD, List.getElem?_eq_getElem h]
  rfl
theorem gP_drop {L : List (Nat × Nat)} {i : Nat} (h : i < L.length) : L.drop i = gP L i :: L.drop (i + 1) := by
  rw [List.drop_eq_getElem_cons h]
  congr 1
  unfold gP
  rw [List.getD_eq_getElem?_getD, List.getElem?_eq_getElem h]
  rfl
theorem bPsF_ok (b sz : Nat) (hs : 0 < sz) : ∀ (k p : Nat), 30 - p ≤ k → p ≤ 30 → ∀ q ∈ bPsF b sz p, q.1 ≤ q.2 ∧ q.2 ≤ 30
  | 0, p, hk, hp, q, hq => by
    have : ¬ bNx b p < 30 := by have := bNx_ge 30 b p (by omega); omega
    rw [bPsF_e this] at hq
    cases hq
  | k + 1, p, hk, hp, q, hq => by
    by_cases h : bNx b p < 30
    · rw [bPsF_s hs h] at hq
      have h1 := bNx_ge 30 b p (by omega)
      have h2 := bPt_gt (sz := sz) h (bNx_bit 30 b p (by omega) h) hs
      have h3 := bPt_le (b := b) (sz := sz) (p := bNx b p) (by omega)
      rcases List.mem_cons.mp hq with e | e
      · subst e
        exact ⟨Nat.le_of_lt h2, h3⟩
      · exact bPsF_ok b sz hs k _ (by omega) h3 q e
    · rw [bPsF_e h] at hq
      cases hq
theorem bPs_ok {b sz : Nat} (hs : 0 < sz) : ∀ q ∈ bPs b sz, q.1 ≤ q.2 ∧ q.2 ≤ 30 := bPsF_ok b sz hs 30 0 (by omega) (by omega)
theorem mPut_len (s : Nat) (r : Rw) (D : Dy) : ((((mPut s r D).2.1 s).length : Nat) : Int) = (((D.2.1 s).length : Nat) : Int) + (if (D.2.1 s).length = 24 then 0 else 1) := by
  unfold mPut
  by_cases h : (D.2.1 s).length = 24
  · rw [if_pos h, if_pos h, Int.add_zero]
  · rw [if_neg h, if_neg h]
    show (((lsS D.2.1 s (D.2.1 s ++ [r]) s).length : Nat) : Int) = _
    rw [lsS_s, List.length_append]
    rfl
theorem mPieces_1 (b ck : Int) : ∀ (L : List (Nat × Nat)) (D : Dy), (mPieces b ck L D).1 = D.1
  | [], D => rfl
  | q :: [], D => mPut_1 _ _ _
  | q :: q2 :: t, D => (mPieces_1 b ck (q2 :: t) _).trans (mPut_1 _ _ _)
theorem mPieces_step {b ck : Int} {L : List (Nat × Nat)} {i : Nat} {D : Dy} (h : i + 1 < L.length) : mPieces b ck (L.drop i) D = mPieces b ck (L.drop (i + 1)) (mPut 0 (rwM 0 b 0 (gP L i).1 (gP L i).2 0 0) D) := by
  rw [gP_drop (show i < L.length by omega), gP_drop h]
  rfl
theorem mPieces_last {b ck : Int} {L : List (Nat × Nat)} {i : Nat} {D : Dy} (h : i + 1 = L.length) : mPieces b ck (L.drop i) D = mPieces b ck (L.drop (i + 1)) (mPut 0 (rwM 0 b ck (gP L i).1 (gP L i).2 0 0) D) := by
  rw [gP_drop (show i < L.length by omega), List.drop_eq_nil_of_le (show L.length ≤ i + 1 by omega)]
  rfl
theorem mPieces_z {b : Int} {L : List (Nat × Nat)} {i : Nat} {D : Dy} (h : i < L.length) : mPieces b 0 (L.drop i) D = mPieces b 0 (L.drop (i + 1)) (mPut 0 (rwM 0 b 0 (gP L i).1 (gP L i).2 0 0) D) := by
  rcases Nat.lt_or_ge (i + 1) L.length with h1 | h1
  · exact mPieces_step h1
  · exact mPieces_last (by omega)
theorem mPieces_end {b ck : Int} {L : List (Nat × Nat)} {i : Nat} {D : Dy} (h : L.length ≤ i) : mPieces b ck (L.drop i) D = D := by
  rw [List.drop_eq_nil_of_le h]
  rfl
theorem Dok_pieces {n : Int} {b : Nat} {ck : Int} (hb : b < 3) (hc : 0 ≤ ck ∧ ck ≤ n) : ∀ (L : List (Nat × Nat)) (D : Dy), (∀ q ∈ L, q.1 ≤ q.2 ∧ q.2 ≤ 30) → Dok n D → Dok n (mPieces b ck L D)
  | [], D, _, hd => hd
  | q :: [], D, hL, hd => by
    have h1 := hL q List.mem_cons_self
    exact Dok_put hd (by decide) (rowOk_M (by omega))
  | q :: q2 :: t, D, hL, hd => by
    have h1 := hL q List.mem_cons_self
    exact Dok_pieces hb hc (q2 :: t) _ (fun x hx => hL x (List.mem_cons_of_mem _ hx)) (Dok_put hd (by decide) (rowOk_M (by omega)))
theorem mRed_0 {a0 : Nat → Int} {b bits : Nat} {D : Dy} (h : (bPs bits (a0 7).toNat).length = 0) : mRed a0 b bits D = D := if_pos (List.eq_nil_of_length_eq_zero h)
theorem mRed_s {a0 : Nat → Int} {b bits : Nat} {D : Dy} (h : 0 < (bPs bits (a0 7).toNat).length) : mRed a0 b bits D = mPieces b (D.1 (40 + b) + 1) (bPs bits (a0 7).toNat) (mS (40 + b) (D.1 (40 + b) + 1) D) := if_neg (fun e => by rw [e] at h; exact absurd h (by decide))
theorem Tok_7 {a0 : Nat → Int} (h : Tok a0) : 1 ≤ a0 7 ∧ a0 7 ≤ 9 := h.1 7 (by decide)
theorem Dok_cntS {n v : Int} {k : Nat} {D : Dy} (hd : Dok n D) (hk : 40 ≤ k) (hv : 0 ≤ v ∧ v ≤ n) : Dok n (mS k v D) := Dok_S hd (fun _ _ _ => by unfold Shi; (repeat' split) <;> omega)
theorem Dok_bitS {n v : Int} {k : Nat} {D : Dy} (hd : Dok n D) (hk : 34 ≤ k ∧ k < 40) (hv : 0 ≤ v ∧ v ≤ 1073741823) : Dok n (mS k v D) := Dok_S hd (fun _ _ _ => by unfold Shi; (repeat' split) <;> omega)
theorem Dok_howS {n v : Int} {k : Nat} {D : Dy} (hd : Dok n D) (hk : 28 ≤ k ∧ k < 34) (hv : 0 ≤ v ∧ v ≤ 3) : Dok n (mS k v D) := Dok_S hd (fun _ _ _ => by unfold Shi; (repeat' split) <;> omega)
theorem Dok_red {a0 : Nat → Int} {n : Int} {b bits : Nat} {D : Dy} (ht : Tok a0) (hd : Dok n D) (hb : b < 3) (hbits : bits < 1073741824) : Dok (n + 1) (mRed a0 b bits D) := by
  have hs := Tok_7 ht
  have hc := Dok_cnt hd (x := b) (by omega)
  have hd1 := Dok_mono (m := n + 1) (by omega) hd
  rcases Nat.eq_zero_or_pos (bPs bits (a0 7).toNat).length with h | h
  · rw [mRed_0 h]; exact hd1
  · rw [mRed_s h]
    exact Dok_pieces hb (by omega) _ _ (bPs_ok (by omega)) (Dok_cntS hd1 (by omega) (by omega))
theorem Dok_open {a0 : Nat → Int} {n : Int} {b : Nat} {D : Dy} (ht : Tok a0) (hd : Dok n D) (hb : b < 3) : Dok (n + 1) (mOpen a0 b D) := by
  have h := Dok_clk hd
  have hs := Tok_7 ht
  have hr := Tok_red ht hb
  have hn : 0 ≤ n := Int.le_trans (Dok_sent hd).1 (Dok_sent hd).2
  have h1 := Dok_pieces (ck := 0) hb (by omega) (bPs (bIn (a0 (15 + b)).toNat (a0 (12 + b)).toNat) (a0 7).toNat) _ (bPs_ok (by omega)) (Dok_red ht (b := b) (bits := mRedOf a0 b) (Dok_note (Dok_howS hd (k := 28 + b) (v := 1) (by omega) (by omega)) (bokOk_B (c := D.1 18) (what := 0) (b := b) (kind := 0) (by omega))) hb (bFs_lt (by omega)))
  unfold mOpen
  by_cases e : a0 (15 + b) = 0
  · simp only [if_pos e]; exact Dok_end h1 hb
  · simp only [if_neg e]; exact h1
theorem mChecks_1 (b : Nat) : ∀ (n : Nat) (D : Dy), (mChecks b n D).1 = D.1
  | 0, D => rfl
  | n + 1, D => mChecks_1 b n D
theorem mChecks_s {b p : Nat} {D : Dy} (h : 0 < p) : mChecks b p D = mDrop 0 (pKS b 0 (p : Int)) (mChecks b (p - 1) D) := by
  obtain ⟨q, rfl⟩ : ∃ q, p = q + 1 := ⟨p - 1, by omega⟩
  rfl
theorem Dok_checks {n : Int} {b : Nat} {D : Dy} (hd : Dok n D) : ∀ {m : Nat}, Dok n (mChecks b m D)
  | 0 => hd
  | m + 1 => Dok_drop (Dok_checks hd)
section QGD
variable {a0 : Nat → Int} {b f t claims : Nat} {serial check : Int} {D : Dy} {n : Int}
theorem mGotData_a (h : D.1 (31 + b) = 3) : mGotData a0 b serial f t D = D := if_pos h
theorem mGotData_b (h : ¬ D.1 (31 + b) = 3) (h2 : serial = 0) : mGotData a0 b serial f t D = mS (37 + b) (((D.1 (37 + b)).toNat ||| bIn f t : Nat) : Int) D := (if_neg h).trans (if_pos h2)
theorem mGotData_c (h : ¬ D.1 (31 + b) = 3) (h2 : ¬ serial = 0) : mGotData a0 b serial f t D = mPut 1 (rwM 1 b (D.1 (43 + b) + 1) 0 serial ((((D.1 (37 + b)).toNat ||| bIn f t) &&& mRedOf a0 b : Nat) : Int) 0) (mS (43 + b) (D.1 (43 + b) + 1) (mS (37 + b) (((D.1 (37 + b)).toNat ||| bIn f t : Nat) : Int) D)) := (if_neg h).trans (if_neg h2)
theorem or_lt30 {x y : Nat} (hx : x < 1073741824) (hy : y < 1073741824) : x ||| y < 1073741824 := Nat.or_lt_two_pow (n := 30) hx hy
theorem bIn_lt {f t : Nat} (h : t ≤ 30) : bIn f t < 1073741824 := bDf_lt30 (bFs_lt h)
theorem Dok_com (hd : Dok n D) {x : Nat} (hx : x < 3) : 0 ≤ D.1 (37 + x) ∧ D.1 (37 + x) ≤ 1073741823 := by
  have h := Dok_bit hd (x := 3 + x) (by omega)
  rwa [show 34 + (3 + x) = 37 + x by omega] at h
theorem Dok_clm (hd : Dok n D) {x : Nat} (hx : x < 3) : 0 ≤ D.1 (34 + x) ∧ D.1 (34 + x) ≤ 1073741823 := Dok_bit hd (x := x) (by omega)
theorem Dok_rep (hd : Dok n D) {x : Nat} (hx : x < 3) : 0 ≤ D.1 (43 + x) ∧ D.1 (43 + x) ≤ n := by
  have h := Dok_cnt hd (x := 3 + x) (by omega)
  rwa [show 40 + (3 + x) = 43 + x by omega] at h
theorem Dok_byt (hd : Dok n D) {x : Nat} (hx : x < 3) : 0 ≤ D.1 (46 + x) ∧ D.1 (46 + x) ≤ n := by
  have h := Dok_cnt hd (x := 6 + x) (by omega)
  rwa [show 40 + (6 + x) = 46 + x by omega] at h
theorem Dok_n0 (hd : Dok n D) : 0 ≤ n := Int.le_trans (Dok_sent hd).1 (Dok_sent hd).2
theorem Dok_gotData (ht : Tok a0) (hd : Dok n D) (hb : b < 3) (hs : 0 ≤ serial ∧ serial ≤ n) (hf : f ≤ t ∧ t ≤ 30) : Dok (n + 1) (mGotData a0 b serial f t D) := by
  have hd1 := Dok_mono (m := n + 1) (by omega) hd
  have hc := Dok_com hd hb
  have hr := Dok_rep hd hb
  have hn := Dok_n0 hd
  have hb1 := bIn_lt (f := f) hf.2
  have ho := or_lt30 (x := (D.1 (37 + b)).toNat) (y := bIn f t) (by omega) hb1
  by_cases h : D.1 (31 + b) = 3
  · rw [mGotData_a h]; exact hd1
  · by_cases h2 : serial = 0
    · rw [mGotData_b h h2]; exact Dok_bitS hd1 (by omega) (by omega)
    · rw [mGotData_c h h2]
      have hl := Nat.and_le_left (n := (D.1 (37 + b)).toNat ||| bIn f t) (m := mRedOf a0 b)
      exact Dok_put (Dok_cntS (Dok_bitS hd1 (by omega) (by omega)) (by omega) (by omega)) (by decide) (rowOk_M (by omega))
def gr1 (b : Nat) (serial check : Int) (D : Dy) : Dy := mDrop 0 (pKS b 0 check) (mPut 0 (rwM 2 b serial 0 0 0 0) D)
theorem mGotReport_a (h : ¬ D.1 (28 + b) = 1) : mGotReport a0 b serial check claims D = gr1 b serial check D := if_neg h
theorem mGotReport_b (h : D.1 (28 + b) = 1) (h2 : mMiss a0 b ((D.1 (34 + b)).toNat ||| claims) = 0) : mGotReport a0 b serial check claims D = mChecks b (D.1 (40 + b)).toNat (mEnd b (mS (34 + b) (((D.1 (34 + b)).toNat ||| claims : Nat) : Int) (gr1 b serial check D))) := (if_pos h).trans (if_pos h2)
theorem mGotReport_c (h : D.1 (28 + b) = 1) (h2 : ¬ mMiss a0 b ((D.1 (34 + b)).toNat ||| claims) = 0) (h3 : check = D.1 (40 + b)) : mGotReport a0 b serial check claims D = mRed a0 b (mMiss a0 b ((D.1 (34 + b)).toNat ||| claims)) (mS (34 + b) (((D.1 (34 + b)).toNat ||| claims : Nat) : Int) (gr1 b serial check D)) := ((if_pos h).trans (if_neg h2)).trans (if_pos h3)
theorem mGotReport_d (h : D.1 (28 + b) = 1) (h2 : ¬ mMiss a0 b ((D.1 (34 + b)).toNat ||| claims) = 0) (h3 : ¬ check = D.1 (40 + b)) : mGotReport a0 b serial check claims D = mS (34 + b) (((D.1 (34 + b)).toNat ||| claims : Nat) : Int) (gr1 b serial check D) := ((if_pos h).trans (if_neg h2)).trans (if_neg h3)
theorem mMiss_lt (ht : Tok a0) (hb : b < 3) {c : Nat} : mMiss a0 b c < 1073741824 := bDf_lt30 (bFs_lt (by have := Tok_red ht hb; omega))
theorem Dok_gotReport (ht : Tok a0) (hd : Dok n D) (hb : b < 3) (hs : 0 ≤ serial ∧ serial ≤ n) (hf : claims < 1073741824) : Dok (n + 1) (mGotReport a0 b serial check claims D) := by
  have hn := Dok_n0 hd
  have hc := Dok_clm hd hb
  have ho := or_lt30 (x := (D.1 (34 + b)).toNat) (y := claims) (by omega) hf
  have h0 : Dok n (gr1 b serial check D) := Dok_drop (Dok_put hd (by decide) (rowOk_M (by omega)))
  have hd2 := Dok_bitS (k := 34 + b) (v := (((D.1 (34 + b)).toNat ||| claims : Nat) : Int)) h0 (by omega) (by omega)
  by_cases h : D.1 (28 + b) = 1
  · by_cases h2 : mMiss a0 b ((D.1 (34 + b)).toNat ||| claims) = 0
    · rw [mGotReport_b h h2]; exact Dok_mono (by omega) (Dok_checks (Dok_end hd2 hb))
    · by_cases h3 : check = D.1 (40 + b)
      · rw [mGotReport_c h h2 h3]; exact Dok_red ht hd2 hb (mMiss_lt ht hb)
      · rw [mGotReport_d h h2 h3]; exact Dok_mono (by omega) hd2
  · rw [mGotReport_a h]; exact Dok_mono (by omega) h0
theorem Dok_gotCancel {s : Nat} (hd : Dok n D) (hs : s < 2) (hb : b < 3) : Dok n (mGotCancel s b D) := by
  have hn := Dok_n0 hd
  unfold mGotCancel
  split
  · exact Dok_put (Dok_drop (Dok_howS hd (by omega) (by omega))) hs (rowOk_M (by omega))
  · exact Dok_put hd hs (rowOk_M (by omega))
theorem Dok_got {i : Nat} (ht : Tok a0) (hd : Dok n D) (hi : i < D.2.2.1.length) : Dok (n + 1) (mGot a0 i D) := by
  obtain ⟨h0, h1, h2, h3, h4, h5, h6, h7, h8, h9⟩ := Dok_fr hd hi
  have hdF := Dok_takeF (i := i) hd
  have hm := Dok_mono (m := n + 1) (by omega) hdF
  unfold mGot
  simp only []
  split
  · rename_i e
    have := h5 e
    exact Dok_gotData ht hdF (by omega) (by omega) (by omega)
  · split
    · exact Dok_gotReport ht hdF (by omega) (by omega) (by omega)
    · split
      · exact Dok_drop hm
      · split
        · exact Dok_gotCancel hm (by omega) (by omega)
        · exact Dok_drop hm
end QGD
/-- the first out at a side is in flight -/
def mFly (a0 : Nat → Int) (s : Nat) (D : Dy) : Dy := (D.1, D.2.1, D.2.2.1 ++ [rwF (gR (D.2.1 s) 0) (D.1 18 + a0 6) (1 - (s : Int))], D.2.2.2)
theorem rowOk_F {n : Int} {r : Rw} {when side : Int} (h : rowOk n r) (h1 : 0 ≤ when ∧ when ≤ 20000) (h2 : 0 ≤ side ∧ side ≤ 1) : rowOk n (rwF r when side) := by
  obtain ⟨a0, a1, a2, a3, a4, a5, a6, a7, a8, a9⟩ := h
  exact ⟨a0, a1, a2, a3, a4, a5, a6, a7, h1, h2⟩
theorem Tok_6 {a0 : Nat → Int} (h : Tok a0) : 1 ≤ a0 6 ∧ a0 6 ≤ 20 := h.1 6 (by decide)
theorem Dok_fly {a0 : Nat → Int} {n : Int} {s : Nat} {D : Dy} (ht : Tok a0) (hd : Dok n D) (hs : s < 2 ∧ 0 < (D.2.1 s).length) (hf : D.2.2.1.length < 40) : Dok n (mFly a0 s D) := by
  have hr := Dok_lr hd hs.1 hs.2
  have hc := Dok_clk hd
  have h6 := Tok_6 ht
  obtain ⟨h1, h2, h3, h4, h5⟩ := hd
  refine ⟨h1, h2, ⟨?_, fun r hq => ?_⟩, h4, h5⟩
  · show (D.2.2.1 ++ [_]).length ≤ 40
    rw [List.length_append]
    exact hf
  · rcases List.mem_append.mp hq with e | e
    · exact h3.2 r e
    · rw [List.mem_singleton.mp e]
      exact rowOk_F hr (by omega) (by omega)
/-- a timer rings -/
def mRingOne (a0 : Nat → Int) (i : Nat) (D : Dy) : Dy :=
  let r := gR D.2.2.2.1 i
  let D1 : Dy := mNote (rwB (D.1 18) 5 (r 1) (r 0)) (D.1, D.2.1, D.2.2.1, D.2.2.2.1.eraseIdx i, D.2.2.2.2)
  if r 6 < a0 8 then mPut (r 8).toNat (rwM (r 0) (r 1) (r 2) (r 3) (r 4) (r 5) (r 6 + 1)) D1
  else if ¬ r 0 = 3 ∧ mCan (r 1).toNat (r 8).toNat D then mCancel (r 1).toNat (r 8).toNat D1 else D1
theorem Dok_ringOne {a0 : Nat → Int} {n : Int} {i : Nat} {D : Dy} (ht : Tok a0) (hd : Dok n D) (hi : i < D.2.2.2.1.length) : Dok n (mRingOne a0 i D) := by
  obtain ⟨h0, h1, h2, h3, h4, h5, h6, h7, h8, h9⟩ := Dok_tr hd hi
  have h10 : 0 ≤ a0 8 ∧ a0 8 ≤ 9 := ht.1 8 (by decide)
  have hc := Dok_clk hd
  have hn := Dok_n0 hd
  have hd1 := Dok_note (Dok_takeT (i := i) hd) (bokOk_B (c := D.1 18) (what := 5) (b := gR D.2.2.2.1 i 1) (kind := gR D.2.2.2.1 i 0) (by omega))
  unfold mRingOne
  simp only []
  split
  · exact Dok_put hd1 (by omega) (rowOk_M (by omega))
  · split
    · exact Dok_cancel hd1 (by omega) (by omega)
    · exact hd1

set_option maxHeartbeats 4000000 in
set_option maxRecDepth 100000 in
theorem eX11_putRed (l : Launch) (G : GT) (o : Nat) (am : Nat → Nat) (u a0 : Nat → Int) (b0 : Nat → Nat → Int) (D : Dy) (n : Int) (ht : Tok a0) (hd : Dok n D) (hn : 0 ≤ n ∧ n ≤ 899999999) (c : Nat) (hc : c < 3) (bits : Nat) (hbits : bits < 1073741824) : Ctr l G yX11_putRed cX11_putRed 6 ((Option.some Jvm.ClassFile.FieldType.int)) 5 0 0 [vr o, vi ((c : Nat) : Int), vi ((bits : Nat) : Int)] (fun w => isE o am u a0 b0 D w) (fun w r w' => r = some (vi (((((mRed a0 c bits D).2.1 0).length : Nat) : Int) - (((D.2.1 0).length : Nat) : Int))) ∧ isE o am u a0 b0 (mRed a0 c bits D) w') := by
  refine Ctr.of (t := tX11_putRed) (lv0 := [some (vr o), some (vi ((c : Nat) : Int)), some (vi ((bits : Nat) : Int)), none, none, none]) (by decide +kernel) tX11_putRed_ok rfl rfl (fun w g hP M => ?_)
  obtain ⟨a, b, hM, hR, hF, hB⟩ := hP
  have hk7 : 1 ≤ a0 7 ∧ a0 7 ≤ 9 := ht.1 7 (by decide)
  have hk_chk_c : 0 ≤ D.1 (40 + c) ∧ D.1 (40 + c) ≤ n := by have := Dok_cnt hd (x := 0 + c) (by omega); rwa [show 40 + (0 + c) = 40 + c by omega] at this
  have hk_l_0 := Dok_l hd (s := 0) (by omega)
  have hps := bPs_ok (b := bits) (sz := (a0 7).toNat) (by omega)
  have hpl : (bPs bits (a0 7).toNat).length ≤ 30 := bPsF_len bits (a0 7).toNat (by omega) 30 0 (by omega)
  refine M.run 2 (pc' := 2) (lv' := [some (vr o), some (vi ((c : Nat) : Int)), some (vi ((bits : Nat) : Int)), none, none, none]) (st' := [vi ((bits : Nat) : Int), vr o]) rfl ?_
  refine M.callV (kX11_piecesOf l G o am u a b bits (by omega) (Mok_of ht hd (by omega) hR hF)) cv_X11_307 cd_X11_piecesOf rfl (st := []) rfl (isM_o hM) (by decide) (by decide) rfl (Nat.zero_le _) (Nat.zero_le _) hM (fun r1 w2 q3 => ?_)
  rw [q3.1, q3.2]
  rw [hF 7 (Or.inl (by decide))]
  refine M.run 4 (pc' := 10) (lv' := [some (vr o), some (vi ((c : Nat) : Int)), some (vi ((bits : Nat) : Int)), some (vi (((bPs bits (a0 7).toNat).length : Nat) : Int)), some (vi 0), none]) (st' := [vi (((bPs bits (a0 7).toNat).length : Nat) : Int)]) rfl ?_
  refine M.if_le (tgt := 26) rfl (qI (by omega)) (by decide) (fun h10 => ?_) (fun h10 => ?_)
  · skip
    refine M.run 2 (pc' := 29) (lv' := [some (vr o), some (vi ((c : Nat) : Int)), some (vi ((bits : Nat) : Int)), some (vi (((bPs bits (a0 7).toNat).length : Nat) : Int)), some (vi 0), some (vi 0)]) (st' := []) rfl ?_
    have Lp29 : ∀ (N : Nat) (Dx : Dy) (i : Nat) (nn : Int) (ax : Nat → Int) (bx : Nat → Nat → Int) (wx : Wo), (isM o am u ax bx wx) → (Rp ax Dx) → (Fr a0 ax) → (Fb b0 bx) → (Dok (n + 1) Dx) → (mRed a0 c bits D = mPieces c (D.1 (40 + c) + 1) ((bPs bits (a0 7).toNat).drop i) Dx) → (0 < (bPs bits (a0 7).toNat).length → Dx.1 (40 + c) = D.1 (40 + c) + 1) → (nn = (((Dx.2.1 0).length : Nat) : Int) - (((D.2.1 0).length : Nat) : Int)) → (i ≤ (bPs bits (a0 7).toNat).length) → (bPs bits (a0 7).toNat).length - i < N → g 0 0 wx 29 [some (vr o), some (vi ((c : Nat) : Int)), some (vi ((bits : Nat) : Int)), some (vi (((bPs bits (a0 7).toNat).length : Nat) : Int)), some (vi nn), some (vi ((i : Nat) : Int))] [] := by
      intro N
      induction N with
      | zero => intro Dx i nn ax bx wx _ _ _ _ _ _ _ _ _ hN; exact absurd hN (Nat.not_lt_zero _)
      | succ N ih29 =>
        intro Dx i nn ax bx wx hMx hRx hFx hBx hdx hI hck hnn hil hN
        refine M.run 2 (pc' := 32) (lv' := [some (vr o), some (vi ((c : Nat) : Int)), some (vi ((bits : Nat) : Int)), some (vi (((bPs bits (a0 7).toNat).length : Nat) : Int)), some (vi nn), some (vi ((i : Nat) : Int))]) (st' := [vi (((bPs bits (a0 7).toNat).length : Nat) : Int), vi ((i : Nat) : Int)]) rfl ?_
        refine M.icmp_ge (tgt := 92) rfl (qI (by omega)) (qI (by omega)) (by decide) (fun h32 => ?_) (fun h32 => ?_)
        · skip
          refine M.run 1 (pc' := 94) (lv' := [some (vr o), some (vi ((c : Nat) : Int)), some (vi ((bits : Nat) : Int)), some (vi (((bPs bits (a0 7).toNat).length : Nat) : Int)), some (vi nn), some (vi ((i : Nat) : Int))]) (st' := [vi nn]) rfl ?_
          exact M.iret rfl (Nat.zero_le _) (Nat.zero_le _) (by
              have heq : mRed a0 c bits D = Dx := by rw [hI]; exact mPieces_end (by omega)
              rw [heq]
              exact ⟨by rw [hnn], ax, bx, hMx, hRx, hFx, hBx⟩)
        · skip
          have hq := hps _ (gP_mem (L := (bPs bits (a0 7).toNat)) (i := i) (by omega))
          have hcx := Dok_cnt hdx (x := c) (by omega)
          have hlx := Dok_l hdx (s := 0) (by omega)
          have hb0 := bEg_0 (L := (bPs bits (a0 7).toNat)) (i := i) (by omega)
          have hb1 := bEg_1 (L := (bPs bits (a0 7).toNat)) (i := i) (by omega)
          refine M.run 9 (pc' := 46) (lv' := [some (vr o), some (vi ((c : Nat) : Int)), some (vi ((bits : Nat) : Int)), some (vi (((bPs bits (a0 7).toNat).length : Nat) : Int)), some (vi nn), some (vi ((i : Nat) : Int))]) (st' := [vi ((((bPs bits (a0 7).toNat).length : Nat) : Int) - 1), vi ((i : Nat) : Int), vi ((c : Nat) : Int), vi 0, vi 0, vr o, vi nn]) rfl ?_
          refine M.icmp_ne (tgt := 61) rfl (qI (by omega)) (qI (by omega)) (by decide) (fun h46 => ?_) (fun h46 => ?_)
          · skip
            refine M.run 5 (pc' := 67) (lv' := [some (vr o), some (vi ((c : Nat) : Int)), some (vi ((bits : Nat) : Int)), some (vi (((bPs bits (a0 7).toNat).length : Nat) : Int)), some (vi nn), some (vi ((i : Nat) : Int))]) (st' := [vi 0, vi ((i : Nat) : Int), vi ((bits : Nat) : Int), vr o, vi 0, vi ((c : Nat) : Int), vi 0, vi 0, vr o, vi nn]) rfl ?_
            refine M.callV (kX11_pieceOf l G o am u ax bx bits (by omega) i (by rw [hFx 7 (Or.inl (by decide))]; omega) 0 (by omega) (Mok_of ht hdx (by omega) hRx hFx)) cv_X11_310 cd_X11_pieceOf rfl (st := [vi 0, vi ((c : Nat) : Int), vi 0, vi 0, vr o, vi nn]) rfl (isM_o hMx) (by decide) (by decide) rfl (Nat.zero_le _) (Nat.zero_le _) hMx (fun r5 w6 q7 => ?_)
            rw [q7.1, q7.2]
            rw [hFx 7 (Or.inl (by decide))]
            rw [show bEg (bPs bits (a0 7).toNat) i 0 = (((gP (bPs bits (a0 7).toNat) i).1 : Nat) : Int) from hb0]
            refine M.run 4 (pc' := 75) (lv' := [some (vr o), some (vi ((c : Nat) : Int)), some (vi ((bits : Nat) : Int)), some (vi (((bPs bits (a0 7).toNat).length : Nat) : Int)), some (vi nn), some (vi ((i : Nat) : Int))]) (st' := [vi 1, vi ((i : Nat) : Int), vi ((bits : Nat) : Int), vr o, vi (((gP (bPs bits (a0 7).toNat) i).1 : Nat) : Int), vi 0, vi ((c : Nat) : Int), vi 0, vi 0, vr o, vi nn]) rfl ?_
            refine M.callV (kX11_pieceOf l G o am u ax bx bits (by omega) i (by rw [hFx 7 (Or.inl (by decide))]; omega) 1 (by omega) (Mok_of ht hdx (by omega) hRx hFx)) cv_X11_310 cd_X11_pieceOf rfl (st := [vi (((gP (bPs bits (a0 7).toNat) i).1 : Nat) : Int), vi 0, vi ((c : Nat) : Int), vi 0, vi 0, vr o, vi nn]) rfl (isM_o hMx) (by decide) (by decide) rfl (Nat.zero_le _) (Nat.zero_le _) hMx (fun r9 w10 q11 => ?_)
            rw [q11.1, q11.2]
            rw [hFx 7 (Or.inl (by decide))]
            rw [show bEg (bPs bits (a0 7).toNat) i 1 = (((gP (bPs bits (a0 7).toNat) i).2 : Nat) : Int) from hb1]
            refine M.run 2 (pc' := 80) (lv' := [some (vr o), some (vi ((c : Nat) : Int)), some (vi ((bits : Nat) : Int)), some (vi (((bPs bits (a0 7).toNat).length : Nat) : Int)), some (vi nn), some (vi ((i : Nat) : Int))]) (st' := [vi 0, vi 0, vi (((gP (bPs bits (a0 7).toNat) i).2 : Nat) : Int), vi (((gP (bPs bits (a0 7).toNat) i).1 : Nat) : Int), vi 0, vi ((c : Nat) : Int), vi 0, vi 0, vr o, vi nn]) rfl ?_
            refine M.callV (eX11_put l G o am u a0 b0 Dx _ ht hdx (by omega)  0 (by omega) 0 ((c : Nat) : Int) 0 (((gP (bPs bits (a0 7).toNat) i).1 : Nat) : Int) (((gP (bPs bits (a0 7).toNat) i).2 : Nat) : Int) 0 0) cv_X11_314 cd_X11_put rfl (st := [vi nn]) rfl (isM_o hMx) (by decide) (by decide) rfl (Nat.zero_le _) (Nat.zero_le _) ⟨_, _, hMx, hRx, hFx, hBx⟩ (fun r14 w15 q16 => ?_)
            obtain ⟨q16r, a13, b13, hM13, hR13, hF13, hB13⟩ := q16
            rw [q16r]
            have hd13 : Dok (n + 1) (mPut 0 (rwM 0 ((c : Nat) : Int) 0 (((gP (bPs bits (a0 7).toNat) i).1 : Nat) : Int) (((gP (bPs bits (a0 7).toNat) i).2 : Nat) : Int) 0 0) Dx) := Dok_put hdx (by omega) (rowOk_M (by omega))
            have es13 : (mPut 0 (rwM 0 ((c : Nat) : Int) 0 (((gP (bPs bits (a0 7).toNat) i).1 : Nat) : Int) (((gP (bPs bits (a0 7).toNat) i).2 : Nat) : Int) 0 0) Dx).1 = Dx.1 := (mPut_1 _ _ _).trans rfl
            refine M.run 4 (pc' := 29) (lv' := [some (vr o), some (vi ((c : Nat) : Int)), some (vi ((bits : Nat) : Int)), some (vi (((bPs bits (a0 7).toNat).length : Nat) : Int)), some (vi (nn + (if (Dx.2.1 0).length = 24 then 0 else 1))), some (vi (((i : Nat) : Int) + 1))]) (st' := []) rfl ?_
            exact ih29 ((mPut 0 (rwM 0 ((c : Nat) : Int) 0 (((gP (bPs bits (a0 7).toNat) i).1 : Nat) : Int) (((gP (bPs bits (a0 7).toNat) i).2 : Nat) : Int) 0 0) Dx)) (i + 1) (nn + (if (Dx.2.1 0).length = 24 then 0 else 1)) a13 b13 w15 hM13 hR13 hF13 hB13 (by omega) (by first | (rw [hI]; exact mPieces_step (by omega)) | (rw [hI, ← hck (by omega)]; exact mPieces_last (by omega))) (by intro q; rw [mPut_1]; exact hck q) (by rw [mPut_len]; omega) (by omega) (by omega)
          · skip
            refine M.run 1 (pc' := 50) (lv' := [some (vr o), some (vi ((c : Nat) : Int)), some (vi ((bits : Nat) : Int)), some (vi (((bPs bits (a0 7).toNat).length : Nat) : Int)), some (vi nn), some (vi ((i : Nat) : Int))]) (st' := [vr o, vi ((c : Nat) : Int), vi 0, vi 0, vr o, vi nn]) rfl ?_
            refine M.get fl_X11_7 rfl (isM_o hMx) (kf := 0) (v := vr (am 0)) rfl ?_
            refine M.run 3 (pc' := 57) (lv' := [some (vr o), some (vi ((c : Nat) : Int)), some (vi ((bits : Nat) : Int)), some (vi (((bPs bits (a0 7).toNat).length : Nat) : Int)), some (vi nn), some (vi ((i : Nat) : Int))]) (st' := [vi (40 + ((c : Nat) : Int)), vr (am 0), vi ((c : Nat) : Int), vi 0, vi 0, vr o, vi nn]) rfl ?_
            refine M.ialdN (40 + c) rfl (isM_a hMx) (by omega) (by decide) ?_
            rw [show ax (40 + c) = Dx.1 (40 + c) from Rp_s hRx (k := 40 + c) (by omega) (by omega) (by omega)]
            refine M.run 5 (pc' := 67) (lv' := [some (vr o), some (vi ((c : Nat) : Int)), some (vi ((bits : Nat) : Int)), some (vi (((bPs bits (a0 7).toNat).length : Nat) : Int)), some (vi nn), some (vi ((i : Nat) : Int))]) (st' := [vi 0, vi ((i : Nat) : Int), vi ((bits : Nat) : Int), vr o, vi (Dx.1 (40 + c)), vi ((c : Nat) : Int), vi 0, vi 0, vr o, vi nn]) rfl ?_
            refine M.callV (kX11_pieceOf l G o am u ax bx bits (by omega) i (by rw [hFx 7 (Or.inl (by decide))]; omega) 0 (by omega) (Mok_of ht hdx (by omega) hRx hFx)) cv_X11_310 cd_X11_pieceOf rfl (st := [vi (Dx.1 (40 + c)), vi ((c : Nat) : Int), vi 0, vi 0, vr o, vi nn]) rfl (isM_o hMx) (by decide) (by decide) rfl (Nat.zero_le _) (Nat.zero_le _) hMx (fun r18 w19 q20 => ?_)
            rw [q20.1, q20.2]
            rw [hFx 7 (Or.inl (by decide))]
            rw [show bEg (bPs bits (a0 7).toNat) i 0 = (((gP (bPs bits (a0 7).toNat) i).1 : Nat) : Int) from hb0]
            refine M.run 4 (pc' := 75) (lv' := [some (vr o), some (vi ((c : Nat) : Int)), some (vi ((bits : Nat) : Int)), some (vi (((bPs bits (a0 7).toNat).length : Nat) : Int)), some (vi nn), some (vi ((i : Nat) : Int))]) (st' := [vi 1, vi ((i : Nat) : Int), vi ((bits : Nat) : Int), vr o, vi (((gP (bPs bits (a0 7).toNat) i).1 : Nat) : Int), vi (Dx.1 (40 + c)), vi ((c : Nat) : Int), vi 0, vi 0, vr o, vi nn]) rfl ?_
            refine M.callV (kX11_pieceOf l G o am u ax bx bits (by omega) i (by rw [hFx 7 (Or.inl (by decide))]; omega) 1 (by omega) (Mok_of ht hdx (by omega) hRx hFx)) cv_X11_310 cd_X11_pieceOf rfl (st := [vi (((gP (bPs bits (a0 7).toNat) i).1 : Nat) : Int), vi (Dx.1 (40 + c)), vi ((c : Nat) : Int), vi 0, vi 0, vr o, vi nn]) rfl (isM_o hMx) (by decide) (by decide) rfl (Nat.zero_le _) (Nat.zero_le _) hMx (fun r22 w23 q24 => ?_)
            rw [q24.1, q24.2]
            rw [hFx 7 (Or.inl (by decide))]
            rw [show bEg (bPs bits (a0 7).toNat) i 1 = (((gP (bPs bits (a0 7).toNat) i).2 : Nat) : Int) from hb1]
            refine M.run 2 (pc' := 80) (lv' := [some (vr o), some (vi ((c : Nat) : Int)), some (vi ((bits : Nat) : Int)), some (vi (((bPs bits (a0 7).toNat).length : Nat) : Int)), some (vi nn), some (vi ((i : Nat) : Int))]) (st' := [vi 0, vi 0, vi (((gP (bPs bits (a0 7).toNat) i).2 : Nat) : Int), vi (((gP (bPs bits (a0 7).toNat) i).1 : Nat) : Int), vi (Dx.1 (40 + c)), vi ((c : Nat) : Int), vi 0, vi 0, vr o, vi nn]) rfl ?_
            refine M.callV (eX11_put l G o am u a0 b0 Dx _ ht hdx (by omega)  0 (by omega) 0 ((c : Nat) : Int) (Dx.1 (40 + c)) (((gP (bPs bits (a0 7).toNat) i).1 : Nat) : Int) (((gP (bPs bits (a0 7).toNat) i).2 : Nat) : Int) 0 0) cv_X11_314 cd_X11_put rfl (st := [vi nn]) rfl (isM_o hMx) (by decide) (by decide) rfl (Nat.zero_le _) (Nat.zero_le _) ⟨_, _, hMx, hRx, hFx, hBx⟩ (fun r27 w28 q29 => ?_)
            obtain ⟨q29r, a26, b26, hM26, hR26, hF26, hB26⟩ := q29
            rw [q29r]
            have hd26 : Dok (n + 1) (mPut 0 (rwM 0 ((c : Nat) : Int) (Dx.1 (40 + c)) (((gP (bPs bits (a0 7).toNat) i).1 : Nat) : Int) (((gP (bPs bits (a0 7).toNat) i).2 : Nat) : Int) 0 0) Dx) := Dok_put hdx (by omega) (rowOk_M (by omega))
            have es26 : (mPut 0 (rwM 0 ((c : Nat) : Int) (Dx.1 (40 + c)) (((gP (bPs bits (a0 7).toNat) i).1 : Nat) : Int) (((gP (bPs bits (a0 7).toNat) i).2 : Nat) : Int) 0 0) Dx).1 = Dx.1 := (mPut_1 _ _ _).trans rfl
            refine M.run 4 (pc' := 29) (lv' := [some (vr o), some (vi ((c : Nat) : Int)), some (vi ((bits : Nat) : Int)), some (vi (((bPs bits (a0 7).toNat).length : Nat) : Int)), some (vi (nn + (if (Dx.2.1 0).length = 24 then 0 else 1))), some (vi (((i : Nat) : Int) + 1))]) (st' := []) rfl ?_
            exact ih29 ((mPut 0 (rwM 0 ((c : Nat) : Int) (Dx.1 (40 + c)) (((gP (bPs bits (a0 7).toNat) i).1 : Nat) : Int) (((gP (bPs bits (a0 7).toNat) i).2 : Nat) : Int) 0 0) Dx)) (i + 1) (nn + (if (Dx.2.1 0).length = 24 then 0 else 1)) a26 b26 w28 hM26 hR26 hF26 hB26 (by omega) (by first | (rw [hI]; exact mPieces_step (by omega)) | (rw [hI, ← hck (by omega)]; exact mPieces_last (by omega))) (by intro q; rw [mPut_1]; exact hck q) (by rw [mPut_len]; omega) (by omega) (by omega)
    exact Lp29 _ D 0 0 a b w hM hR hF hB (by first | exact hd | exact Dok_mono (by omega) hd) (by first | (rw [mRed_0 (by omega), List.drop_eq_nil_of_le (by omega)]; rfl) | (rw [mRed_s (by omega)]; rfl)) (by first | (intro q; omega) | (intro q; exact uN_s _ _ _)) (Int.sub_self _).symm (by omega) (Nat.lt_succ_self _)
  · skip
    refine M.run 1 (pc' := 14) (lv' := [some (vr o), some (vi ((c : Nat) : Int)), some (vi ((bits : Nat) : Int)), some (vi (((bPs bits (a0 7).toNat).length : Nat) : Int)), some (vi 0), none]) (st' := [vr o]) rfl ?_
    refine M.get fl_X11_7 rfl (isM_o hM) (kf := 0) (v := vr (am 0)) rfl ?_
    refine M.run 4 (pc' := 22) (lv' := [some (vr o), some (vi ((c : Nat) : Int)), some (vi ((bits : Nat) : Int)), some (vi (((bPs bits (a0 7).toNat).length : Nat) : Int)), some (vi 0), none]) (st' := [vi (40 + ((c : Nat) : Int)), vr (am 0), vi (40 + ((c : Nat) : Int)), vr (am 0)]) rfl ?_
    refine M.ialdN (40 + c) rfl (isM_a hM) (by omega) (by decide) ?_
    rw [show a (40 + c) = D.1 (40 + c) from Rp_s hR (k := 40 + c) (by omega) (by omega) (by omega)]
    refine M.run 2 (pc' := 25) (lv' := [some (vr o), some (vi ((c : Nat) : Int)), some (vi ((bits : Nat) : Int)), some (vi (((bPs bits (a0 7).toNat).length : Nat) : Int)), some (vi 0), none]) (st' := [vi ((D.1 (40 + c)) + 1), vi (40 + ((c : Nat) : Int)), vr (am 0)]) rfl ?_
    refine M.iastN (40 + c) rfl (isM_a hM) (by omega) (by decide) ?_
    have hM32 := isM_setA hM (uN a (40 + c) ((D.1 (40 + c)) + 1))
    generalize up w (am 0) (Ar 0 30042 (uN a (40 + c) ((D.1 (40 + c)) + 1))) = w31 at hM32 ⊢
    have hd33x := Dok_mono (m := (n + 1)) (by omega) hd
    have hR33 : Rp _ (mS (40 + c) ((D.1 (40 + c)) + 1) D) := Rp_us hR ((D.1 (40 + c)) + 1) (k := 40 + c) (by omega) (by omega) (by omega)
    have hF33 := Fr_u (k := 40 + c) (v := (D.1 (40 + c)) + 1) hF (by omega) (by omega)
    have hd33 := Dok_S (k := 40 + c) (v := (D.1 (40 + c)) + 1) hd33x (fun _ _ _ => by unfold Shi; (repeat' split) <;> omega)
    have es33 : (mS (40 + c) ((D.1 (40 + c)) + 1) D).1 = uN D.1 (40 + c) ((D.1 (40 + c)) + 1) := rfl
    refine M.run 2 (pc' := 29) (lv' := [some (vr o), some (vi ((c : Nat) : Int)), some (vi ((bits : Nat) : Int)), some (vi (((bPs bits (a0 7).toNat).length : Nat) : Int)), some (vi 0), some (vi 0)]) (st' := []) rfl ?_
    have Lp29 : ∀ (N : Nat) (Dx : Dy) (i : Nat) (nn : Int) (ax : Nat → Int) (bx : Nat → Nat → Int) (wx : Wo), (isM o am u ax bx wx) → (Rp ax Dx) → (Fr a0 ax) → (Fb b0 bx) → (Dok (n + 1) Dx) → (mRed a0 c bits D = mPieces c (D.1 (40 + c) + 1) ((bPs bits (a0 7).toNat).drop i) Dx) → (0 < (bPs bits (a0 7).toNat).length → Dx.1 (40 + c) = D.1 (40 + c) + 1) → (nn = (((Dx.2.1 0).length : Nat) : Int) - (((D.2.1 0).length : Nat) : Int)) → (i ≤ (bPs bits (a0 7).toNat).length) → (bPs bits (a0 7).toNat).length - i < N → g 0 0 wx 29 [some (vr o), some (vi ((c : Nat) : Int)), some (vi ((bits : Nat) : Int)), some (vi (((bPs bits (a0 7).toNat).length : Nat) : Int)), some (vi nn), some (vi ((i : Nat) : Int))] [] := by
      intro N
      induction N with
      | zero => intro Dx i nn ax bx wx _ _ _ _ _ _ _ _ _ hN; exact absurd hN (Nat.not_lt_zero _)
      | succ N ih29 =>
        intro Dx i nn ax bx wx hMx hRx hFx hBx hdx hI hck hnn hil hN
        refine M.run 2 (pc' := 32) (lv' := [some (vr o), some (vi ((c : Nat) : Int)), some (vi ((bits : Nat) : Int)), some (vi (((bPs bits (a0 7).toNat).length : Nat) : Int)), some (vi nn), some (vi ((i : Nat) : Int))]) (st' := [vi (((bPs bits (a0 7).toNat).length : Nat) : Int), vi ((i : Nat) : Int)]) rfl ?_
        refine M.icmp_ge (tgt := 92) rfl (qI (by omega)) (qI (by omega)) (by decide) (fun h32 => ?_) (fun h32 => ?_)
        · skip
          refine M.run 1 (pc' := 94) (lv' := [some (vr o), some (vi ((c : Nat) : Int)), some (vi ((bits : Nat) : Int)), some (vi (((bPs bits (a0 7).toNat).length : Nat) : Int)), some (vi nn), some (vi ((i : Nat) : Int))]) (st' := [vi nn]) rfl ?_
          exact M.iret rfl (Nat.zero_le _) (Nat.zero_le _) (by
              have heq : mRed a0 c bits D = Dx := by rw [hI]; exact mPieces_end (by omega)
              rw [heq]
              exact ⟨by rw [hnn], ax, bx, hMx, hRx, hFx, hBx⟩)
        · skip
          have hq := hps _ (gP_mem (L := (bPs bits (a0 7).toNat)) (i := i) (by omega))
          have hcx := Dok_cnt hdx (x := c) (by omega)
          have hlx := Dok_l hdx (s := 0) (by omega)
          have hb0 := bEg_0 (L := (bPs bits (a0 7).toNat)) (i := i) (by omega)
          have hb1 := bEg_1 (L := (bPs bits (a0 7).toNat)) (i := i) (by omega)
          refine M.run 9 (pc' := 46) (lv' := [some (vr o), some (vi ((c : Nat) : Int)), some (vi ((bits : Nat) : Int)), some (vi (((bPs bits (a0 7).toNat).length : Nat) : Int)), some (vi nn), some (vi ((i : Nat) : Int))]) (st' := [vi ((((bPs bits (a0 7).toNat).length : Nat) : Int) - 1), vi ((i : Nat) : Int), vi ((c : Nat) : Int), vi 0, vi 0, vr o, vi nn]) rfl ?_
          refine M.icmp_ne (tgt := 61) rfl (qI (by omega)) (qI (by omega)) (by decide) (fun h46 => ?_) (fun h46 => ?_)
          · skip
            refine M.run 5 (pc' := 67) (lv' := [some (vr o), some (vi ((c : Nat) : Int)), some (vi ((bits : Nat) : Int)), some (vi (((bPs bits (a0 7).toNat).length : Nat) : Int)), some (vi nn), some (vi ((i : Nat) : Int))]) (st' := [vi 0, vi ((i : Nat) : Int), vi ((bits : Nat) : Int), vr o, vi 0, vi ((c : Nat) : Int), vi 0, vi 0, vr o, vi nn]) rfl ?_
            refine M.callV (kX11_pieceOf l G o am u ax bx bits (by omega) i (by rw [hFx 7 (Or.inl (by decide))]; omega) 0 (by omega) (Mok_of ht hdx (by omega) hRx hFx)) cv_X11_310 cd_X11_pieceOf rfl (st := [vi 0, vi ((c : Nat) : Int), vi 0, vi 0, vr o, vi nn]) rfl (isM_o hMx) (by decide) (by decide) rfl (Nat.zero_le _) (Nat.zero_le _) hMx (fun r34 w35 q36 => ?_)
            rw [q36.1, q36.2]
            rw [hFx 7 (Or.inl (by decide))]
            rw [show bEg (bPs bits (a0 7).toNat) i 0 = (((gP (bPs bits (a0 7).toNat) i).1 : Nat) : Int) from hb0]
            refine M.run 4 (pc' := 75) (lv' := [some (vr o), some (vi ((c : Nat) : Int)), some (vi ((bits : Nat) : Int)), some (vi (((bPs bits (a0 7).toNat).length : Nat) : Int)), some (vi nn), some (vi ((i : Nat) : Int))]) (st' := [vi 1, vi ((i : Nat) : Int), vi ((bits : Nat) : Int), vr o, vi (((gP (bPs bits (a0 7).toNat) i).1 : Nat) : Int), vi 0, vi ((c : Nat) : Int), vi 0, vi 0, vr o, vi nn]) rfl ?_
            refine M.callV (kX11_pieceOf l G o am u ax bx bits (by omega) i (by rw [hFx 7 (Or.inl (by decide))]; omega) 1 (by omega) (Mok_of ht hdx (by omega) hRx hFx)) cv_X11_310 cd_X11_pieceOf rfl (st := [vi (((gP (bPs bits (a0 7).toNat) i).1 : Nat) : Int), vi 0, vi ((c : Nat) : Int), vi 0, vi 0, vr o, vi nn]) rfl (isM_o hMx) (by decide) (by decide) rfl (Nat.zero_le _) (Nat.zero_le _) hMx (fun r38 w39 q40 => ?_)
            rw [q40.1, q40.2]
            rw [hFx 7 (Or.inl (by decide))]
            rw [show bEg (bPs bits (a0 7).toNat) i 1 = (((gP (bPs bits (a0 7).toNat) i).2 : Nat) : Int) from hb1]
            refine M.run 2 (pc' := 80) (lv' := [some (vr o), some (vi ((c : Nat) : Int)), some (vi ((bits : Nat) : Int)), some (vi (((bPs bits (a0 7).toNat).length : Nat) : Int)), some (vi nn), some (vi ((i : Nat) : Int))]) (st' := [vi 0, vi 0, vi (((gP (bPs bits (a0 7).toNat) i).2 : Nat) : Int), vi (((gP (bPs bits (a0 7).toNat) i).1 : Nat) : Int), vi 0, vi ((c : Nat) : Int), vi 0, vi 0, vr o, vi nn]) rfl ?_
            refine M.callV (eX11_put l G o am u a0 b0 Dx _ ht hdx (by omega)  0 (by omega) 0 ((c : Nat) : Int) 0 (((gP (bPs bits (a0 7).toNat) i).1 : Nat) : Int) (((gP (bPs bits (a0 7).toNat) i).2 : Nat) : Int) 0 0) cv_X11_314 cd_X11_put rfl (st := [vi nn]) rfl (isM_o hMx) (by decide) (by decide) rfl (Nat.zero_le _) (Nat.zero_le _) ⟨_, _, hMx, hRx, hFx, hBx⟩ (fun r43 w44 q45 => ?_)
            obtain ⟨q45r, a42, b42, hM42, hR42, hF42, hB42⟩ := q45
            rw [q45r]
            have hd42 : Dok (n + 1) (mPut 0 (rwM 0 ((c : Nat) : Int) 0 (((gP (bPs bits (a0 7).toNat) i).1 : Nat) : Int) (((gP (bPs bits (a0 7).toNat) i).2 : Nat) : Int) 0 0) Dx) := Dok_put hdx (by omega) (rowOk_M (by omega))
            have es42 : (mPut 0 (rwM 0 ((c : Nat) : Int) 0 (((gP (bPs bits (a0 7).toNat) i).1 : Nat) : Int) (((gP (bPs bits (a0 7).toNat) i).2 : Nat) : Int) 0 0) Dx).1 = Dx.1 := (mPut_1 _ _ _).trans rfl
            refine M.run 4 (pc' := 29) (lv' := [some (vr o), some (vi ((c : Nat) : Int)), some (vi ((bits : Nat) : Int)), some (vi (((bPs bits (a0 7).toNat).length : Nat) : Int)), some (vi (nn + (if (Dx.2.1 0).length = 24 then 0 else 1))), some (vi (((i : Nat) : Int) + 1))]) (st' := []) rfl ?_
            exact ih29 ((mPut 0 (rwM 0 ((c : Nat) : Int) 0 (((gP (bPs bits (a0 7).toNat) i).1 : Nat) : Int) (((gP (bPs bits (a0 7).toNat) i).2 : Nat) : Int) 0 0) Dx)) (i + 1) (nn + (if (Dx.2.1 0).length = 24 then 0 else 1)) a42 b42 w44 hM42 hR42 hF42 hB42 (by omega) (by first | (rw [hI]; exact mPieces_step (by omega)) | (rw [hI, ← hck (by omega)]; exact mPieces_last (by omega))) (by intro q; rw [mPut_1]; exact hck q) (by rw [mPut_len]; omega) (by omega) (by omega)
          · skip
            refine M.run 1 (pc' := 50) (lv' := [some (vr o), some (vi ((c : Nat) : Int)), some (vi ((bits : Nat) : Int)), some (vi (((bPs bits (a0 7).toNat).length : Nat) : Int)), some (vi nn), some (vi ((i : Nat) : Int))]) (st' := [vr o, vi ((c : Nat) : Int), vi 0, vi 0, vr o, vi nn]) rfl ?_
            refine M.get fl_X11_7 rfl (isM_o hMx) (kf := 0) (v := vr (am 0)) rfl ?_
            refine M.run 3 (pc' := 57) (lv' := [some (vr o), some (vi ((c : Nat) : Int)), some (vi ((bits : Nat) : Int)), some (vi (((bPs bits (a0 7).toNat).length : Nat) : Int)), some (vi nn), some (vi ((i : Nat) : Int))]) (st' := [vi (40 + ((c : Nat) : Int)), vr (am 0), vi ((c : Nat) : Int), vi 0, vi 0, vr o, vi nn]) rfl ?_
            refine M.ialdN (40 + c) rfl (isM_a hMx) (by omega) (by decide) ?_
            rw [show ax (40 + c) = Dx.1 (40 + c) from Rp_s hRx (k := 40 + c) (by omega) (by omega) (by omega)]
            refine M.run 5 (pc' := 67) (lv' := [some (vr o), some (vi ((c : Nat) : Int)), some (vi ((bits : Nat) : Int)), some (vi (((bPs bits (a0 7).toNat).length : Nat) : Int)), some (vi nn), some (vi ((i : Nat) : Int))]) (st' := [vi 0, vi ((i : Nat) : Int), vi ((bits : Nat) : Int), vr o, vi (Dx.1 (40 + c)), vi ((c : Nat) : Int), vi 0, vi 0, vr o, vi nn]) rfl ?_
            refine M.callV (kX11_pieceOf l G o am u ax bx bits (by omega) i (by rw [hFx 7 (Or.inl (by decide))]; omega) 0 (by omega) (Mok_of ht hdx (by omega) hRx hFx)) cv_X11_310 cd_X11_pieceOf rfl (st := [vi (Dx.1 (40 + c)), vi ((c : Nat) : Int), vi 0, vi 0, vr o, vi nn]) rfl (isM_o hMx) (by decide) (by decide) rfl (Nat.zero_le _) (Nat.zero_le _) hMx (fun r47 w48 q49 => ?_)
            rw [q49.1, q49.2]
            rw [hFx 7 (Or.inl (by decide))]
            rw [show bEg (bPs bits (a0 7).toNat) i 0 = (((gP (bPs bits (a0 7).toNat) i).1 : Nat) : Int) from hb0]
            refine M.run 4 (pc' := 75) (lv' := [some (vr o), some (vi ((c : Nat) : Int)), some (vi ((bits : Nat) : Int)), some (vi (((bPs bits (a0 7).toNat).length : Nat) : Int)), some (vi nn), some (vi ((i : Nat) : Int))]) (st' := [vi 1, vi ((i : Nat) : Int), vi ((bits : Nat) : Int), vr o, vi (((gP (bPs bits (a0 7).toNat) i).1 : Nat) : Int), vi (Dx.1 (40 + c)), vi ((c : Nat) : Int), vi 0, vi 0, vr o, vi nn]) rfl ?_
            refine M.callV (kX11_pieceOf l G o am u ax bx bits (by omega) i (by rw [hFx 7 (Or.inl (by decide))]; omega) 1 (by omega) (Mok_of ht hdx (by omega) hRx hFx)) cv_X11_310 cd_X11_pieceOf rfl (st := [vi (((gP (bPs bits (a0 7).toNat) i).1 : Nat) : Int), vi (Dx.1 (40 + c)), vi ((c : Nat) : Int), vi 0, vi 0, vr o, vi nn]) rfl (isM_o hMx) (by decide) (by decide) rfl (Nat.zero_le _) (Nat.zero_le _) hMx (fun r51 w52 q53 => ?_)
            rw [q53.1, q53.2]
            rw [hFx 7 (Or.inl (by decide))]
            rw [show bEg (bPs bits (a0 7).toNat) i 1 = (((gP (bPs bits (a0 7).toNat) i).2 : Nat) : Int) from hb1]
            refine M.run 2 (pc' := 80) (lv' := [some (vr o), some (vi ((c : Nat) : Int)), some (vi ((bits : Nat) : Int)), some (vi (((bPs bits (a0 7).toNat).length : Nat) : Int)), some (vi nn), some (vi ((i : Nat) : Int))]) (st' := [vi 0, vi 0, vi (((gP (bPs bits (a0 7).toNat) i).2 : Nat) : Int), vi (((gP (bPs bits (a0 7).toNat) i).1 : Nat) : Int), vi (Dx.1 (40 + c)), vi ((c : Nat) : Int), vi 0, vi 0, vr o, vi nn]) rfl ?_
            refine M.callV (eX11_put l G o am u a0 b0 Dx _ ht hdx (by omega)  0 (by omega) 0 ((c : Nat) : Int) (Dx.1 (40 + c)) (((gP (bPs bits (a0 7).toNat) i).1 : Nat) : Int) (((gP (bPs bits (a0 7).toNat) i).2 : Nat) : Int) 0 0) cv_X11_314 cd_X11_put rfl (st := [vi nn]) rfl (isM_o hMx) (by decide) (by decide) rfl (Nat.zero_le _) (Nat.zero_le _) ⟨_, _, hMx, hRx, hFx, hBx⟩ (fun r56 w57 q58 => ?_)
            obtain ⟨q58r, a55, b55, hM55, hR55, hF55, hB55⟩ := q58
            rw [q58r]
            have hd55 : Dok (n + 1) (mPut 0 (rwM 0 ((c : Nat) : Int) (Dx.1 (40 + c)) (((gP (bPs bits (a0 7).toNat) i).1 : Nat) : Int) (((gP (bPs bits (a0 7).toNat) i).2 : Nat) : Int) 0 0) Dx) := Dok_put hdx (by omega) (rowOk_M (by omega))
            have es55 : (mPut 0 (rwM 0 ((c : Nat) : Int) (Dx.1 (40 + c)) (((gP (bPs bits (a0 7).toNat) i).1 : Nat) : Int) (((gP (bPs bits (a0 7).toNat) i).2 : Nat) : Int) 0 0) Dx).1 = Dx.1 := (mPut_1 _ _ _).trans rfl
            refine M.run 4 (pc' := 29) (lv' := [some (vr o), some (vi ((c : Nat) : Int)), some (vi ((bits : Nat) : Int)), some (vi (((bPs bits (a0 7).toNat).length : Nat) : Int)), some (vi (nn + (if (Dx.2.1 0).length = 24 then 0 else 1))), some (vi (((i : Nat) : Int) + 1))]) (st' := []) rfl ?_
            exact ih29 ((mPut 0 (rwM 0 ((c : Nat) : Int) (Dx.1 (40 + c)) (((gP (bPs bits (a0 7).toNat) i).1 : Nat) : Int) (((gP (bPs bits (a0 7).toNat) i).2 : Nat) : Int) 0 0) Dx)) (i + 1) (nn + (if (Dx.2.1 0).length = 24 then 0 else 1)) a55 b55 w57 hM55 hR55 hF55 hB55 (by omega) (by first | (rw [hI]; exact mPieces_step (by omega)) | (rw [hI, ← hck (by omega)]; exact mPieces_last (by omega))) (by intro q; rw [mPut_1]; exact hck q) (by rw [mPut_len]; omega) (by omega) (by omega)
    exact Lp29 _ ((mS (40 + c) ((D.1 (40 + c)) + 1) D)) 0 0 ((uN a (40 + c) ((D.1 (40 + c)) + 1))) b w31 hM32 hR33 hF33 hB (by first | exact hd33 | exact Dok_mono (by omega) hd33) (by first | (rw [mRed_0 (by omega), List.drop_eq_nil_of_le (by omega)]; rfl) | (rw [mRed_s (by omega)]; rfl)) (by first | (intro q; omega) | (intro q; exact uN_s _ _ _)) (Int.sub_self _).symm (by omega) (Nat.lt_succ_self _)
set_option maxHeartbeats 4000000 in
set_option maxRecDepth 100000 in
theorem eX11_openNow_ (l : Launch) (G : GT) (o : Nat) (am : Nat → Nat) (u a0 : Nat → Int) (b0 : Nat → Nat → Int) (D : Dy) (n : Int) (ht : Tok a0) (hd : Dok n D) (hn : 0 ≤ n ∧ n ≤ 899999998) (c : Nat) (hc : c < 3) : Ctr l G yX11_openNow_ cX11_openNow_ 6 ((Option.some Jvm.ClassFile.FieldType.int)) 6 0 0 [vr o, vi ((c : Nat) : Int)] (fun w => isE o am u a0 b0 D w) (fun w r w' => r = some (vi (((((mOpen a0 c D).2.1 0).length : Nat) : Int) - (((D.2.1 0).length : Nat) : Int))) ∧ isE o am u a0 b0 (mOpen a0 c D) w') := by
  refine Ctr.of (t := tX11_openNow_) (lv0 := [some (vr o), some (vi ((c : Nat) : Int)), none, none, none, none]) (by decide +kernel) tX11_openNow__ok rfl rfl (fun w g hP M => ?_)
  obtain ⟨a, b, hM, hR, hF, hB⟩ := hP
  have hk7 : 1 ≤ a0 7 ∧ a0 7 ≤ 9 := ht.1 7 (by decide)
  have hk18 := Dok_clk hd
  have hk_red_c : 0 ≤ a0 (15 + c) ∧ a0 (15 + c) ≤ 30 := Tok_red ht (x := c) (by omega)
  have hk_len_c : 0 ≤ a0 (12 + c) ∧ a0 (12 + c) ≤ 30 := Tok_len ht (x := c) (by omega)
  have hk_l_0 := Dok_l hd (s := 0) (by omega)
  have htl := ht.2.1 c hc
  have hps := bPs_ok (b := bIn (a0 (15 + c)).toNat (a0 (12 + c)).toNat) (sz := (a0 7).toNat) (by omega)
  have hpl : (bPs (bIn (a0 (15 + c)).toNat (a0 (12 + c)).toNat) (a0 7).toNat).length ≤ 30 := bPsF_len _ (a0 7).toNat (by omega) 30 0 (by omega)
  have hbi := bIn_lt (f := (a0 (15 + c)).toNat) (t := (a0 (12 + c)).toNat) (by omega)
  have hrl := bFs_lt (n := (a0 (15 + c)).toNat) (by omega)
  refine M.run 1 (pc' := 1) (lv' := [some (vr o), some (vi ((c : Nat) : Int)), none, none, none, none]) (st' := [vr o]) rfl ?_
  refine M.get fl_X11_7 rfl (isM_o hM) (kf := 0) (v := vr (am 0)) rfl ?_
  refine M.run 4 (pc' := 9) (lv' := [some (vr o), some (vi ((c : Nat) : Int)), none, none, none, none]) (st' := [vi 1, vi (28 + ((c : Nat) : Int)), vr (am 0)]) rfl ?_
  refine M.iastN (28 + c) rfl (isM_a hM) (by omega) (by decide) ?_
  have hM2 := isM_setA hM (uN a (28 + c) 1)
  generalize up w (am 0) (Ar 0 30042 (uN a (28 + c) 1)) = w1 at hM2 ⊢
  have hR3 : Rp _ (mS (28 + c) 1 D) := Rp_us hR 1 (k := 28 + c) (by omega) (by omega) (by omega)
  have hF3 := Fr_u (k := 28 + c) (v := 1) hF (by omega) (by omega)
  have hd3 := Dok_S (k := 28 + c) (v := 1) hd (fun _ _ _ => by unfold Shi; (repeat' split) <;> omega)
  have es3 : (mS (28 + c) 1 D).1 = uN D.1 (28 + c) 1 := rfl
  refine M.run 4 (pc' := 14) (lv' := [some (vr o), some (vi ((c : Nat) : Int)), none, none, none, none]) (st' := [vi 0, vi ((c : Nat) : Int), vi 0, vr o]) rfl ?_
  refine M.callV (eX11_writeDown l G o am u a0 b0 (mS (28 + c) 1 D) _ ht hd3 (by omega)  (D.1 18) (((congrFun es3 _)).trans (uN_o (by omega))) 0 ((c : Nat) : Int) 0 (by omega)) cv_X11_321 cd_X11_writeDown rfl (st := []) rfl (isM_o hM2) (by decide) (by decide) rfl (Nat.zero_le _) (Nat.zero_le _) ⟨_, _, hM2, hR3, hF3, hB⟩ (fun r5 w6 q7 => ?_)
  obtain ⟨q7r, a4, b4, hM4, hR4, hF4, hB4⟩ := q7
  rw [q7r]
  have hd4 : Dok n (mNote (rwB (D.1 18) 0 ((c : Nat) : Int) 0) (mS (28 + c) 1 D)) := Dok_note hd3 (bokOk_B (by omega))
  have es4 : (mNote (rwB (D.1 18) 0 ((c : Nat) : Int) 0) (mS (28 + c) 1 D)).1 = uN D.1 (28 + c) 1 := es3
  refine M.run 4 (pc' := 21) (lv' := [some (vr o), some (vi ((c : Nat) : Int)), none, none, none, none]) (st' := [vi ((c : Nat) : Int), vr o, vi ((c : Nat) : Int), vr o]) rfl ?_
  refine M.callV (kX11_redOf l G o am u a4 b4 c (by omega) (Mok_of ht hd4 (by omega) hR4 hF4)) cv_X11_58 cd_X11_redOf rfl (st := [vi ((c : Nat) : Int), vr o]) rfl (isM_o hM4) (by decide) (by decide) rfl (Nat.zero_le _) (Nat.zero_le _) hM4 (fun r9 w10 q11 => ?_)
  rw [q11.1, q11.2]
  rw [show bFs (a4 (15 + c)).toNat = mRedOf a0 c from by unfold mRedOf; rw [hF4 _ (Or.inl (by omega))]]
  have : mRedOf a0 c < 1073741824 := bFs_lt (n := (a0 (15 + c)).toNat) (by have := Tok_red ht (x := c) (by omega); omega)
  have hrl2 : mRedOf a0 c < 1073741824 := hrl
  refine M.callV (eX11_putRed l G o am u a0 b0 (mNote (rwB (D.1 18) 0 ((c : Nat) : Int) 0) (mS (28 + c) 1 D)) _ ht hd4 (by omega)  c (by omega) (mRedOf a0 c) (by omega)) cv_X11_325 cd_X11_putRed rfl (st := []) rfl (isM_o hM4) (by decide) (by decide) rfl (Nat.zero_le _) (Nat.zero_le _) ⟨_, _, hM4, hR4, hF4, hB4⟩ (fun r14 w15 q16 => ?_)
  obtain ⟨q16r, a13, b13, hM13, hR13, hF13, hB13⟩ := q16
  rw [q16r]
  have hd13 : Dok (n + 1) (mRed a0 c (mRedOf a0 c) (mNote (rwB (D.1 18) 0 ((c : Nat) : Int) 0) (mS (28 + c) 1 D))) := Dok_red ht hd4 (by omega) (by omega)
  have es13 : (mRed a0 c (mRedOf a0 c) (mNote (rwB (D.1 18) 0 ((c : Nat) : Int) 0) (mS (28 + c) 1 D))).1 = (mRed a0 c (mRedOf a0 c) (mNote (rwB (D.1 18) 0 ((c : Nat) : Int) 0) (mS (28 + c) 1 D))).1 := rfl
  refine M.run 2 (pc' := 29) (lv' := [some (vr o), some (vi ((c : Nat) : Int)), some (vi (((((mRed a0 c (mRedOf a0 c) (mNote (rwB (D.1 18) 0 ((c : Nat) : Int) 0) (mS (28 + c) 1 D))).2.1 0).length : Nat) : Int) - ((((mNote (rwB (D.1 18) 0 ((c : Nat) : Int) 0) (mS (28 + c) 1 D)).2.1 0).length : Nat) : Int))), none, none, none]) (st' := [vr o]) rfl ?_
  refine M.get fl_X11_7 rfl (isM_o hM13) (kf := 0) (v := vr (am 0)) rfl ?_
  refine M.run 3 (pc' := 36) (lv' := [some (vr o), some (vi ((c : Nat) : Int)), some (vi (((((mRed a0 c (mRedOf a0 c) (mNote (rwB (D.1 18) 0 ((c : Nat) : Int) 0) (mS (28 + c) 1 D))).2.1 0).length : Nat) : Int) - ((((mNote (rwB (D.1 18) 0 ((c : Nat) : Int) 0) (mS (28 + c) 1 D)).2.1 0).length : Nat) : Int))), none, none, none]) (st' := [vi (15 + ((c : Nat) : Int)), vr (am 0)]) rfl ?_
  refine M.ialdN (15 + c) rfl (isM_a hM13) (by omega) (by decide) ?_
  rw [show a13 (15 + c) = a0 (15 + c) from hF13 _ (Or.inl (by omega))]
  refine M.run 1 (pc' := 38) (lv' := [some (vr o), some (vi ((c : Nat) : Int)), some (vi (((((mRed a0 c (mRedOf a0 c) (mNote (rwB (D.1 18) 0 ((c : Nat) : Int) 0) (mS (28 + c) 1 D))).2.1 0).length : Nat) : Int) - ((((mNote (rwB (D.1 18) 0 ((c : Nat) : Int) 0) (mS (28 + c) 1 D)).2.1 0).length : Nat) : Int))), none, none, none]) (st' := [vr o, vi (a0 (15 + c))]) rfl ?_
  refine M.get fl_X11_7 rfl (isM_o hM13) (kf := 0) (v := vr (am 0)) rfl ?_
  refine M.run 3 (pc' := 45) (lv' := [some (vr o), some (vi ((c : Nat) : Int)), some (vi (((((mRed a0 c (mRedOf a0 c) (mNote (rwB (D.1 18) 0 ((c : Nat) : Int) 0) (mS (28 + c) 1 D))).2.1 0).length : Nat) : Int) - ((((mNote (rwB (D.1 18) 0 ((c : Nat) : Int) 0) (mS (28 + c) 1 D)).2.1 0).length : Nat) : Int))), none, none, none]) (st' := [vi (12 + ((c : Nat) : Int)), vr (am 0), vi (a0 (15 + c))]) rfl ?_
  refine M.ialdN (12 + c) rfl (isM_a hM13) (by omega) (by decide) ?_
  rw [show a13 (12 + c) = a0 (12 + c) from hF13 _ (Or.inl (by omega))]
  rw [show a0 (15 + c) = (((a0 (15 + c)).toNat : Nat) : Int) from (Int.toNat_of_nonneg (by omega)).symm]
  rw [show a0 (12 + c) = (((a0 (12 + c)).toNat : Nat) : Int) from (Int.toNat_of_nonneg (by omega)).symm]
  refine M.callS (kX11_bytesIn l G ((a0 (15 + c)).toNat) ((a0 (12 + c)).toNat) (by omega) (by omega)) cs_X11_54 cd_X11_bytesIn rfl (st := []) rfl (by decide) (by decide) rfl (Nat.zero_le _) (Nat.zero_le _) trivial (fun r18 w19 q20 => ?_)
  rw [q20.1, q20.2]
  refine M.run 3 (pc' := 52) (lv' := [some (vr o), some (vi ((c : Nat) : Int)), some (vi (((((mRed a0 c (mRedOf a0 c) (mNote (rwB (D.1 18) 0 ((c : Nat) : Int) 0) (mS (28 + c) 1 D))).2.1 0).length : Nat) : Int) - ((((mNote (rwB (D.1 18) 0 ((c : Nat) : Int) 0) (mS (28 + c) 1 D)).2.1 0).length : Nat) : Int))), some (vi ((bIn ((a0 (15 + c)).toNat) ((a0 (12 + c)).toNat) : Nat) : Int)), none, none]) (st' := [vi ((bIn ((a0 (15 + c)).toNat) ((a0 (12 + c)).toNat) : Nat) : Int), vr o]) rfl ?_
  refine M.callV (kX11_piecesOf l G o am u a13 b13 (bIn ((a0 (15 + c)).toNat) ((a0 (12 + c)).toNat)) (by omega) (Mok_of ht hd13 (by omega) hR13 hF13)) cv_X11_307 cd_X11_piecesOf rfl (st := []) rfl (isM_o hM13) (by decide) (by decide) rfl (Nat.zero_le _) (Nat.zero_le _) hM13 (fun r22 w23 q24 => ?_)
  rw [q24.1, q24.2]
  rw [hF13 7 (Or.inl (by decide))]
  refine M.run 3 (pc' := 60) (lv' := [some (vr o), some (vi ((c : Nat) : Int)), some (vi (((((mRed a0 c (mRedOf a0 c) (mNote (rwB (D.1 18) 0 ((c : Nat) : Int) 0) (mS (28 + c) 1 D))).2.1 0).length : Nat) : Int) - ((((mNote (rwB (D.1 18) 0 ((c : Nat) : Int) 0) (mS (28 + c) 1 D)).2.1 0).length : Nat) : Int))), some (vi ((bIn ((a0 (15 + c)).toNat) ((a0 (12 + c)).toNat) : Nat) : Int)), some (vi (((bPs (bIn ((a0 (15 + c)).toNat) ((a0 (12 + c)).toNat)) (a0 7).toNat).length : Nat) : Int)), some (vi 0)]) (st' := []) rfl ?_
  have Lp60 : ∀ (N : Nat) (Dx : Dy) (i : Nat) (nn : Int) (ax : Nat → Int) (bx : Nat → Nat → Int) (wx : Wo), (isM o am u ax bx wx) → (Rp ax Dx) → (Fr a0 ax) → (Fb b0 bx) → (Dok (n + 1) Dx) → (mPieces c 0 (bPs (bIn (a0 (15 + c)).toNat (a0 (12 + c)).toNat) (a0 7).toNat) (mRed a0 c (mRedOf a0 c) (mNote (rwB (D.1 18) 0 ((c : Nat) : Int) 0) (mS (28 + c) 1 D))) = mPieces c 0 ((bPs (bIn (a0 (15 + c)).toNat (a0 (12 + c)).toNat) (a0 7).toNat).drop i) Dx) → (nn = (((Dx.2.1 0).length : Nat) : Int) - (((D.2.1 0).length : Nat) : Int)) → (i ≤ (bPs (bIn (a0 (15 + c)).toNat (a0 (12 + c)).toNat) (a0 7).toNat).length) → (bPs (bIn (a0 (15 + c)).toNat (a0 (12 + c)).toNat) (a0 7).toNat).length - i < N → g 0 0 wx 60 [some (vr o), some (vi ((c : Nat) : Int)), some (vi nn), some (vi ((bIn (a0 (15 + c)).toNat (a0 (12 + c)).toNat : Nat) : Int)), some (vi (((bPs (bIn (a0 (15 + c)).toNat (a0 (12 + c)).toNat) (a0 7).toNat).length : Nat) : Int)), some (vi ((i : Nat) : Int))] [] := by
    intro N
    induction N with
    | zero => intro Dx i nn ax bx wx _ _ _ _ _ _ _ _ hN; exact absurd hN (Nat.not_lt_zero _)
    | succ N ih60 =>
      intro Dx i nn ax bx wx hMx hRx hFx hBx hdx hI hnn hil hN
      refine M.run 2 (pc' := 64) (lv' := [some (vr o), some (vi ((c : Nat) : Int)), some (vi nn), some (vi ((bIn (a0 (15 + c)).toNat (a0 (12 + c)).toNat : Nat) : Int)), some (vi (((bPs (bIn (a0 (15 + c)).toNat (a0 (12 + c)).toNat) (a0 7).toNat).length : Nat) : Int)), some (vi ((i : Nat) : Int))]) (st' := [vi (((bPs (bIn (a0 (15 + c)).toNat (a0 (12 + c)).toNat) (a0 7).toNat).length : Nat) : Int), vi ((i : Nat) : Int)]) rfl ?_
      refine M.icmp_ge (tgt := 102) rfl (qI (by omega)) (qI (by omega)) (by decide) (fun h64 => ?_) (fun h64 => ?_)
      · skip
        refine M.run 1 (pc' := 103) (lv' := [some (vr o), some (vi ((c : Nat) : Int)), some (vi nn), some (vi ((bIn (a0 (15 + c)).toNat (a0 (12 + c)).toNat : Nat) : Int)), some (vi (((bPs (bIn (a0 (15 + c)).toNat (a0 (12 + c)).toNat) (a0 7).toNat).length : Nat) : Int)), some (vi ((i : Nat) : Int))]) (st' := [vr o]) rfl ?_
        refine M.get fl_X11_7 rfl (isM_o hMx) (kf := 0) (v := vr (am 0)) rfl ?_
        refine M.run 3 (pc' := 110) (lv' := [some (vr o), some (vi ((c : Nat) : Int)), some (vi nn), some (vi ((bIn (a0 (15 + c)).toNat (a0 (12 + c)).toNat : Nat) : Int)), some (vi (((bPs (bIn (a0 (15 + c)).toNat (a0 (12 + c)).toNat) (a0 7).toNat).length : Nat) : Int)), some (vi ((i : Nat) : Int))]) (st' := [vi (15 + ((c : Nat) : Int)), vr (am 0)]) rfl ?_
        refine M.ialdN (15 + c) rfl (isM_a hMx) (by omega) (by decide) ?_
        rw [show ax (15 + c) = a0 (15 + c) from hFx _ (Or.inl (by omega))]
        refine M.if_ne (tgt := 119) rfl (qI (by omega)) (by decide) (fun h111 => ?_) (fun h111 => ?_)
        · skip
          refine M.run 1 (pc' := 120) (lv' := [some (vr o), some (vi ((c : Nat) : Int)), some (vi nn), some (vi ((bIn (a0 (15 + c)).toNat (a0 (12 + c)).toNat : Nat) : Int)), some (vi (((bPs (bIn (a0 (15 + c)).toNat (a0 (12 + c)).toNat) (a0 7).toNat).length : Nat) : Int)), some (vi ((i : Nat) : Int))]) (st' := [vi nn]) rfl ?_
          exact M.iret rfl (Nat.zero_le _) (Nat.zero_le _) (by
              have heq : mPieces c 0 (bPs (bIn (a0 (15 + c)).toNat (a0 (12 + c)).toNat) (a0 7).toNat) (mRed a0 c (mRedOf a0 c) (mNote (rwB (D.1 18) 0 ((c : Nat) : Int) 0) (mS (28 + c) 1 D))) = Dx := by rw [hI]; exact mPieces_end (by omega)
              first
              | (have heq2 : mOpen a0 c D = mEnd c Dx := by unfold mOpen; simp only [if_pos h111]; rw [heq]
                 rw [heq2]
                 exact ⟨by rw [hnn]; rfl, _, _, hMx, hRx, hFx, hBx⟩)
              | (have heq2 : mOpen a0 c D = Dx := by unfold mOpen; simp only [if_neg h111]; rw [heq]
                 rw [heq2]
                 exact ⟨by rw [hnn], _, _, hMx, hRx, hFx, hBx⟩))
        · skip
          refine M.run 2 (pc' := 116) (lv' := [some (vr o), some (vi ((c : Nat) : Int)), some (vi nn), some (vi ((bIn (a0 (15 + c)).toNat (a0 (12 + c)).toNat : Nat) : Int)), some (vi (((bPs (bIn (a0 (15 + c)).toNat (a0 (12 + c)).toNat) (a0 7).toNat).length : Nat) : Int)), some (vi ((i : Nat) : Int))]) (st' := [vi ((c : Nat) : Int), vr o]) rfl ?_
          refine M.callV (eX11_endNow l G o am u a0 b0 Dx _ ht hdx (by omega)  c (by omega)) cv_X11_328 cd_X11_endNow rfl (st := []) rfl (isM_o hMx) (by decide) (by decide) rfl (Nat.zero_le _) (Nat.zero_le _) ⟨_, _, hMx, hRx, hFx, hBx⟩ (fun r27 w28 q29 => ?_)
          obtain ⟨q29r, a26, b26, hM26, hR26, hF26, hB26⟩ := q29
          rw [q29r]
          have hd26 : Dok (n + 1) (mEnd c Dx) := Dok_end hdx (by omega)
          have es26 : (mEnd c Dx).1 = uN Dx.1 (28 + c) 2 := rfl
          refine M.run 1 (pc' := 120) (lv' := [some (vr o), some (vi ((c : Nat) : Int)), some (vi nn), some (vi ((bIn (a0 (15 + c)).toNat (a0 (12 + c)).toNat : Nat) : Int)), some (vi (((bPs (bIn (a0 (15 + c)).toNat (a0 (12 + c)).toNat) (a0 7).toNat).length : Nat) : Int)), some (vi ((i : Nat) : Int))]) (st' := [vi nn]) rfl ?_
          exact M.iret rfl (Nat.zero_le _) (Nat.zero_le _) (by
              have heq : mPieces c 0 (bPs (bIn (a0 (15 + c)).toNat (a0 (12 + c)).toNat) (a0 7).toNat) (mRed a0 c (mRedOf a0 c) (mNote (rwB (D.1 18) 0 ((c : Nat) : Int) 0) (mS (28 + c) 1 D))) = Dx := by rw [hI]; exact mPieces_end (by omega)
              first
              | (have heq2 : mOpen a0 c D = mEnd c Dx := by unfold mOpen; simp only [if_pos h111]; rw [heq]
                 rw [heq2]
                 exact ⟨by rw [hnn]; rfl, _, _, hM26, hR26, hF26, hB26⟩)
              | (have heq2 : mOpen a0 c D = Dx := by unfold mOpen; simp only [if_neg h111]; rw [heq]
                 rw [heq2]
                 exact ⟨by rw [hnn], _, _, hM26, hR26, hF26, hB26⟩))
      · skip
        have hq := hps _ (gP_mem (L := (bPs (bIn (a0 (15 + c)).toNat (a0 (12 + c)).toNat) (a0 7).toNat)) (i := i) (by omega))
        have hlx := Dok_l hdx (s := 0) (by omega)
        have hb0 := bEg_0 (L := (bPs (bIn (a0 (15 + c)).toNat (a0 (12 + c)).toNat) (a0 7).toNat)) (i := i) (by omega)
        have hb1 := bEg_1 (L := (bPs (bIn (a0 (15 + c)).toNat (a0 (12 + c)).toNat) (a0 7).toNat)) (i := i) (by omega)
        refine M.run 10 (pc' := 78) (lv' := [some (vr o), some (vi ((c : Nat) : Int)), some (vi nn), some (vi ((bIn (a0 (15 + c)).toNat (a0 (12 + c)).toNat : Nat) : Int)), some (vi (((bPs (bIn (a0 (15 + c)).toNat (a0 (12 + c)).toNat) (a0 7).toNat).length : Nat) : Int)), some (vi ((i : Nat) : Int))]) (st' := [vi 0, vi ((i : Nat) : Int), vi ((bIn (a0 (15 + c)).toNat (a0 (12 + c)).toNat : Nat) : Int), vr o, vi 0, vi ((c : Nat) : Int), vi 0, vi 0, vr o, vi nn]) rfl ?_
        refine M.callV (kX11_pieceOf l G o am u ax bx (bIn (a0 (15 + c)).toNat (a0 (12 + c)).toNat) (by omega) i (by rw [hFx 7 (Or.inl (by decide))]; omega) 0 (by omega) (Mok_of ht hdx (by omega) hRx hFx)) cv_X11_310 cd_X11_pieceOf rfl (st := [vi 0, vi ((c : Nat) : Int), vi 0, vi 0, vr o, vi nn]) rfl (isM_o hMx) (by decide) (by decide) rfl (Nat.zero_le _) (Nat.zero_le _) hMx (fun r31 w32 q33 => ?_)
        rw [q33.1, q33.2]
        rw [hFx 7 (Or.inl (by decide))]
        rw [show bEg (bPs (bIn (a0 (15 + c)).toNat (a0 (12 + c)).toNat) (a0 7).toNat) i 0 = (((gP (bPs (bIn (a0 (15 + c)).toNat (a0 (12 + c)).toNat) (a0 7).toNat) i).1 : Nat) : Int) from hb0]
        refine M.run 4 (pc' := 86) (lv' := [some (vr o), some (vi ((c : Nat) : Int)), some (vi nn), some (vi ((bIn (a0 (15 + c)).toNat (a0 (12 + c)).toNat : Nat) : Int)), some (vi (((bPs (bIn (a0 (15 + c)).toNat (a0 (12 + c)).toNat) (a0 7).toNat).length : Nat) : Int)), some (vi ((i : Nat) : Int))]) (st' := [vi 1, vi ((i : Nat) : Int), vi ((bIn (a0 (15 + c)).toNat (a0 (12 + c)).toNat : Nat) : Int), vr o, vi (((gP (bPs (bIn (a0 (15 + c)).toNat (a0 (12 + c)).toNat) (a0 7).toNat) i).1 : Nat) : Int), vi 0, vi ((c : Nat) : Int), vi 0, vi 0, vr o, vi nn]) rfl ?_
        refine M.callV (kX11_pieceOf l G o am u ax bx (bIn (a0 (15 + c)).toNat (a0 (12 + c)).toNat) (by omega) i (by rw [hFx 7 (Or.inl (by decide))]; omega) 1 (by omega) (Mok_of ht hdx (by omega) hRx hFx)) cv_X11_310 cd_X11_pieceOf rfl (st := [vi (((gP (bPs (bIn (a0 (15 + c)).toNat (a0 (12 + c)).toNat) (a0 7).toNat) i).1 : Nat) : Int), vi 0, vi ((c : Nat) : Int), vi 0, vi 0, vr o, vi nn]) rfl (isM_o hMx) (by decide) (by decide) rfl (Nat.zero_le _) (Nat.zero_le _) hMx (fun r35 w36 q37 => ?_)
        rw [q37.1, q37.2]
        rw [hFx 7 (Or.inl (by decide))]
        rw [show bEg (bPs (bIn (a0 (15 + c)).toNat (a0 (12 + c)).toNat) (a0 7).toNat) i 1 = (((gP (bPs (bIn (a0 (15 + c)).toNat (a0 (12 + c)).toNat) (a0 7).toNat) i).2 : Nat) : Int) from hb1]
        refine M.run 2 (pc' := 91) (lv' := [some (vr o), some (vi ((c : Nat) : Int)), some (vi nn), some (vi ((bIn (a0 (15 + c)).toNat (a0 (12 + c)).toNat : Nat) : Int)), some (vi (((bPs (bIn (a0 (15 + c)).toNat (a0 (12 + c)).toNat) (a0 7).toNat).length : Nat) : Int)), some (vi ((i : Nat) : Int))]) (st' := [vi 0, vi 0, vi (((gP (bPs (bIn (a0 (15 + c)).toNat (a0 (12 + c)).toNat) (a0 7).toNat) i).2 : Nat) : Int), vi (((gP (bPs (bIn (a0 (15 + c)).toNat (a0 (12 + c)).toNat) (a0 7).toNat) i).1 : Nat) : Int), vi 0, vi ((c : Nat) : Int), vi 0, vi 0, vr o, vi nn]) rfl ?_
        refine M.callV (eX11_put l G o am u a0 b0 Dx _ ht hdx (by omega)  0 (by omega) 0 ((c : Nat) : Int) 0 (((gP (bPs (bIn (a0 (15 + c)).toNat (a0 (12 + c)).toNat) (a0 7).toNat) i).1 : Nat) : Int) (((gP (bPs (bIn (a0 (15 + c)).toNat (a0 (12 + c)).toNat) (a0 7).toNat) i).2 : Nat) : Int) 0 0) cv_X11_314 cd_X11_put rfl (st := [vi nn]) rfl (isM_o hMx) (by decide) (by decide) rfl (Nat.zero_le _) (Nat.zero_le _) ⟨_, _, hMx, hRx, hFx, hBx⟩ (fun r40 w41 q42 => ?_)
        obtain ⟨q42r, a39, b39, hM39, hR39, hF39, hB39⟩ := q42
        rw [q42r]
        have hd39 : Dok (n + 1) (mPut 0 (rwM 0 ((c : Nat) : Int) 0 (((gP (bPs (bIn (a0 (15 + c)).toNat (a0 (12 + c)).toNat) (a0 7).toNat) i).1 : Nat) : Int) (((gP (bPs (bIn (a0 (15 + c)).toNat (a0 (12 + c)).toNat) (a0 7).toNat) i).2 : Nat) : Int) 0 0) Dx) := Dok_put hdx (by omega) (rowOk_M (by omega))
        have es39 : (mPut 0 (rwM 0 ((c : Nat) : Int) 0 (((gP (bPs (bIn (a0 (15 + c)).toNat (a0 (12 + c)).toNat) (a0 7).toNat) i).1 : Nat) : Int) (((gP (bPs (bIn (a0 (15 + c)).toNat (a0 (12 + c)).toNat) (a0 7).toNat) i).2 : Nat) : Int) 0 0) Dx).1 = Dx.1 := (mPut_1 _ _ _).trans rfl
        refine M.run 4 (pc' := 60) (lv' := [some (vr o), some (vi ((c : Nat) : Int)), some (vi (nn + (if (Dx.2.1 0).length = 24 then 0 else 1))), some (vi ((bIn (a0 (15 + c)).toNat (a0 (12 + c)).toNat : Nat) : Int)), some (vi (((bPs (bIn (a0 (15 + c)).toNat (a0 (12 + c)).toNat) (a0 7).toNat).length : Nat) : Int)), some (vi (((i : Nat) : Int) + 1))]) (st' := []) rfl ?_
        exact ih60 ((mPut 0 (rwM 0 ((c : Nat) : Int) 0 (((gP (bPs (bIn (a0 (15 + c)).toNat (a0 (12 + c)).toNat) (a0 7).toNat) i).1 : Nat) : Int) (((gP (bPs (bIn (a0 (15 + c)).toNat (a0 (12 + c)).toNat) (a0 7).toNat) i).2 : Nat) : Int) 0 0) Dx)) (i + 1) (nn + (if (Dx.2.1 0).length = 24 then 0 else 1)) a39 b39 w41 hM39 hR39 hF39 hB39 hd39 (by rw [hI]; exact mPieces_z (by omega)) (by rw [mPut_len]; omega) (by omega) (by omega)
  exact Lp60 _ ((mRed a0 c (mRedOf a0 c) (mNote (rwB (D.1 18) 0 ((c : Nat) : Int) 0) (mS (28 + c) 1 D)))) 0 (((((mRed a0 c (mRedOf a0 c) (mNote (rwB (D.1 18) 0 ((c : Nat) : Int) 0) (mS (28 + c) 1 D))).2.1 0).length : Nat) : Int) - ((((mNote (rwB (D.1 18) 0 ((c : Nat) : Int) 0) (mS (28 + c) 1 D)).2.1 0).length : Nat) : Int)) a13 b13 w15 hM13 hR13 hF13 hB13 hd13 rfl rfl (by omega) (Nat.lt_succ_self _)
set_option maxHeartbeats 4000000 in
set_option maxRecDepth 100000 in
theorem eX11_gotData (l : Launch) (G : GT) (o : Nat) (am : Nat → Nat) (u a0 : Nat → Int) (b0 : Nat → Nat → Int) (D : Dy) (n : Int) (ht : Tok a0) (hd : Dok n D) (hn : 0 ≤ n ∧ n ≤ 899999998) (c : Nat) (hc : c < 3) (serial : Int) (hse : 0 ≤ serial ∧ serial ≤ n) (f t : Nat) (hft : f ≤ t ∧ t ≤ 30) : Ctr l G yX11_gotData cX11_gotData 5 ((Option.none : Option Jvm.ClassFile.FieldType)) 3 0 0 [vr o, vi ((c : Nat) : Int), vi serial, vi ((f : Nat) : Int), vi ((t : Nat) : Int)] (fun w => isE o am u a0 b0 D w) (fun w r w' => r = none ∧ isE o am u a0 b0 (mGotData a0 c serial f t D) w') := by
  refine Ctr.of (t := tX11_gotData) (lv0 := [some (vr o), some (vi ((c : Nat) : Int)), some (vi serial), some (vi ((f : Nat) : Int)), some (vi ((t : Nat) : Int))]) (by decide +kernel) tX11_gotData_ok rfl rfl (fun w g hP M => ?_)
  obtain ⟨a, b, hM, hR, hF, hB⟩ := hP
  have hk_com_c : 0 ≤ D.1 (37 + c) ∧ D.1 (37 + c) ≤ 1073741823 := by have := Dok_bit hd (x := 3 + c) (by omega); rwa [show 34 + (3 + c) = 37 + c by omega] at this
  have hk_rep_c : 0 ≤ D.1 (43 + c) ∧ D.1 (43 + c) ≤ n := by have := Dok_cnt hd (x := 3 + c) (by omega); rwa [show 40 + (3 + c) = 43 + c by omega] at this
  have hk_how_c : 0 ≤ D.1 (28 + c) ∧ D.1 (28 + c) ≤ 3 := by have := Dok_how hd (x := 0 + c) (by omega); rwa [show 28 + (0 + c) = 28 + c by omega] at this
  have hk_h1 := Dok_how hd (x := 3 + c) (by omega)
  rw [show 28 + (3 + c) = 31 + c by omega] at hk_h1
  have hbi := bIn_lt (f := f) (t := t) (by omega)
  have hor := or_lt30 (x := (D.1 (37 + c)).toNat) (y := bIn f t) (by omega) hbi
  refine M.run 3 (pc' := 3) (lv' := [some (vr o), some (vi ((c : Nat) : Int)), some (vi serial), some (vi ((f : Nat) : Int)), some (vi ((t : Nat) : Int))]) (st' := [vi 1, vi ((c : Nat) : Int), vr o]) rfl ?_
  refine M.callV (eX11_howAt l G o am u a0 b0 D _ ht hd (by omega) c (by omega) 1 (by omega)) cv_X11_334 cd_X11_howAt rfl (st := []) rfl (isM_o hM) (by decide) (by decide) rfl (Nat.zero_le _) (Nat.zero_le _) ⟨_, _, hM, hR, hF, hB⟩ (fun r1 w2 q3 => ?_)
  rw [q3.1, q3.2]
  rw [show D.1 (28 + 3 * 1 + c) = D.1 (31 + c) from rfl]
  refine M.run 1 (pc' := 7) (lv' := [some (vr o), some (vi ((c : Nat) : Int)), some (vi serial), some (vi ((f : Nat) : Int)), some (vi ((t : Nat) : Int))]) (st' := [vi 3, vi (D.1 (31 + c))]) rfl ?_
  refine M.icmp_ne (tgt := 11) rfl (qI (by omega)) (qI (by decide)) (by decide) (fun h7 => ?_) (fun h7 => ?_)
  · skip
    refine M.run 1 (pc' := 12) (lv' := [some (vr o), some (vi ((c : Nat) : Int)), some (vi serial), some (vi ((f : Nat) : Int)), some (vi ((t : Nat) : Int))]) (st' := [vr o]) rfl ?_
    refine M.get fl_X11_7 rfl (isM_o hM) (kf := 0) (v := vr (am 0)) rfl ?_
    refine M.run 4 (pc' := 20) (lv' := [some (vr o), some (vi ((c : Nat) : Int)), some (vi serial), some (vi ((f : Nat) : Int)), some (vi ((t : Nat) : Int))]) (st' := [vi (37 + ((c : Nat) : Int)), vr (am 0), vi (37 + ((c : Nat) : Int)), vr (am 0)]) rfl ?_
    refine M.ialdN (37 + c) rfl (isM_a hM) (by omega) (by decide) ?_
    rw [show a (37 + c) = D.1 (37 + c) from Rp_s hR (k := 37 + c) (by omega) (by omega) (by omega)]
    rw [show D.1 (37 + c) = (((D.1 (37 + c)).toNat : Nat) : Int) from (Int.toNat_of_nonneg (by omega)).symm]
    refine M.run 2 (pc' := 24) (lv' := [some (vr o), some (vi ((c : Nat) : Int)), some (vi serial), some (vi ((f : Nat) : Int)), some (vi ((t : Nat) : Int))]) (st' := [vi ((t : Nat) : Int), vi ((f : Nat) : Int), vi (((D.1 (37 + c)).toNat : Nat) : Int), vi (37 + ((c : Nat) : Int)), vr (am 0)]) rfl ?_
    refine M.callS (kX11_bytesIn l G f t (by omega) (by omega)) cs_X11_54 cd_X11_bytesIn rfl (st := [vi (((D.1 (37 + c)).toNat : Nat) : Int), vi (37 + ((c : Nat) : Int)), vr (am 0)]) rfl (by decide) (by decide) rfl (Nat.zero_le _) (Nat.zero_le _) trivial (fun r5 w6 q7 => ?_)
    rw [q7.1, q7.2]
    refine M.ior (b1 := (D.1 (37 + c)).toNat) (b2 := bIn f t) rfl (by omega) (by omega) ?_
    refine M.iastN (37 + c) rfl (isM_a hM) (by omega) (by decide) ?_
    have hM10 := isM_setA hM (uN a (37 + c) ((((D.1 (37 + c)).toNat) ||| (bIn f t) : Nat) : Int))
    generalize up w (am 0) (Ar 0 30042 (uN a (37 + c) ((((D.1 (37 + c)).toNat) ||| (bIn f t) : Nat) : Int))) = w9 at hM10 ⊢
    have hR11 : Rp _ (mS (37 + c) ((((D.1 (37 + c)).toNat) ||| (bIn f t) : Nat) : Int) D) := Rp_us hR ((((D.1 (37 + c)).toNat) ||| (bIn f t) : Nat) : Int) (k := 37 + c) (by omega) (by omega) (by omega)
    have hF11 := Fr_u (k := 37 + c) (v := ((((D.1 (37 + c)).toNat) ||| (bIn f t) : Nat) : Int)) hF (by omega) (by omega)
    have hd11 := Dok_S (k := 37 + c) (v := ((((D.1 (37 + c)).toNat) ||| (bIn f t) : Nat) : Int)) hd (fun _ _ _ => by unfold Shi; (repeat' split) <;> omega)
    have es11 : (mS (37 + c) ((((D.1 (37 + c)).toNat) ||| (bIn f t) : Nat) : Int) D).1 = uN D.1 (37 + c) ((((D.1 (37 + c)).toNat) ||| (bIn f t) : Nat) : Int) := rfl
    refine M.run 1 (pc' := 30) (lv' := [some (vr o), some (vi ((c : Nat) : Int)), some (vi serial), some (vi ((f : Nat) : Int)), some (vi ((t : Nat) : Int))]) (st' := [vi serial]) rfl ?_
    refine M.if_ne (tgt := 34) rfl (qI (by omega)) (by decide) (fun h30 => ?_) (fun h30 => ?_)
    · skip
      refine M.run 1 (pc' := 35) (lv' := [some (vr o), some (vi ((c : Nat) : Int)), some (vi serial), some (vi ((f : Nat) : Int)), some (vi ((t : Nat) : Int))]) (st' := [vr o]) rfl ?_
      refine M.get fl_X11_7 rfl (isM_o hM10) (kf := 0) (v := vr (am 0)) rfl ?_
      refine M.run 4 (pc' := 43) (lv' := [some (vr o), some (vi ((c : Nat) : Int)), some (vi serial), some (vi ((f : Nat) : Int)), some (vi ((t : Nat) : Int))]) (st' := [vi (43 + ((c : Nat) : Int)), vr (am 0), vi (43 + ((c : Nat) : Int)), vr (am 0)]) rfl ?_
      refine M.ialdN (43 + c) rfl (isM_a hM10) (by omega) (by decide) ?_
      rw [show (uN a (37 + c) ((((D.1 (37 + c)).toNat) ||| (bIn f t) : Nat) : Int)) (43 + c) = D.1 (43 + c) from (Rp_s hR11 (k := 43 + c) (by omega) (by omega) (by omega)).trans (((congrFun es11 _)).trans (uN_o (by omega)))]
      refine M.run 2 (pc' := 46) (lv' := [some (vr o), some (vi ((c : Nat) : Int)), some (vi serial), some (vi ((f : Nat) : Int)), some (vi ((t : Nat) : Int))]) (st' := [vi ((D.1 (43 + c)) + 1), vi (43 + ((c : Nat) : Int)), vr (am 0)]) rfl ?_
      refine M.iastN (43 + c) rfl (isM_a hM10) (by omega) (by decide) ?_
      have hM13 := isM_setA hM10 (uN (uN a (37 + c) ((((D.1 (37 + c)).toNat) ||| (bIn f t) : Nat) : Int)) (43 + c) ((D.1 (43 + c)) + 1))
      generalize up w9 (am 0) (Ar 0 30042 (uN (uN a (37 + c) ((((D.1 (37 + c)).toNat) ||| (bIn f t) : Nat) : Int)) (43 + c) ((D.1 (43 + c)) + 1))) = w12 at hM13 ⊢
      have hd14x := Dok_mono (m := (n + 1)) (by omega) hd11
      have hR14 : Rp _ (mS (43 + c) ((D.1 (43 + c)) + 1) (mS (37 + c) ((((D.1 (37 + c)).toNat) ||| (bIn f t) : Nat) : Int) D)) := Rp_us hR11 ((D.1 (43 + c)) + 1) (k := 43 + c) (by omega) (by omega) (by omega)
      have hF14 := Fr_u (k := 43 + c) (v := (D.1 (43 + c)) + 1) hF11 (by omega) (by omega)
      have hd14 := Dok_S (k := 43 + c) (v := (D.1 (43 + c)) + 1) hd14x (fun _ _ _ => by unfold Shi; (repeat' split) <;> omega)
      have es14 : (mS (43 + c) ((D.1 (43 + c)) + 1) (mS (37 + c) ((((D.1 (37 + c)).toNat) ||| (bIn f t) : Nat) : Int) D)).1 = uN (uN D.1 (37 + c) ((((D.1 (37 + c)).toNat) ||| (bIn f t) : Nat) : Int)) (43 + c) ((D.1 (43 + c)) + 1) := by show uN _ _ _ = _; rw [es11]
      refine M.run 5 (pc' := 52) (lv' := [some (vr o), some (vi ((c : Nat) : Int)), some (vi serial), some (vi ((f : Nat) : Int)), some (vi ((t : Nat) : Int))]) (st' := [vr o, vi ((c : Nat) : Int), vi 1, vi 1, vr o]) rfl ?_
      refine M.get fl_X11_7 rfl (isM_o hM13) (kf := 0) (v := vr (am 0)) rfl ?_
      refine M.run 3 (pc' := 59) (lv' := [some (vr o), some (vi ((c : Nat) : Int)), some (vi serial), some (vi ((f : Nat) : Int)), some (vi ((t : Nat) : Int))]) (st' := [vi (43 + ((c : Nat) : Int)), vr (am 0), vi ((c : Nat) : Int), vi 1, vi 1, vr o]) rfl ?_
      refine M.ialdN (43 + c) rfl (isM_a hM13) (by omega) (by decide) ?_
      rw [show (uN (uN a (37 + c) ((((D.1 (37 + c)).toNat) ||| (bIn f t) : Nat) : Int)) (43 + c) ((D.1 (43 + c)) + 1)) (43 + c) = (D.1 (43 + c)) + 1 from (Rp_s hR14 (k := 43 + c) (by omega) (by omega) (by omega)).trans (((congrFun es14 _)).trans (uN_s _ _ _))]
      refine M.run 3 (pc' := 63) (lv' := [some (vr o), some (vi ((c : Nat) : Int)), some (vi serial), some (vi ((f : Nat) : Int)), some (vi ((t : Nat) : Int))]) (st' := [vr o, vi serial, vi 0, vi ((D.1 (43 + c)) + 1), vi ((c : Nat) : Int), vi 1, vi 1, vr o]) rfl ?_
      refine M.get fl_X11_7 rfl (isM_o hM13) (kf := 0) (v := vr (am 0)) rfl ?_
      refine M.run 3 (pc' := 70) (lv' := [some (vr o), some (vi ((c : Nat) : Int)), some (vi serial), some (vi ((f : Nat) : Int)), some (vi ((t : Nat) : Int))]) (st' := [vi (37 + ((c : Nat) : Int)), vr (am 0), vi serial, vi 0, vi ((D.1 (43 + c)) + 1), vi ((c : Nat) : Int), vi 1, vi 1, vr o]) rfl ?_
      refine M.ialdN (37 + c) rfl (isM_a hM13) (by omega) (by decide) ?_
      rw [show (uN (uN a (37 + c) ((((D.1 (37 + c)).toNat) ||| (bIn f t) : Nat) : Int)) (43 + c) ((D.1 (43 + c)) + 1)) (37 + c) = ((((D.1 (37 + c)).toNat) ||| (bIn f t) : Nat) : Int) from (Rp_s hR14 (k := 37 + c) (by omega) (by omega) (by omega)).trans ((((congrFun es14 _)).trans (uN_o (by omega))).trans (uN_s _ _ _))]
      refine M.run 2 (pc' := 73) (lv' := [some (vr o), some (vi ((c : Nat) : Int)), some (vi serial), some (vi ((f : Nat) : Int)), some (vi ((t : Nat) : Int))]) (st' := [vi ((c : Nat) : Int), vr o, vi ((((D.1 (37 + c)).toNat) ||| (bIn f t) : Nat) : Int), vi serial, vi 0, vi ((D.1 (43 + c)) + 1), vi ((c : Nat) : Int), vi 1, vi 1, vr o]) rfl ?_
      refine M.callV (kX11_redOf l G o am u (uN (uN a (37 + c) ((((D.1 (37 + c)).toNat) ||| (bIn f t) : Nat) : Int)) (43 + c) ((D.1 (43 + c)) + 1)) b c (by omega) (Mok_of ht hd14 (by omega) hR14 hF14)) cv_X11_58 cd_X11_redOf rfl (st := [vi ((((D.1 (37 + c)).toNat) ||| (bIn f t) : Nat) : Int), vi serial, vi 0, vi ((D.1 (43 + c)) + 1), vi ((c : Nat) : Int), vi 1, vi 1, vr o]) rfl (isM_o hM13) (by decide) (by decide) rfl (Nat.zero_le _) (Nat.zero_le _) hM13 (fun r15 w16 q17 => ?_)
      rw [q17.1, q17.2]
      rw [show bFs ((uN (uN a (37 + c) ((((D.1 (37 + c)).toNat) ||| (bIn f t) : Nat) : Int)) (43 + c) ((D.1 (43 + c)) + 1)) (15 + c)).toNat = mRedOf a0 c from by unfold mRedOf; rw [hF14 _ (Or.inl (by omega))]]
      have : mRedOf a0 c < 1073741824 := bFs_lt (n := (a0 (15 + c)).toNat) (by have := Tok_red ht (x := c) (by omega); omega)
      refine M.iand (b1 := ((D.1 (37 + c)).toNat) ||| (bIn f t)) (b2 := mRedOf a0 c) rfl (by omega) (by omega) ?_
      have hl19 := Nat.and_le_left (n := ((D.1 (37 + c)).toNat) ||| (bIn f t)) (m := mRedOf a0 c)
      have hr20 := Nat.and_le_right (n := ((D.1 (37 + c)).toNat) ||| (bIn f t)) (m := mRedOf a0 c)
      refine M.run 1 (pc' := 78) (lv' := [some (vr o), some (vi ((c : Nat) : Int)), some (vi serial), some (vi ((f : Nat) : Int)), some (vi ((t : Nat) : Int))]) (st' := [vi 0, vi (((((D.1 (37 + c)).toNat) ||| (bIn f t)) &&& (mRedOf a0 c) : Nat) : Int), vi serial, vi 0, vi ((D.1 (43 + c)) + 1), vi ((c : Nat) : Int), vi 1, vi 1, vr o]) rfl ?_
      refine M.callV (eX11_put l G o am u a0 b0 (mS (43 + c) ((D.1 (43 + c)) + 1) (mS (37 + c) ((((D.1 (37 + c)).toNat) ||| (bIn f t) : Nat) : Int) D)) _ ht hd14 (by omega)  1 (by omega) 1 ((c : Nat) : Int) ((D.1 (43 + c)) + 1) 0 serial (((((D.1 (37 + c)).toNat) ||| (bIn f t)) &&& (mRedOf a0 c) : Nat) : Int) 0) cv_X11_314 cd_X11_put rfl (st := []) rfl (isM_o hM13) (by decide) (by decide) rfl (Nat.zero_le _) (Nat.zero_le _) ⟨_, _, hM13, hR14, hF14, hB⟩ (fun r22 w23 q24 => ?_)
      obtain ⟨q24r, a21, b21, hM21, hR21, hF21, hB21⟩ := q24
      rw [q24r]
      have hd21 : Dok (n + 1) (mPut 1 (rwM 1 ((c : Nat) : Int) ((D.1 (43 + c)) + 1) 0 serial (((((D.1 (37 + c)).toNat) ||| (bIn f t)) &&& (mRedOf a0 c) : Nat) : Int) 0) (mS (43 + c) ((D.1 (43 + c)) + 1) (mS (37 + c) ((((D.1 (37 + c)).toNat) ||| (bIn f t) : Nat) : Int) D))) := Dok_put hd14 (by omega) (rowOk_M (by omega))
      have es21 : (mPut 1 (rwM 1 ((c : Nat) : Int) ((D.1 (43 + c)) + 1) 0 serial (((((D.1 (37 + c)).toNat) ||| (bIn f t)) &&& (mRedOf a0 c) : Nat) : Int) 0) (mS (43 + c) ((D.1 (43 + c)) + 1) (mS (37 + c) ((((D.1 (37 + c)).toNat) ||| (bIn f t) : Nat) : Int) D))).1 = uN (uN D.1 (37 + c) ((((D.1 (37 + c)).toNat) ||| (bIn f t) : Nat) : Int)) (43 + c) ((D.1 (43 + c)) + 1) := (mPut_1 _ _ _).trans es14
      refine M.run 1 (pc' := 82) (lv' := [some (vr o), some (vi ((c : Nat) : Int)), some (vi serial), some (vi ((f : Nat) : Int)), some (vi ((t : Nat) : Int))]) (st' := []) rfl ?_
      exact M.vret rfl (Nat.zero_le _) (Nat.zero_le _) ⟨rfl, by rw [mGotData_c h7 (by omega)]; exact ⟨_, _, hM21, hR21, hF21, hB21⟩⟩
    · skip
      exact M.vret rfl (Nat.zero_le _) (Nat.zero_le _) ⟨rfl, by rw [mGotData_b h7 (by omega)]; exact ⟨_, _, hM10, hR11, hF11, hB⟩⟩
  · skip
    exact M.vret rfl (Nat.zero_le _) (Nat.zero_le _) ⟨rfl, by rw [mGotData_a h7]; exact ⟨_, _, hM, hR, hF, hB⟩⟩
set_option maxHeartbeats 4000000 in
set_option maxRecDepth 100000 in
theorem eX11_dropChecks (l : Launch) (G : GT) (o : Nat) (am : Nat → Nat) (u a0 : Nat → Int) (b0 : Nat → Nat → Int) (D : Dy) (n : Int) (ht : Tok a0) (hd : Dok n D) (hn : 0 ≤ n ∧ n ≤ 900000000) (c : Nat) (hc : c < 3) (m : Nat) (hm : D.1 (40 + c) = ((m : Nat) : Int)) : Ctr l G yX11_dropChecks cX11_dropChecks 3 ((Option.none : Option Jvm.ClassFile.FieldType)) 4 0 0 [vr o, vi ((c : Nat) : Int)] (fun w => isE o am u a0 b0 D w) (fun w r w' => r = none ∧ isE o am u a0 b0 (mChecks c m D) w') := by
  refine Ctr.of (t := tX11_dropChecks) (lv0 := [some (vr o), some (vi ((c : Nat) : Int)), none]) (by decide +kernel) tX11_dropChecks_ok rfl rfl (fun w g hP M => ?_)
  obtain ⟨a, b, hM, hR, hF, hB⟩ := hP
  have hk_chk_c : 0 ≤ D.1 (40 + c) ∧ D.1 (40 + c) ≤ n := by have := Dok_cnt hd (x := 0 + c) (by omega); rwa [show 40 + (0 + c) = 40 + c by omega] at this
  refine M.run 2 (pc' := 2) (lv' := [some (vr o), some (vi ((c : Nat) : Int)), some (vi 1)]) (st' := []) rfl ?_
  have Lp2 : ∀ (N : Nat) (Dx : Dy) (p : Nat) (ax : Nat → Int) (bx : Nat → Nat → Int) (wx : Wo), (isM o am u ax bx wx) → (Rp ax Dx) → (Fr a0 ax) → (Fb b0 bx) → (Dok n Dx) → (Dx.1 = D.1) → (Dx = mChecks c (p - 1) D) → (1 ≤ p) → (p ≤ m + 1) → m + 1 - p < N → g 0 0 wx 2 [some (vr o), some (vi ((c : Nat) : Int)), some (vi ((p : Nat) : Int))] [] := by
    intro N
    induction N with
    | zero => intro Dx p ax bx wx _ _ _ _ _ _ _ _ _ hN; exact absurd hN (Nat.not_lt_zero _)
    | succ N ih2 =>
      intro Dx p ax bx wx hMx hRx hFx hBx hdx esx hI hp1 hp2 hN
      refine M.run 2 (pc' := 4) (lv' := [some (vr o), some (vi ((c : Nat) : Int)), some (vi ((p : Nat) : Int))]) (st' := [vr o, vi ((p : Nat) : Int)]) rfl ?_
      refine M.get fl_X11_7 rfl (isM_o hMx) (kf := 0) (v := vr (am 0)) rfl ?_
      refine M.run 3 (pc' := 11) (lv' := [some (vr o), some (vi ((c : Nat) : Int)), some (vi ((p : Nat) : Int))]) (st' := [vi (40 + ((c : Nat) : Int)), vr (am 0), vi ((p : Nat) : Int)]) rfl ?_
      refine M.ialdN (40 + c) rfl (isM_a hMx) (by omega) (by decide) ?_
      rw [show ax (40 + c) = D.1 (40 + c) from (Rp_s hRx (k := 40 + c) (by omega) (by omega) (by omega)).trans ((congrFun esx _))]
      refine M.icmp_gt (tgt := 29) rfl (qI (by omega)) (qI (by omega)) (by decide) (fun h12 => ?_) (fun h12 => ?_)
      · skip
        exact M.vret rfl (Nat.zero_le _) (Nat.zero_le _) ⟨rfl, by rw [show m = p - 1 by omega, ← hI]; exact ⟨_, _, hMx, hRx, hFx, hBx⟩⟩
      · skip
        refine M.run 5 (pc' := 20) (lv' := [some (vr o), some (vi ((c : Nat) : Int)), some (vi ((p : Nat) : Int))]) (st' := [vi ((p : Nat) : Int), vi 0, vi ((c : Nat) : Int), vi 0, vr o]) rfl ?_
        refine M.callV (eX11_dropAll l G o am u a0 b0 Dx _ ht hdx (by omega)  0 (by omega) c (by omega) 0 ((p : Nat) : Int) (by omega) (by omega)) cv_X11_337 cd_X11_dropAll rfl (st := []) rfl (isM_o hMx) (by decide) (by decide) rfl (Nat.zero_le _) (Nat.zero_le _) ⟨_, _, hMx, hRx, hFx, hBx⟩ (fun r2 w3 q4 => ?_)
        obtain ⟨q4r, a1, b1, hM1, hR1, hF1, hB1⟩ := q4
        rw [q4r]
        have hd1 : Dok n (mDrop 0 (pKS ((c : Nat) : Int) 0 ((p : Nat) : Int)) Dx) := Dok_drop hdx
        have es1 : (mDrop 0 (pKS ((c : Nat) : Int) 0 ((p : Nat) : Int)) Dx).1 = D.1 := esx
        refine M.run 2 (pc' := 2) (lv' := [some (vr o), some (vi ((c : Nat) : Int)), some (vi (((p : Nat) : Int) + 1))]) (st' := []) rfl ?_
        exact ih2 ((mDrop 0 (pKS ((c : Nat) : Int) 0 ((p : Nat) : Int)) Dx)) (p + 1) a1 b1 w3 hM1 hR1 hF1 hB1 hd1 es1 (by rw [hI, Nat.add_sub_cancel]; exact (mChecks_s (by omega)).symm) (by omega) (by omega) (by omega)
  exact Lp2 _ D 1 a b w hM hR hF hB hd rfl rfl (by omega) (by omega) (Nat.lt_succ_self _)
set_option maxHeartbeats 4000000 in
set_option maxRecDepth 100000 in
theorem eX11_gotReport (l : Launch) (G : GT) (o : Nat) (am : Nat → Nat) (u a0 : Nat → Int) (b0 : Nat → Nat → Int) (D : Dy) (n : Int) (ht : Tok a0) (hd : Dok n D) (hn : 0 ≤ n ∧ n ≤ 899999998) (c : Nat) (hc : c < 3) (serial : Int) (hse : 0 ≤ serial ∧ serial ≤ n) (check : Int) (hck : 0 ≤ check ∧ check ≤ 1000000000) (claims : Nat) (hcl : claims < 1073741824) : Ctr l G yX11_gotReport cX11_gotReport 5 ((Option.none : Option Jvm.ClassFile.FieldType)) 6 0 0 [vr o, vi ((c : Nat) : Int), vi serial, vi check, vi ((claims : Nat) : Int)] (fun w => isE o am u a0 b0 D w) (fun w r w' => r = none ∧ isE o am u a0 b0 (mGotReport a0 c serial check claims D) w') := by
  refine Ctr.of (t := tX11_gotReport) (lv0 := [some (vr o), some (vi ((c : Nat) : Int)), some (vi serial), some (vi check), some (vi ((claims : Nat) : Int))]) (by decide +kernel) tX11_gotReport_ok rfl rfl (fun w g hP M => ?_)
  obtain ⟨a, b, hM, hR, hF, hB⟩ := hP
  have hk_clm_c : 0 ≤ D.1 (34 + c) ∧ D.1 (34 + c) ≤ 1073741823 := by have := Dok_bit hd (x := 0 + c) (by omega); rwa [show 34 + (0 + c) = 34 + c by omega] at this
  have hk_chk_c : 0 ≤ D.1 (40 + c) ∧ D.1 (40 + c) ≤ n := by have := Dok_cnt hd (x := 0 + c) (by omega); rwa [show 40 + (0 + c) = 40 + c by omega] at this
  have hk_how_c : 0 ≤ D.1 (28 + c) ∧ D.1 (28 + c) ≤ 3 := by have := Dok_how hd (x := 0 + c) (by omega); rwa [show 28 + (0 + c) = 28 + c by omega] at this
  have hor := or_lt30 (x := (D.1 (34 + c)).toNat) (y := claims) (by omega) hcl
  have hmi := mMiss_lt ht hc (c := (D.1 (34 + c)).toNat ||| claims)
  refine M.run 9 (pc' := 9) (lv' := [some (vr o), some (vi ((c : Nat) : Int)), some (vi serial), some (vi check), some (vi ((claims : Nat) : Int))]) (st' := [vi 0, vi 0, vi 0, vi 0, vi serial, vi ((c : Nat) : Int), vi 2, vi 0, vr o]) rfl ?_
  refine M.callV (eX11_put l G o am u a0 b0 D _ ht hd (by omega)  0 (by omega) 2 ((c : Nat) : Int) serial 0 0 0 0) cv_X11_314 cd_X11_put rfl (st := []) rfl (isM_o hM) (by decide) (by decide) rfl (Nat.zero_le _) (Nat.zero_le _) ⟨_, _, hM, hR, hF, hB⟩ (fun r2 w3 q4 => ?_)
  obtain ⟨q4r, a1, b1, hM1, hR1, hF1, hB1⟩ := q4
  rw [q4r]
  have hd1 : Dok n (mPut 0 (rwM 2 ((c : Nat) : Int) serial 0 0 0 0) D) := Dok_put hd (by omega) (rowOk_M (by omega))
  have es1 : (mPut 0 (rwM 2 ((c : Nat) : Int) serial 0 0 0 0) D).1 = D.1 := (mPut_1 _ _ _).trans rfl
  refine M.run 6 (pc' := 18) (lv' := [some (vr o), some (vi ((c : Nat) : Int)), some (vi serial), some (vi check), some (vi ((claims : Nat) : Int))]) (st' := [vi check, vi 0, vi ((c : Nat) : Int), vi 0, vr o]) rfl ?_
  refine M.callV (eX11_dropAll l G o am u a0 b0 (mPut 0 (rwM 2 ((c : Nat) : Int) serial 0 0 0 0) D) _ ht hd1 (by omega)  0 (by omega) c (by omega) 0 check (by omega) (by omega)) cv_X11_337 cd_X11_dropAll rfl (st := []) rfl (isM_o hM1) (by decide) (by decide) rfl (Nat.zero_le _) (Nat.zero_le _) ⟨_, _, hM1, hR1, hF1, hB1⟩ (fun r7 w8 q9 => ?_)
  obtain ⟨q9r, a6, b6, hM6, hR6, hF6, hB6⟩ := q9
  rw [q9r]
  have hd6 : Dok n (mDrop 0 (pKS ((c : Nat) : Int) 0 check) (mPut 0 (rwM 2 ((c : Nat) : Int) serial 0 0 0 0) D)) := Dok_drop hd1
  have es6 : (mDrop 0 (pKS ((c : Nat) : Int) 0 check) (mPut 0 (rwM 2 ((c : Nat) : Int) serial 0 0 0 0) D)).1 = D.1 := es1
  refine M.run 3 (pc' := 24) (lv' := [some (vr o), some (vi ((c : Nat) : Int)), some (vi serial), some (vi check), some (vi ((claims : Nat) : Int))]) (st' := [vi 0, vi ((c : Nat) : Int), vr o]) rfl ?_
  refine M.callV (eX11_howAt l G o am u a0 b0 (mDrop 0 (pKS ((c : Nat) : Int) 0 check) (mPut 0 (rwM 2 ((c : Nat) : Int) serial 0 0 0 0) D)) _ ht hd6 (by omega) c (by omega) 0 (by omega)) cv_X11_334 cd_X11_howAt rfl (st := []) rfl (isM_o hM6) (by decide) (by decide) rfl (Nat.zero_le _) (Nat.zero_le _) ⟨_, _, hM6, hR6, hF6, hB6⟩ (fun r11 w12 q13 => ?_)
  rw [q13.1, q13.2]
  rw [show (mDrop 0 (pKS ((c : Nat) : Int) 0 check) (mPut 0 (rwM 2 ((c : Nat) : Int) serial 0 0 0 0) D)).1 (28 + 3 * 0 + c) = D.1 (28 + c) from (congrFun es6 _)]
  refine M.run 1 (pc' := 28) (lv' := [some (vr o), some (vi ((c : Nat) : Int)), some (vi serial), some (vi check), some (vi ((claims : Nat) : Int))]) (st' := [vi 1, vi (D.1 (28 + c))]) rfl ?_
  refine M.icmp_eq (tgt := 32) rfl (qI (by omega)) (qI (by decide)) (by decide) (fun h28 => ?_) (fun h28 => ?_)
  · skip
    refine M.run 1 (pc' := 33) (lv' := [some (vr o), some (vi ((c : Nat) : Int)), some (vi serial), some (vi check), some (vi ((claims : Nat) : Int))]) (st' := [vr o]) rfl ?_
    refine M.get fl_X11_7 rfl (isM_o hM6) (kf := 0) (v := vr (am 0)) rfl ?_
    refine M.run 4 (pc' := 41) (lv' := [some (vr o), some (vi ((c : Nat) : Int)), some (vi serial), some (vi check), some (vi ((claims : Nat) : Int))]) (st' := [vi (34 + ((c : Nat) : Int)), vr (am 0), vi (34 + ((c : Nat) : Int)), vr (am 0)]) rfl ?_
    refine M.ialdN (34 + c) rfl (isM_a hM6) (by omega) (by decide) ?_
    rw [show a6 (34 + c) = D.1 (34 + c) from (Rp_s hR6 (k := 34 + c) (by omega) (by omega) (by omega)).trans ((congrFun es6 _))]
    rw [show D.1 (34 + c) = (((D.1 (34 + c)).toNat : Nat) : Int) from (Int.toNat_of_nonneg (by omega)).symm]
    refine M.run 1 (pc' := 44) (lv' := [some (vr o), some (vi ((c : Nat) : Int)), some (vi serial), some (vi check), some (vi ((claims : Nat) : Int))]) (st' := [vi ((claims : Nat) : Int), vi (((D.1 (34 + c)).toNat : Nat) : Int), vi (34 + ((c : Nat) : Int)), vr (am 0)]) rfl ?_
    refine M.ior (b1 := (D.1 (34 + c)).toNat) (b2 := claims) rfl (by omega) (by omega) ?_
    refine M.iastN (34 + c) rfl (isM_a hM6) (by omega) (by decide) ?_
    have hM16 := isM_setA hM6 (uN a6 (34 + c) ((((D.1 (34 + c)).toNat) ||| claims : Nat) : Int))
    generalize up w8 (am 0) (Ar 0 30042 (uN a6 (34 + c) ((((D.1 (34 + c)).toNat) ||| claims : Nat) : Int))) = w15 at hM16 ⊢
    have hR17 : Rp _ (mS (34 + c) ((((D.1 (34 + c)).toNat) ||| claims : Nat) : Int) (mDrop 0 (pKS ((c : Nat) : Int) 0 check) (mPut 0 (rwM 2 ((c : Nat) : Int) serial 0 0 0 0) D))) := Rp_us hR6 ((((D.1 (34 + c)).toNat) ||| claims : Nat) : Int) (k := 34 + c) (by omega) (by omega) (by omega)
    have hF17 := Fr_u (k := 34 + c) (v := ((((D.1 (34 + c)).toNat) ||| claims : Nat) : Int)) hF6 (by omega) (by omega)
    have hd17 := Dok_S (k := 34 + c) (v := ((((D.1 (34 + c)).toNat) ||| claims : Nat) : Int)) hd6 (fun _ _ _ => by unfold Shi; (repeat' split) <;> omega)
    have es17 : (mS (34 + c) ((((D.1 (34 + c)).toNat) ||| claims : Nat) : Int) (mDrop 0 (pKS ((c : Nat) : Int) 0 check) (mPut 0 (rwM 2 ((c : Nat) : Int) serial 0 0 0 0) D))).1 = uN D.1 (34 + c) ((((D.1 (34 + c)).toNat) ||| claims : Nat) : Int) := by show uN _ _ _ = _; rw [es6]
    refine M.run 2 (pc' := 48) (lv' := [some (vr o), some (vi ((c : Nat) : Int)), some (vi serial), some (vi check), some (vi ((claims : Nat) : Int))]) (st' := [vi ((c : Nat) : Int), vr o]) rfl ?_
    refine M.callV (eX11_isAll l G o am u a0 b0 (mS (34 + c) ((((D.1 (34 + c)).toNat) ||| claims : Nat) : Int) (mDrop 0 (pKS ((c : Nat) : Int) 0 check) (mPut 0 (rwM 2 ((c : Nat) : Int) serial 0 0 0 0) D))) _ ht hd17 (by omega) c (by omega)) cv_X11_341 cd_X11_isAll rfl (st := []) rfl (isM_o hM16) (by decide) (by decide) rfl (Nat.zero_le _) (Nat.zero_le _) ⟨_, _, hM16, hR17, hF17, hB6⟩ (fun r18 w19 q20 => ?_)
    rw [q20.1, q20.2]
    rw [show (mS (34 + c) ((((D.1 (34 + c)).toNat) ||| claims : Nat) : Int) (mDrop 0 (pKS ((c : Nat) : Int) 0 check) (mPut 0 (rwM 2 ((c : Nat) : Int) serial 0 0 0 0) D))).1 (34 + c) = ((((D.1 (34 + c)).toNat) ||| claims : Nat) : Int) from ((congrFun es17 _)).trans (uN_s _ _ _)]
    refine M.if_eq (tgt := 67) rfl (inI_zb _) (by decide) (fun h51 => ?_) (fun h51 => ?_)
    · skip
      replace h51 := zb_fd h51
      refine M.run 2 (pc' := 69) (lv' := [some (vr o), some (vi ((c : Nat) : Int)), some (vi serial), some (vi check), some (vi ((claims : Nat) : Int))]) (st' := [vr o, vi check]) rfl ?_
      refine M.get fl_X11_7 rfl (isM_o hM16) (kf := 0) (v := vr (am 0)) rfl ?_
      refine M.run 3 (pc' := 76) (lv' := [some (vr o), some (vi ((c : Nat) : Int)), some (vi serial), some (vi check), some (vi ((claims : Nat) : Int))]) (st' := [vi (40 + ((c : Nat) : Int)), vr (am 0), vi check]) rfl ?_
      refine M.ialdN (40 + c) rfl (isM_a hM16) (by omega) (by decide) ?_
      rw [show (uN a6 (34 + c) ((((D.1 (34 + c)).toNat) ||| claims : Nat) : Int)) (40 + c) = D.1 (40 + c) from (Rp_s hR17 (k := 40 + c) (by omega) (by omega) (by omega)).trans (((congrFun es17 _)).trans (uN_o (by omega)))]
      refine M.icmp_ne (tgt := 91) rfl (qI (by omega)) (qI (by omega)) (by decide) (fun h77 => ?_) (fun h77 => ?_)
      · skip
        exact M.vret rfl (Nat.zero_le _) (Nat.zero_le _) (by
            first
            | exact ⟨rfl, by rw [mGotReport_b h28 h51]; exact ⟨_, _, hM16, hR17, hF17, hB6⟩⟩
            | exact ⟨rfl, by rw [mGotReport_c h28 h51 h77]; exact ⟨_, _, hM16, hR17, hF17, hB6⟩⟩
            | exact ⟨rfl, by rw [mGotReport_d h28 h51 h77]; exact ⟨_, _, hM16, hR17, hF17, hB6⟩⟩)
      · skip
        refine M.run 4 (pc' := 84) (lv' := [some (vr o), some (vi ((c : Nat) : Int)), some (vi serial), some (vi check), some (vi ((claims : Nat) : Int))]) (st' := [vi ((c : Nat) : Int), vr o, vi ((c : Nat) : Int), vr o]) rfl ?_
        refine M.callV (kX11_missingOf l G o am u (uN a6 (34 + c) ((((D.1 (34 + c)).toNat) ||| claims : Nat) : Int)) b6 c (by omega) (Mok_of ht hd17 (by omega) hR17 hF17)) cv_X11_318 cd_X11_missingOf rfl (st := [vi ((c : Nat) : Int), vr o]) rfl (isM_o hM16) (by decide) (by decide) rfl (Nat.zero_le _) (Nat.zero_le _) hM16 (fun r22 w23 q24 => ?_)
        rw [q24.1, q24.2]
        rw [show bDf (bFs ((uN a6 (34 + c) ((((D.1 (34 + c)).toNat) ||| claims : Nat) : Int)) (15 + c)).toNat) ((uN a6 (34 + c) ((((D.1 (34 + c)).toNat) ||| claims : Nat) : Int)) (34 + c)).toNat = mMiss a0 c ((((D.1 (34 + c)).toNat) ||| claims)) from by unfold mMiss mRedOf; rw [hF17 _ (Or.inl (by omega)), ((Rp_s hR17 (k := 34 + c) (by omega) (by omega) (by omega)).trans (((congrFun es17 _)).trans (uN_s _ _ _)))] <;> rfl]
        refine M.callV (eX11_putRed l G o am u a0 b0 (mS (34 + c) ((((D.1 (34 + c)).toNat) ||| claims : Nat) : Int) (mDrop 0 (pKS ((c : Nat) : Int) 0 check) (mPut 0 (rwM 2 ((c : Nat) : Int) serial 0 0 0 0) D))) _ ht hd17 (by omega)  c (by omega) (mMiss a0 c ((((D.1 (34 + c)).toNat) ||| claims))) (by omega)) cv_X11_325 cd_X11_putRed rfl (st := []) rfl (isM_o hM16) (by decide) (by decide) rfl (Nat.zero_le _) (Nat.zero_le _) ⟨_, _, hM16, hR17, hF17, hB6⟩ (fun r27 w28 q29 => ?_)
        obtain ⟨q29r, a26, b26, hM26, hR26, hF26, hB26⟩ := q29
        rw [q29r]
        have hd26 : Dok (n + 1) (mRed a0 c (mMiss a0 c ((((D.1 (34 + c)).toNat) ||| claims))) (mS (34 + c) ((((D.1 (34 + c)).toNat) ||| claims : Nat) : Int) (mDrop 0 (pKS ((c : Nat) : Int) 0 check) (mPut 0 (rwM 2 ((c : Nat) : Int) serial 0 0 0 0) D)))) := Dok_red ht hd17 (by omega) (by omega)
        have es26 : (mRed a0 c (mMiss a0 c ((((D.1 (34 + c)).toNat) ||| claims))) (mS (34 + c) ((((D.1 (34 + c)).toNat) ||| claims : Nat) : Int) (mDrop 0 (pKS ((c : Nat) : Int) 0 check) (mPut 0 (rwM 2 ((c : Nat) : Int) serial 0 0 0 0) D)))).1 = (mRed a0 c (mMiss a0 c ((((D.1 (34 + c)).toNat) ||| claims))) (mS (34 + c) ((((D.1 (34 + c)).toNat) ||| claims : Nat) : Int) (mDrop 0 (pKS ((c : Nat) : Int) 0 check) (mPut 0 (rwM 2 ((c : Nat) : Int) serial 0 0 0 0) D)))).1 := rfl
        refine M.run 1 (pc' := 91) (lv' := [some (vr o), some (vi ((c : Nat) : Int)), some (vi serial), some (vi check), some (vi ((claims : Nat) : Int))]) (st' := []) rfl ?_
        exact M.vret rfl (Nat.zero_le _) (Nat.zero_le _) (by
            first
            | exact ⟨rfl, by rw [mGotReport_b h28 h51]; exact ⟨_, _, hM26, hR26, hF26, hB26⟩⟩
            | exact ⟨rfl, by rw [mGotReport_c h28 h51 h77]; exact ⟨_, _, hM26, hR26, hF26, hB26⟩⟩
            | exact ⟨rfl, by rw [mGotReport_d h28 h51 h77]; exact ⟨_, _, hM26, hR26, hF26, hB26⟩⟩)
    · skip
      replace h51 := zb_td h51
      refine M.run 2 (pc' := 56) (lv' := [some (vr o), some (vi ((c : Nat) : Int)), some (vi serial), some (vi check), some (vi ((claims : Nat) : Int))]) (st' := [vi ((c : Nat) : Int), vr o]) rfl ?_
      refine M.callV (eX11_endNow l G o am u a0 b0 (mS (34 + c) ((((D.1 (34 + c)).toNat) ||| claims : Nat) : Int) (mDrop 0 (pKS ((c : Nat) : Int) 0 check) (mPut 0 (rwM 2 ((c : Nat) : Int) serial 0 0 0 0) D))) _ ht hd17 (by omega)  c (by omega)) cv_X11_328 cd_X11_endNow rfl (st := []) rfl (isM_o hM16) (by decide) (by decide) rfl (Nat.zero_le _) (Nat.zero_le _) ⟨_, _, hM16, hR17, hF17, hB6⟩ (fun r32 w33 q34 => ?_)
      obtain ⟨q34r, a31, b31, hM31, hR31, hF31, hB31⟩ := q34
      rw [q34r]
      have hd31 : Dok n (mEnd c (mS (34 + c) ((((D.1 (34 + c)).toNat) ||| claims : Nat) : Int) (mDrop 0 (pKS ((c : Nat) : Int) 0 check) (mPut 0 (rwM 2 ((c : Nat) : Int) serial 0 0 0 0) D)))) := Dok_end hd17 (by omega)
      have es31 : (mEnd c (mS (34 + c) ((((D.1 (34 + c)).toNat) ||| claims : Nat) : Int) (mDrop 0 (pKS ((c : Nat) : Int) 0 check) (mPut 0 (rwM 2 ((c : Nat) : Int) serial 0 0 0 0) D)))).1 = uN (uN D.1 (34 + c) ((((D.1 (34 + c)).toNat) ||| claims : Nat) : Int)) (28 + c) 2 := by show uN _ _ _ = _; rw [es17]
      refine M.run 2 (pc' := 61) (lv' := [some (vr o), some (vi ((c : Nat) : Int)), some (vi serial), some (vi check), some (vi ((claims : Nat) : Int))]) (st' := [vi ((c : Nat) : Int), vr o]) rfl ?_
      refine M.callV (eX11_dropChecks l G o am u a0 b0 (mEnd c (mS (34 + c) ((((D.1 (34 + c)).toNat) ||| claims : Nat) : Int) (mDrop 0 (pKS ((c : Nat) : Int) 0 check) (mPut 0 (rwM 2 ((c : Nat) : Int) serial 0 0 0 0) D)))) _ ht hd31 (by omega) c (by omega) (D.1 (40 + c)).toNat ((show (mEnd c (mS (34 + c) ((((D.1 (34 + c)).toNat) ||| claims : Nat) : Int) (mDrop 0 (pKS ((c : Nat) : Int) 0 check) (mPut 0 (rwM 2 ((c : Nat) : Int) serial 0 0 0 0) D)))).1 (40 + c) = D.1 (40 + c) from (((congrFun es31 _)).trans (uN_o (by omega))).trans (uN_o (by omega))).trans (Int.toNat_of_nonneg (by omega)).symm)) cv_X11_344 cd_X11_dropChecks rfl (st := []) rfl (isM_o hM31) (by decide) (by decide) rfl (Nat.zero_le _) (Nat.zero_le _) ⟨_, _, hM31, hR31, hF31, hB31⟩ (fun r37 w38 q39 => ?_)
      obtain ⟨q39r, a36, b36, hM36, hR36, hF36, hB36⟩ := q39
      rw [q39r]
      have hd36 : Dok n (mChecks c (D.1 (40 + c)).toNat (mEnd c (mS (34 + c) ((((D.1 (34 + c)).toNat) ||| claims : Nat) : Int) (mDrop 0 (pKS ((c : Nat) : Int) 0 check) (mPut 0 (rwM 2 ((c : Nat) : Int) serial 0 0 0 0) D))))) := Dok_checks hd31
      have es36 : (mChecks c (D.1 (40 + c)).toNat (mEnd c (mS (34 + c) ((((D.1 (34 + c)).toNat) ||| claims : Nat) : Int) (mDrop 0 (pKS ((c : Nat) : Int) 0 check) (mPut 0 (rwM 2 ((c : Nat) : Int) serial 0 0 0 0) D))))).1 = uN (uN D.1 (34 + c) ((((D.1 (34 + c)).toNat) ||| claims : Nat) : Int)) (28 + c) 2 := (mChecks_1 _ _ _).trans es31
      refine M.run 1 (pc' := 91) (lv' := [some (vr o), some (vi ((c : Nat) : Int)), some (vi serial), some (vi check), some (vi ((claims : Nat) : Int))]) (st' := []) rfl ?_
      exact M.vret rfl (Nat.zero_le _) (Nat.zero_le _) (by
          first
          | exact ⟨rfl, by rw [mGotReport_b h28 h51]; exact ⟨_, _, hM36, hR36, hF36, hB36⟩⟩
          | exact ⟨rfl, by rw [mGotReport_c h28 h51 h77]; exact ⟨_, _, hM36, hR36, hF36, hB36⟩⟩
          | exact ⟨rfl, by rw [mGotReport_d h28 h51 h77]; exact ⟨_, _, hM36, hR36, hF36, hB36⟩⟩)
  · skip
    exact M.vret rfl (Nat.zero_le _) (Nat.zero_le _) ⟨rfl, by rw [mGotReport_a h28]; exact ⟨_, _, hM6, hR6, hF6, hB6⟩⟩
set_option maxHeartbeats 4000000 in
set_option maxRecDepth 100000 in
theorem eX11_gotCancelling (l : Launch) (G : GT) (o : Nat) (am : Nat → Nat) (u a0 : Nat → Int) (b0 : Nat → Nat → Int) (D : Dy) (n : Int) (ht : Tok a0) (hd : Dok n D) (hn : 0 ≤ n ∧ n ≤ 900000000) (s : Nat) (hs : s < 2) (c : Nat) (hc : c < 3) : Ctr l G yX11_gotCancelling cX11_gotCancelling 3 ((Option.none : Option Jvm.ClassFile.FieldType)) 4 0 0 [vr o, vi ((s : Nat) : Int), vi ((c : Nat) : Int)] (fun w => isE o am u a0 b0 D w) (fun w r w' => r = none ∧ isE o am u a0 b0 (mGotCancel s c D) w') := by
  refine Ctr.of (t := tX11_gotCancelling) (lv0 := [some (vr o), some (vi ((s : Nat) : Int)), some (vi ((c : Nat) : Int))]) (by decide +kernel) tX11_gotCancelling_ok rfl rfl (fun w g hP M => ?_)
  obtain ⟨a, b, hM, hR, hF, hB⟩ := hP
  have hk_how_c : 0 ≤ D.1 (28 + c) ∧ D.1 (28 + c) ≤ 3 := by have := Dok_how hd (x := 0 + c) (by omega); rwa [show 28 + (0 + c) = 28 + c by omega] at this
  refine M.run 2 (pc' := 2) (lv' := [some (vr o), some (vi ((s : Nat) : Int)), some (vi ((c : Nat) : Int))]) (st' := [vi 1, vi ((s : Nat) : Int)]) rfl ?_
  refine M.icmp_eq (tgt := 15) rfl (qI (by omega)) (qI (by decide)) (by decide) (fun h2 => ?_) (fun h2 => ?_)
  · skip
    refine M.run 1 (pc' := 16) (lv' := [some (vr o), some (vi ((s : Nat) : Int)), some (vi ((c : Nat) : Int))]) (st' := [vr o]) rfl ?_
    refine M.get fl_X11_7 rfl (isM_o hM) (kf := 0) (v := vr (am 0)) rfl ?_
    refine M.run 8 (pc' := 28) (lv' := [some (vr o), some (vi ((s : Nat) : Int)), some (vi ((c : Nat) : Int))]) (st' := [vi 3, vi ((28 + (3 * ((s : Nat) : Int))) + ((c : Nat) : Int)), vr (am 0)]) rfl ?_
    refine M.iastN (28 + (3 * s) + c) rfl (isM_a hM) (by omega) (by decide) ?_
    have hM2 := isM_setA hM (uN a (28 + (3 * s) + c) 3)
    generalize up w (am 0) (Ar 0 30042 (uN a (28 + (3 * s) + c) 3)) = w1 at hM2 ⊢
    have hR3 : Rp _ (mS (28 + (3 * s) + c) 3 D) := Rp_us hR 3 (k := 28 + (3 * s) + c) (by omega) (by omega) (by omega)
    have hF3 := Fr_u (k := 28 + (3 * s) + c) (v := 3) hF (by omega) (by omega)
    have hd3 := Dok_S (k := 28 + (3 * s) + c) (v := 3) hd (fun _ _ _ => by unfold Shi; (repeat' split) <;> omega)
    have es3 : (mS (28 + (3 * s) + c) 3 D).1 = uN D.1 (28 + (3 * s) + c) 3 := rfl
    refine M.run 5 (pc' := 34) (lv' := [some (vr o), some (vi ((s : Nat) : Int)), some (vi ((c : Nat) : Int))]) (st' := [vi 0, vi (-1), vi ((c : Nat) : Int), vi ((s : Nat) : Int), vr o]) rfl ?_
    refine M.callV (eX11_dropAll l G o am u a0 b0 (mS (28 + (3 * s) + c) 3 D) _ ht hd3 (by omega)  s (by omega) c (by omega) (-1) 0 (by omega) (by omega)) cv_X11_337 cd_X11_dropAll rfl (st := []) rfl (isM_o hM2) (by decide) (by decide) rfl (Nat.zero_le _) (Nat.zero_le _) ⟨_, _, hM2, hR3, hF3, hB⟩ (fun r5 w6 q7 => ?_)
    obtain ⟨q7r, a4, b4, hM4, hR4, hF4, hB4⟩ := q7
    rw [q7r]
    have hd4 : Dok n (mDrop s (pKS ((c : Nat) : Int) (-1) 0) (mS (28 + (3 * s) + c) 3 D)) := Dok_drop hd3
    have es4 : (mDrop s (pKS ((c : Nat) : Int) (-1) 0) (mS (28 + (3 * s) + c) 3 D)).1 = uN D.1 (28 + (3 * s) + c) 3 := es3
    refine M.run 9 (pc' := 46) (lv' := [some (vr o), some (vi ((s : Nat) : Int)), some (vi ((c : Nat) : Int))]) (st' := [vi 0, vi 0, vi 0, vi 0, vi 0, vi ((c : Nat) : Int), vi 4, vi ((s : Nat) : Int), vr o]) rfl ?_
    refine M.callV (eX11_put l G o am u a0 b0 (mDrop s (pKS ((c : Nat) : Int) (-1) 0) (mS (28 + (3 * s) + c) 3 D)) _ ht hd4 (by omega)  s (by omega) 4 ((c : Nat) : Int) 0 0 0 0 0) cv_X11_314 cd_X11_put rfl (st := []) rfl (isM_o hM4) (by decide) (by decide) rfl (Nat.zero_le _) (Nat.zero_le _) ⟨_, _, hM4, hR4, hF4, hB4⟩ (fun r10 w11 q12 => ?_)
    obtain ⟨q12r, a9, b9, hM9, hR9, hF9, hB9⟩ := q12
    rw [q12r]
    have hd9 : Dok n (mPut s (rwM 4 ((c : Nat) : Int) 0 0 0 0 0) (mDrop s (pKS ((c : Nat) : Int) (-1) 0) (mS (28 + (3 * s) + c) 3 D))) := Dok_put hd4 (by omega) (rowOk_M (by omega))
    have es9 : (mPut s (rwM 4 ((c : Nat) : Int) 0 0 0 0 0) (mDrop s (pKS ((c : Nat) : Int) (-1) 0) (mS (28 + (3 * s) + c) 3 D))).1 = uN D.1 (28 + (3 * s) + c) 3 := (mPut_1 _ _ _).trans es4
    refine M.run 1 (pc' := 50) (lv' := [some (vr o), some (vi ((s : Nat) : Int)), some (vi ((c : Nat) : Int))]) (st' := []) rfl ?_
    exact M.vret rfl (Nat.zero_le _) (Nat.zero_le _) (by
        first
        | exact ⟨rfl, by unfold mGotCancel; rw [if_pos (by omega)]; exact ⟨_, _, hM9, hR9, hF9, hB9⟩⟩
        | exact ⟨rfl, by unfold mGotCancel; rw [if_neg (by omega)]; exact ⟨_, _, hM9, hR9, hF9, hB9⟩⟩)
  · skip
    refine M.run 3 (pc' := 8) (lv' := [some (vr o), some (vi ((s : Nat) : Int)), some (vi ((c : Nat) : Int))]) (st' := [vi 0, vi ((c : Nat) : Int), vr o]) rfl ?_
    refine M.callV (eX11_howAt l G o am u a0 b0 D _ ht hd (by omega) c (by omega) 0 (by omega)) cv_X11_334 cd_X11_howAt rfl (st := []) rfl (isM_o hM) (by decide) (by decide) rfl (Nat.zero_le _) (Nat.zero_le _) ⟨_, _, hM, hR, hF, hB⟩ (fun r14 w15 q16 => ?_)
    rw [q16.1, q16.2]
    rw [show D.1 (28 + 3 * 0 + c) = D.1 (28 + c) from rfl]
    refine M.run 1 (pc' := 12) (lv' := [some (vr o), some (vi ((s : Nat) : Int)), some (vi ((c : Nat) : Int))]) (st' := [vi 1, vi (D.1 (28 + c))]) rfl ?_
    refine M.icmp_ne (tgt := 37) rfl (qI (by omega)) (qI (by decide)) (by decide) (fun h12 => ?_) (fun h12 => ?_)
    · skip
      refine M.run 9 (pc' := 46) (lv' := [some (vr o), some (vi ((s : Nat) : Int)), some (vi ((c : Nat) : Int))]) (st' := [vi 0, vi 0, vi 0, vi 0, vi 0, vi ((c : Nat) : Int), vi 4, vi ((s : Nat) : Int), vr o]) rfl ?_
      refine M.callV (eX11_put l G o am u a0 b0 D _ ht hd (by omega)  s (by omega) 4 ((c : Nat) : Int) 0 0 0 0 0) cv_X11_314 cd_X11_put rfl (st := []) rfl (isM_o hM) (by decide) (by decide) rfl (Nat.zero_le _) (Nat.zero_le _) ⟨_, _, hM, hR, hF, hB⟩ (fun r19 w20 q21 => ?_)
      obtain ⟨q21r, a18, b18, hM18, hR18, hF18, hB18⟩ := q21
      rw [q21r]
      have hd18 : Dok n (mPut s (rwM 4 ((c : Nat) : Int) 0 0 0 0 0) D) := Dok_put hd (by omega) (rowOk_M (by omega))
      have es18 : (mPut s (rwM 4 ((c : Nat) : Int) 0 0 0 0 0) D).1 = D.1 := (mPut_1 _ _ _).trans rfl
      refine M.run 1 (pc' := 50) (lv' := [some (vr o), some (vi ((s : Nat) : Int)), some (vi ((c : Nat) : Int))]) (st' := []) rfl ?_
      exact M.vret rfl (Nat.zero_le _) (Nat.zero_le _) (by
          first
          | exact ⟨rfl, by unfold mGotCancel; rw [if_pos (by omega)]; exact ⟨_, _, hM18, hR18, hF18, hB18⟩⟩
          | exact ⟨rfl, by unfold mGotCancel; rw [if_neg (by omega)]; exact ⟨_, _, hM18, hR18, hF18, hB18⟩⟩)
    · skip
      refine M.run 1 (pc' := 16) (lv' := [some (vr o), some (vi ((s : Nat) : Int)), some (vi ((c : Nat) : Int))]) (st' := [vr o]) rfl ?_
      refine M.get fl_X11_7 rfl (isM_o hM) (kf := 0) (v := vr (am 0)) rfl ?_
      refine M.run 8 (pc' := 28) (lv' := [some (vr o), some (vi ((s : Nat) : Int)), some (vi ((c : Nat) : Int))]) (st' := [vi 3, vi ((28 + (3 * ((s : Nat) : Int))) + ((c : Nat) : Int)), vr (am 0)]) rfl ?_
      refine M.iastN (28 + (3 * s) + c) rfl (isM_a hM) (by omega) (by decide) ?_
      have hM24 := isM_setA hM (uN a (28 + (3 * s) + c) 3)
      generalize up w (am 0) (Ar 0 30042 (uN a (28 + (3 * s) + c) 3)) = w23 at hM24 ⊢
      have hR25 : Rp _ (mS (28 + (3 * s) + c) 3 D) := Rp_us hR 3 (k := 28 + (3 * s) + c) (by omega) (by omega) (by omega)
      have hF25 := Fr_u (k := 28 + (3 * s) + c) (v := 3) hF (by omega) (by omega)
      have hd25 := Dok_S (k := 28 + (3 * s) + c) (v := 3) hd (fun _ _ _ => by unfold Shi; (repeat' split) <;> omega)
      have es25 : (mS (28 + (3 * s) + c) 3 D).1 = uN D.1 (28 + (3 * s) + c) 3 := rfl
      refine M.run 5 (pc' := 34) (lv' := [some (vr o), some (vi ((s : Nat) : Int)), some (vi ((c : Nat) : Int))]) (st' := [vi 0, vi (-1), vi ((c : Nat) : Int), vi ((s : Nat) : Int), vr o]) rfl ?_
      refine M.callV (eX11_dropAll l G o am u a0 b0 (mS (28 + (3 * s) + c) 3 D) _ ht hd25 (by omega)  s (by omega) c (by omega) (-1) 0 (by omega) (by omega)) cv_X11_337 cd_X11_dropAll rfl (st := []) rfl (isM_o hM24) (by decide) (by decide) rfl (Nat.zero_le _) (Nat.zero_le _) ⟨_, _, hM24, hR25, hF25, hB⟩ (fun r27 w28 q29 => ?_)
      obtain ⟨q29r, a26, b26, hM26, hR26, hF26, hB26⟩ := q29
      rw [q29r]
      have hd26 : Dok n (mDrop s (pKS ((c : Nat) : Int) (-1) 0) (mS (28 + (3 * s) + c) 3 D)) := Dok_drop hd25
      have es26 : (mDrop s (pKS ((c : Nat) : Int) (-1) 0) (mS (28 + (3 * s) + c) 3 D)).1 = uN D.1 (28 + (3 * s) + c) 3 := es25
      refine M.run 9 (pc' := 46) (lv' := [some (vr o), some (vi ((s : Nat) : Int)), some (vi ((c : Nat) : Int))]) (st' := [vi 0, vi 0, vi 0, vi 0, vi 0, vi ((c : Nat) : Int), vi 4, vi ((s : Nat) : Int), vr o]) rfl ?_
      refine M.callV (eX11_put l G o am u a0 b0 (mDrop s (pKS ((c : Nat) : Int) (-1) 0) (mS (28 + (3 * s) + c) 3 D)) _ ht hd26 (by omega)  s (by omega) 4 ((c : Nat) : Int) 0 0 0 0 0) cv_X11_314 cd_X11_put rfl (st := []) rfl (isM_o hM26) (by decide) (by decide) rfl (Nat.zero_le _) (Nat.zero_le _) ⟨_, _, hM26, hR26, hF26, hB26⟩ (fun r32 w33 q34 => ?_)
      obtain ⟨q34r, a31, b31, hM31, hR31, hF31, hB31⟩ := q34
      rw [q34r]
      have hd31 : Dok n (mPut s (rwM 4 ((c : Nat) : Int) 0 0 0 0 0) (mDrop s (pKS ((c : Nat) : Int) (-1) 0) (mS (28 + (3 * s) + c) 3 D))) := Dok_put hd26 (by omega) (rowOk_M (by omega))
      have es31 : (mPut s (rwM 4 ((c : Nat) : Int) 0 0 0 0 0) (mDrop s (pKS ((c : Nat) : Int) (-1) 0) (mS (28 + (3 * s) + c) 3 D))).1 = uN D.1 (28 + (3 * s) + c) 3 := (mPut_1 _ _ _).trans es26
      refine M.run 1 (pc' := 50) (lv' := [some (vr o), some (vi ((s : Nat) : Int)), some (vi ((c : Nat) : Int))]) (st' := []) rfl ?_
      exact M.vret rfl (Nat.zero_le _) (Nat.zero_le _) (by
          first
          | exact ⟨rfl, by unfold mGotCancel; rw [if_pos (by omega)]; exact ⟨_, _, hM31, hR31, hF31, hB31⟩⟩
          | exact ⟨rfl, by unfold mGotCancel; rw [if_neg (by omega)]; exact ⟨_, _, hM31, hR31, hF31, hB31⟩⟩)
