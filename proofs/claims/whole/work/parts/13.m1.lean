def Mlo (k : Nat) : Int := ([0, 0, -1, 0, 0, 0, 1, 1, 0, 1, 0, 1, 0, 0, 0, 0, 0, 0, 0, 0, 0, 0, 0, 0, 0, 0, 0, 0, 0, 0, 0, 0, 0, 0, 0, 0, 0, 0, 0, 0, 0, 0, 0, 0, 0, 0, 0, 0, 0] : List Int).getD k 0
def Mhi (k : Nat) : Int := ([3, 4, 3, 30, 8, 29, 20, 9, 9, 60, 59, 60, 30, 30, 30, 30, 30, 30, 10400, 31090, 10400, 1000000000, 1000000000, 25, 24, 24, 40, 16, 3, 3, 3, 3, 3, 3, 1073741823, 1073741823, 1073741823, 1073741823, 1073741823, 1073741823, 1000000000, 1000000000, 1000000000, 1000000000, 1000000000, 1000000000, 1000000000, 1000000000, 1000000000] : List Int).getD k 0
/-- the numbers of the great row are within these bounds -/
def Mok (a : Nat → Int) : Prop := ∀ k : Nat, k < 49 → Mlo k ≤ a k ∧ a k ≤ Mhi k
theorem Mok_len {a : Nat → Int} (hk : Mok a) {x : Nat} (hx : x < 3) : 0 ≤ a (12 + x) ∧ a (12 + x) ≤ 30 := by
  match x, hx with
  | 0, _ => exact hk 12 (by decide)
  | 1, _ => exact hk 13 (by decide)
  | 2, _ => exact hk 14 (by decide)
  | n + 3, h => exact absurd h (by omega)
theorem Mok_red {a : Nat → Int} (hk : Mok a) {x : Nat} (hx : x < 3) : 0 ≤ a (15 + x) ∧ a (15 + x) ≤ 30 := by
  match x, hx with
  | 0, _ => exact hk 15 (by decide)
  | 1, _ => exact hk 16 (by decide)
  | 2, _ => exact hk 17 (by decide)
  | n + 3, h => exact absurd h (by omega)
theorem Mok_how {a : Nat → Int} (hk : Mok a) {x : Nat} (hx : x < 6) : 0 ≤ a (28 + x) ∧ a (28 + x) ≤ 3 := by
  match x, hx with
  | 0, _ => exact hk 28 (by decide)
  | 1, _ => exact hk 29 (by decide)
  | 2, _ => exact hk 30 (by decide)
  | 3, _ => exact hk 31 (by decide)
  | 4, _ => exact hk 32 (by decide)
  | 5, _ => exact hk 33 (by decide)
  | n + 6, h => exact absurd h (by omega)
theorem Mok_clm {a : Nat → Int} (hk : Mok a) {x : Nat} (hx : x < 3) : 0 ≤ a (34 + x) ∧ a (34 + x) ≤ 1073741823 := by
  match x, hx with
  | 0, _ => exact hk 34 (by decide)
  | 1, _ => exact hk 35 (by decide)
  | 2, _ => exact hk 36 (by decide)
  | n + 3, h => exact absurd h (by omega)
theorem Mok_com {a : Nat → Int} (hk : Mok a) {x : Nat} (hx : x < 3) : 0 ≤ a (37 + x) ∧ a (37 + x) ≤ 1073741823 := by
  match x, hx with
  | 0, _ => exact hk 37 (by decide)
  | 1, _ => exact hk 38 (by decide)
  | 2, _ => exact hk 39 (by decide)
  | n + 3, h => exact absurd h (by omega)
theorem Mok_chk {a : Nat → Int} (hk : Mok a) {x : Nat} (hx : x < 3) : 0 ≤ a (40 + x) ∧ a (40 + x) ≤ 1000000000 := by
  match x, hx with
  | 0, _ => exact hk 40 (by decide)
  | 1, _ => exact hk 41 (by decide)
  | 2, _ => exact hk 42 (by decide)
  | n + 3, h => exact absurd h (by omega)
theorem Mok_rep {a : Nat → Int} (hk : Mok a) {x : Nat} (hx : x < 3) : 0 ≤ a (43 + x) ∧ a (43 + x) ≤ 1000000000 := by
  match x, hx with
  | 0, _ => exact hk 43 (by decide)
  | 1, _ => exact hk 44 (by decide)
  | 2, _ => exact hk 45 (by decide)
  | n + 3, h => exact absurd h (by omega)
theorem Mok_byt {a : Nat → Int} (hk : Mok a) {x : Nat} (hx : x < 3) : 0 ≤ a (46 + x) ∧ a (46 + x) ≤ 1000000000 := by
  match x, hx with
  | 0, _ => exact hk 46 (by decide)
  | 1, _ => exact hk 47 (by decide)
  | 2, _ => exact hk 48 (by decide)
  | n + 3, h => exact absurd h (by omega)
theorem Mok_outs {a : Nat → Int} (hk : Mok a) {x : Nat} (hx : x < 2) : 0 ≤ a (24 + x) ∧ a (24 + x) ≤ 24 := by
  match x, hx with
  | 0, _ => exact hk 24 (by decide)
  | 1, _ => exact hk 25 (by decide)
  | n + 2, h => exact absurd h (by omega)
/-- whether they are seen at a clock -/
def mSn (a : Nat → Int) (z : Int) : Bool := decide (a 10 ≤ z.tmod (a 9) ∧ z.tmod (a 9) ≤ a 11 - 1)
theorem tm_b {x m : Int} (hx : 0 ≤ x) (hm : 0 < m) : 0 ≤ x.tmod m ∧ x.tmod m < m := ⟨Int.tmod_nonneg m hx, Int.tmod_lt_of_pos x hm⟩
set_option maxHeartbeats 4000000 in
set_option maxRecDepth 100000 in
theorem kX11_isIn (l : Launch) (G : GT) (x lo hi : Int) (hx : inI x) (hl : inI lo) (hh : inI hi) : Ctr l G yX11_isIn cX11_isIn 3 ((Option.some Jvm.ClassFile.FieldType.boolean)) 1 0 0 [vi x, vi lo, vi hi] (fun w => True) (fun w r w' => r = some (vi (zb (decide (lo ≤ x ∧ x ≤ hi)))) ∧ w' = w) := by
  refine Ctr.of (t := tX11_isIn) (lv0 := [some (vi x), some (vi lo), some (vi hi)]) (by decide +kernel) tX11_isIn_ok rfl rfl (fun w g hP M => ?_)
  refine M.run 2 (pc' := 2) (lv' := [some (vi x), some (vi lo), some (vi hi)]) (st' := [vi lo, vi x]) rfl ?_
  refine M.icmp_lt (tgt := 14) rfl (qI (by have := hx.1; have := hx.2; have := hl.1; have := hl.2; have := hh.1; have := hh.2; omega)) (qI (by have := hx.1; have := hx.2; have := hl.1; have := hl.2; have := hh.1; have := hh.2; omega)) (by decide) (fun h2 => ?_) (fun h2 => ?_)
  · skip
    refine M.run 1 (pc' := 15) (lv' := [some (vi x), some (vi lo), some (vi hi)]) (st' := [vi 0]) rfl ?_
    exact M.zret rfl (Or.inl rfl) (Nat.zero_le _) (Nat.zero_le _) ⟨by congr 2; first | (rw [decide_eq_true (by omega)]; rfl) | (rw [decide_eq_false (by omega)]; rfl), rfl⟩
  · skip
    refine M.run 2 (pc' := 7) (lv' := [some (vi x), some (vi lo), some (vi hi)]) (st' := [vi hi, vi x]) rfl ?_
    refine M.icmp_gt (tgt := 14) rfl (qI (by have := hx.1; have := hx.2; have := hl.1; have := hl.2; have := hh.1; have := hh.2; omega)) (qI (by have := hx.1; have := hx.2; have := hl.1; have := hl.2; have := hh.1; have := hh.2; omega)) (by decide) (fun h7 => ?_) (fun h7 => ?_)
    · skip
      refine M.run 1 (pc' := 15) (lv' := [some (vi x), some (vi lo), some (vi hi)]) (st' := [vi 0]) rfl ?_
      exact M.zret rfl (Or.inl rfl) (Nat.zero_le _) (Nat.zero_le _) ⟨by congr 2; first | (rw [decide_eq_true (by omega)]; rfl) | (rw [decide_eq_false (by omega)]; rfl), rfl⟩
    · skip
      refine M.run 2 (pc' := 15) (lv' := [some (vi x), some (vi lo), some (vi hi)]) (st' := [vi 1]) rfl ?_
      exact M.zret rfl (Or.inr rfl) (Nat.zero_le _) (Nat.zero_le _) ⟨by congr 2; first | (rw [decide_eq_true (by omega)]; rfl) | (rw [decide_eq_false (by omega)]; rfl), rfl⟩
set_option maxHeartbeats 4000000 in
set_option maxRecDepth 100000 in
theorem kX11_isBits (l : Launch) (G : GT) (x : Int) (hx : inI x) : Ctr l G yX11_isBits cX11_isBits 1 ((Option.some Jvm.ClassFile.FieldType.boolean)) 2 0 0 [vi x] (fun w => True) (fun w r w' => r = some (vi (zb (decide (0 ≤ x ∧ x ≤ 1073741823)))) ∧ w' = w) := by
  refine Ctr.of (t := tX11_isBits) (lv0 := [some (vi x)]) (by decide +kernel) tX11_isBits_ok rfl rfl (fun w g hP M => ?_)
  have hx1 := hx.1
  have hx2 := hx.2
  refine M.run 2 (pc' := 2) (lv' := [some (vi x)]) (st' := [vi 0, vi x]) rfl ?_
  refine M.ldcw (x := 1073741823) kc_X11_469 rfl rfl ?_
  refine M.callS (kX11_isIn l G x 0 1073741823 (qI (by omega)) (qI (by omega)) (qI (by omega))) cs_X11_50 cd_X11_isIn rfl (st := []) rfl (by decide) (by decide) rfl (Nat.zero_le _) (Nat.zero_le _) trivial (fun r1 w2 q3 => ?_)
  rw [q3.1, q3.2]
  exact M.zret rfl (zb_01 _) (Nat.zero_le _) (Nat.zero_le _) ⟨rfl, rfl⟩
set_option maxHeartbeats 4000000 in
set_option maxRecDepth 100000 in
theorem kX11_bytesIn (l : Launch) (G : GT) (f t : Nat) (hf : f ≤ t) (ht : t ≤ 30) : Ctr l G yX11_bytesIn cX11_bytesIn 2 ((Option.some Jvm.ClassFile.FieldType.int)) 1 0 0 [vi ((f : Nat) : Int), vi ((t : Nat) : Int)] (fun w => True) (fun w r w' => r = some (vi ((bIn f t : Nat) : Int)) ∧ w' = w) := by
  refine Ctr.of (t := tX11_bytesIn) (lv0 := [some (vi ((f : Nat) : Int)), some (vi ((t : Nat) : Int))]) (by decide +kernel) tX11_bytesIn_ok rfl rfl (fun w g hP M => ?_)
  refine M.run 2 (pc' := 2) (lv' := [some (vi ((f : Nat) : Int)), some (vi ((t : Nat) : Int))]) (st' := [vi ((t : Nat) : Int), vi 1]) rfl ?_
  refine M.ishl (b1 := 1) (b2 := t) rfl (by omega) ?_
  refine M.run 2 (pc' := 5) (lv' := [some (vi ((f : Nat) : Int)), some (vi ((t : Nat) : Int))]) (st' := [vi ((f : Nat) : Int), vi 1, vi ((1 <<< t : Nat) : Int)]) rfl ?_
  refine M.ishl (b1 := 1) (b2 := f) rfl (by omega) ?_
  refine M.run 1 (pc' := 7) (lv' := [some (vi ((f : Nat) : Int)), some (vi ((t : Nat) : Int))]) (st' := [vi (((1 <<< t : Nat) : Int) - ((1 <<< f : Nat) : Int))]) rfl ?_
  exact M.iret rfl (Nat.zero_le _) (Nat.zero_le _) ⟨by congr 2; rw [bIn_sub hf, Nat.one_shiftLeft, Nat.one_shiftLeft]; have := Nat.pow_le_pow_right (n := 2) (by decide) hf; omega, rfl⟩
set_option maxHeartbeats 4000000 in
set_option maxRecDepth 100000 in
theorem kX11_spansOf (l : Launch) (G : GT) (b : Nat) (hb : b < 1073741824) : Ctr l G yX11_spansOf cX11_spansOf 3 ((Option.some Jvm.ClassFile.FieldType.int)) 3 0 0 [vi ((b : Nat) : Int)] (fun w => True) (fun w r w' => r = some (vi (((bPs b 30).length : Nat) : Int)) ∧ w' = w) := by
  refine Ctr.of (t := tX11_spansOf) (lv0 := [some (vi ((b : Nat) : Int)), none, none]) (by decide +kernel) tX11_spansOf_ok rfl rfl (fun w g hP M => ?_)
  have hlen : (bPs b 30).length ≤ 30 := bPsF_len b 30 (by decide) 30 0 (by omega)
  refine M.run 4 (pc' := 4) (lv' := [some (vi ((b : Nat) : Int)), some (vi 0), none]) (st' := [vi 0, vi ((b : Nat) : Int)]) rfl ?_
  have hz0 := bNx_le 30 b 0 (by omega) (by omega)
  refine M.callS (kX11_firstFrom l G b (by omega) 0 (by omega)) cs_X11_66 cd_X11_firstFrom rfl (st := []) rfl (by decide) (by decide) rfl (Nat.zero_le _) (Nat.zero_le _) trivial (fun r1 w2 q3 => ?_)
  rw [q3.1, q3.2]
  refine M.run 1 (pc' := 8) (lv' := [some (vi ((b : Nat) : Int)), some (vi 0), some (vi ((bNx b 0 : Nat) : Int))]) (st' := []) rfl ?_
  have Lp8 : ∀ (N : Nat) (p : Nat) (n : Nat) (q : Nat), (p = bNx b q) → (q ≤ 30) → (n + (bPsF b 30 q).length = (bPs b 30).length) → (p ≤ 30) → (bPsF b 30 q).length < N → g 0 0 w 8 [some (vi ((b : Nat) : Int)), some (vi ((n : Nat) : Int)), some (vi ((p : Nat) : Int))] [] := by
    intro N
    induction N with
    | zero => intro p n q _ _ _ _ hN; exact absurd hN (Nat.not_lt_zero _)
    | succ N ih8 =>
      intro p n q hp hq h3 hp2 hN
      refine M.run 2 (pc' := 11) (lv' := [some (vi ((b : Nat) : Int)), some (vi ((n : Nat) : Int)), some (vi ((p : Nat) : Int))]) (st' := [vi 30, vi ((p : Nat) : Int)]) rfl ?_
      refine M.icmp_ge (tgt := 30) rfl (qI (by omega)) (qI (by decide)) (by decide) (fun h11 => ?_) (fun h11 => ?_)
      · skip
        refine M.run 1 (pc' := 31) (lv' := [some (vi ((b : Nat) : Int)), some (vi ((n : Nat) : Int)), some (vi ((p : Nat) : Int))]) (st' := [vi ((n : Nat) : Int)]) rfl ?_
        exact M.iret rfl (Nat.zero_le _) (Nat.zero_le _) ⟨by rw [bPsF_e (by omega)] at h3; congr 3, rfl⟩
      · skip
        have hs1 : bPsF b 30 q = (bNx b q, bPt b 30 (bNx b q)) :: bPsF b 30 (bPt b 30 (bNx b q)) := bPsF_s (by decide) (by omega)
        rw [bPt_30 (by omega), ← hp] at hs1
        have hl1 : (bPsF b 30 q).length = (bPsF b 30 (bEd b p)).length + 1 := by rw [hs1]; rfl
        have he := bEd_le 30 b p (by omega) (by omega)
        have he2 := bNx_le 30 b (bEd b p) (by omega) he
        refine M.run 4 (pc' := 20) (lv' := [some (vi ((b : Nat) : Int)), some (vi (((n : Nat) : Int) + 1)), some (vi ((p : Nat) : Int))]) (st' := [vi ((p : Nat) : Int), vi ((b : Nat) : Int), vi ((b : Nat) : Int)]) rfl ?_
        refine M.callS (kX11_endFrom l G b (by omega) p (by omega)) cs_X11_69 cd_X11_endFrom rfl (st := [vi ((b : Nat) : Int)]) rfl (by decide) (by decide) rfl (Nat.zero_le _) (Nat.zero_le _) trivial (fun r5 w6 q7 => ?_)
        rw [q7.1, q7.2]
        refine M.callS (kX11_firstFrom l G b (by omega) (bEd b p) (by omega)) cs_X11_66 cd_X11_firstFrom rfl (st := []) rfl (by decide) (by decide) rfl (Nat.zero_le _) (Nat.zero_le _) trivial (fun r9 w10 q11 => ?_)
        rw [q11.1, q11.2]
        refine M.run 2 (pc' := 8) (lv' := [some (vi ((b : Nat) : Int)), some (vi (((n : Nat) : Int) + 1)), some (vi ((bNx b (bEd b p) : Nat) : Int))]) (st' := []) rfl ?_
        exact ih8 (bNx b (bEd b p)) (n + 1) (bEd b p) rfl (by omega) (by omega) (by omega) (by omega)
  exact Lp8 _ (bNx b 0) 0 0 rfl (by omega) (Nat.zero_add _) (by omega) (Nat.lt_succ_self _)
set_option maxHeartbeats 4000000 in
set_option maxRecDepth 100000 in
theorem kX11_spanOf (l : Launch) (G : GT) (b : Nat) (hb : b < 1073741824) (i : Nat) (hi : i < (bPs b 30).length) (z : Int) (hz1 : -2147483648 ≤ z ∧ z ≤ 2147483647) : Ctr l G yX11_spanOf cX11_spanOf 5 ((Option.some Jvm.ClassFile.FieldType.int)) 3 0 0 [vi ((b : Nat) : Int), vi ((i : Nat) : Int), vi z] (fun w => True) (fun w r w' => r = some (vi (bEg (bPs b 30) i z)) ∧ w' = w) := by
  refine Ctr.of (t := tX11_spanOf) (lv0 := [some (vi ((b : Nat) : Int)), some (vi ((i : Nat) : Int)), some (vi z), none, none]) (by decide +kernel) tX11_spanOf_ok rfl rfl (fun w g hP M => ?_)
  have hlen : (bPs b 30).length ≤ 30 := bPsF_len b 30 (by decide) 30 0 (by omega)
  refine M.run 2 (pc' := 2) (lv' := [some (vi ((b : Nat) : Int)), some (vi ((i : Nat) : Int)), some (vi z), none, none]) (st' := [vi 0, vi ((b : Nat) : Int)]) rfl ?_
  have hz0 := bNx_le 30 b 0 (by omega) (by omega)
  refine M.callS (kX11_firstFrom l G b (by omega) 0 (by omega)) cs_X11_66 cd_X11_firstFrom rfl (st := []) rfl (by decide) (by decide) rfl (Nat.zero_le _) (Nat.zero_le _) trivial (fun r1 w2 q3 => ?_)
  rw [q3.1, q3.2]
  refine M.run 3 (pc' := 9) (lv' := [some (vi ((b : Nat) : Int)), some (vi ((i : Nat) : Int)), some (vi z), some (vi ((bNx b 0 : Nat) : Int)), some (vi 0)]) (st' := []) rfl ?_
  have Lp9 : ∀ (N : Nat) (p : Nat) (n : Nat) (q : Nat), (p = bNx b q) → (q ≤ 30) → (bPsF b 30 q = (bPs b 30).drop n) → (p ≤ 30) → (n ≤ i) → i - n < N → g 0 0 w 9 [some (vi ((b : Nat) : Int)), some (vi ((i : Nat) : Int)), some (vi z), some (vi ((p : Nat) : Int)), some (vi ((n : Nat) : Int))] [] := by
    intro N
    induction N with
    | zero => intro p n q _ _ _ _ _ hN; exact absurd hN (Nat.not_lt_zero _)
    | succ N ih9 =>
      intro p n q hp hq h3 hp2 hn1 hN
      refine M.run 2 (pc' := 12) (lv' := [some (vi ((b : Nat) : Int)), some (vi ((i : Nat) : Int)), some (vi z), some (vi ((p : Nat) : Int)), some (vi ((n : Nat) : Int))]) (st' := [vi ((i : Nat) : Int), vi ((n : Nat) : Int)]) rfl ?_
      refine M.icmp_ge (tgt := 31) rfl (qI (by omega)) (qI (by omega)) (by decide) (fun h12 => ?_) (fun h12 => ?_)
      · skip
        have hq2 : bNx b q < 30 := by by_cases h9 : bNx b q < 30; exact h9; rw [bPsF_e h9] at h3; have := List.drop_eq_nil_iff.mp h3.symm; omega
        have hs1 : bPsF b 30 q = (bNx b q, bPt b 30 (bNx b q)) :: bPsF b 30 (bPt b 30 (bNx b q)) := bPsF_s (by decide) hq2
        rw [bPt_30 (by omega), ← hp] at hs1
        have hn : n = i := by omega
        have h7 : (bPs b 30)[i]? = some (p, bEd b p) := by rw [← hn, ← List.head?_drop, ← h3, hs1]; rfl
        refine M.run 1 (pc' := 32) (lv' := [some (vi ((b : Nat) : Int)), some (vi ((i : Nat) : Int)), some (vi z), some (vi ((p : Nat) : Int)), some (vi ((n : Nat) : Int))]) (st' := [vi z]) rfl ?_
        refine M.if_eq (tgt := 43) rfl (qI (by omega)) (by decide) (fun h32 => ?_) (fun h32 => ?_)
        · skip
          refine M.run 1 (pc' := 44) (lv' := [some (vi ((b : Nat) : Int)), some (vi ((i : Nat) : Int)), some (vi z), some (vi ((p : Nat) : Int)), some (vi ((n : Nat) : Int))]) (st' := [vi ((p : Nat) : Int)]) rfl ?_
          exact M.iret rfl (Nat.zero_le _) (Nat.zero_le _) ⟨by congr 2; unfold bEg; rw [if_pos (by omega), show ((i : Nat) : Int).toNat = i from rfl, h7]; first | (simp only []; rw [if_neg (by omega)]) | (simp only []; rw [if_pos (by omega)]), rfl⟩
        · skip
          refine M.run 2 (pc' := 37) (lv' := [some (vi ((b : Nat) : Int)), some (vi ((i : Nat) : Int)), some (vi z), some (vi ((p : Nat) : Int)), some (vi ((n : Nat) : Int))]) (st' := [vi ((p : Nat) : Int), vi ((b : Nat) : Int)]) rfl ?_
          refine M.callS (kX11_endFrom l G b (by omega) p (by omega)) cs_X11_69 cd_X11_endFrom rfl (st := []) rfl (by decide) (by decide) rfl (Nat.zero_le _) (Nat.zero_le _) trivial (fun r5 w6 q7 => ?_)
          rw [q7.1, q7.2]
          refine M.run 1 (pc' := 44) (lv' := [some (vi ((b : Nat) : Int)), some (vi ((i : Nat) : Int)), some (vi z), some (vi ((p : Nat) : Int)), some (vi ((n : Nat) : Int))]) (st' := [vi ((bEd b p : Nat) : Int)]) rfl ?_
          exact M.iret rfl (Nat.zero_le _) (Nat.zero_le _) ⟨by congr 2; unfold bEg; rw [if_pos (by omega), show ((i : Nat) : Int).toNat = i from rfl, h7]; first | (simp only []; rw [if_neg (by omega)]) | (simp only []; rw [if_pos (by omega)]), rfl⟩
      · skip
        have hq2 : bNx b q < 30 := by by_cases h9 : bNx b q < 30; exact h9; rw [bPsF_e h9] at h3; have := List.drop_eq_nil_iff.mp h3.symm; omega
        have hs1 : bPsF b 30 q = (bNx b q, bPt b 30 (bNx b q)) :: bPsF b 30 (bPt b 30 (bNx b q)) := bPsF_s (by decide) hq2
        rw [bPt_30 (by omega), ← hp] at hs1
        have he := bEd_le 30 b p (by omega) (by omega)
        have he2 := bNx_le 30 b (bEd b p) (by omega) he
        refine M.run 3 (pc' := 18) (lv' := [some (vi ((b : Nat) : Int)), some (vi ((i : Nat) : Int)), some (vi z), some (vi ((p : Nat) : Int)), some (vi ((n : Nat) : Int))]) (st' := [vi ((p : Nat) : Int), vi ((b : Nat) : Int), vi ((b : Nat) : Int)]) rfl ?_
        refine M.callS (kX11_endFrom l G b (by omega) p (by omega)) cs_X11_69 cd_X11_endFrom rfl (st := [vi ((b : Nat) : Int)]) rfl (by decide) (by decide) rfl (Nat.zero_le _) (Nat.zero_le _) trivial (fun r9 w10 q11 => ?_)
        rw [q11.1, q11.2]
        refine M.callS (kX11_firstFrom l G b (by omega) (bEd b p) (by omega)) cs_X11_66 cd_X11_firstFrom rfl (st := []) rfl (by decide) (by decide) rfl (Nat.zero_le _) (Nat.zero_le _) trivial (fun r13 w14 q15 => ?_)
        rw [q15.1, q15.2]
        refine M.run 3 (pc' := 9) (lv' := [some (vi ((b : Nat) : Int)), some (vi ((i : Nat) : Int)), some (vi z), some (vi ((bNx b (bEd b p) : Nat) : Int)), some (vi (((n : Nat) : Int) + 1))]) (st' := []) rfl ?_
        exact ih9 (bNx b (bEd b p)) (n + 1) (bEd b p) rfl (by omega) (by rw [← List.drop_drop, ← h3, hs1]; rfl) (by omega) (by omega) (by omega)
  exact Lp9 _ (bNx b 0) 0 0 rfl (by omega) rfl (by omega) (by omega) (Nat.lt_succ_self _)
set_option maxHeartbeats 4000000 in
set_option maxRecDepth 100000 in
theorem kX11_isBlock (l : Launch) (G : GT) (o : Nat) (am : Nat → Nat) (u a : Nat → Int) (b : Nat → Nat → Int) (x : Int) (hx : -2147483648 ≤ x ∧ x ≤ 2147483647) (hk : Mok a) : Ctr l G yX11_isBlock cX11_isBlock 2 ((Option.some Jvm.ClassFile.FieldType.boolean)) 2 0 0 [vr o, vi x] (fun w => isM o am u a b w) (fun w r w' => r = some (vi (zb (decide (0 ≤ x ∧ x < a 0)))) ∧ w' = w) := by
  refine Ctr.of (t := tX11_isBlock) (lv0 := [some (vr o), some (vi x)]) (by decide +kernel) tX11_isBlock_ok rfl rfl (fun w g hP M => ?_)
  have hM := hP
  have hk0 : 0 ≤ a 0 ∧ a 0 ≤ 3 := hk 0 (by decide)
  refine M.run 3 (pc' := 3) (lv' := [some (vr o), some (vi x)]) (st' := [vr o, vi 0, vi x]) rfl ?_
  refine M.get fl_X11_7 rfl (isM_o hM) (kf := 0) (v := vr (am 0)) rfl ?_
  refine M.run 1 (pc' := 7) (lv' := [some (vr o), some (vi x)]) (st' := [vi 0, vr (am 0), vi 0, vi x]) rfl ?_
  refine M.ialdN (0) rfl (isM_a hM) (by decide) (by decide) ?_
  refine M.run 2 (pc' := 10) (lv' := [some (vr o), some (vi x)]) (st' := [vi ((a 0) - 1), vi 0, vi x]) rfl ?_
  refine M.callS (kX11_isIn l G x 0 ((a 0) - 1) (qI (by omega)) (qI (by omega)) (qI (by omega))) cs_X11_50 cd_X11_isIn rfl (st := []) rfl (by decide) (by decide) rfl (Nat.zero_le _) (Nat.zero_le _) trivial (fun r1 w2 q3 => ?_)
  rw [q3.1, q3.2]
  exact M.zret rfl (zb_01 _) (Nat.zero_le _) (Nat.zero_le _) ⟨by congr 3; exact decide_eq_decide.mpr (by omega), rfl⟩
set_option maxHeartbeats 4000000 in
set_option maxRecDepth 100000 in
theorem kX11_redOf (l : Launch) (G : GT) (o : Nat) (am : Nat → Nat) (u a : Nat → Int) (b : Nat → Nat → Int) (x : Nat) (hx : x < 3) (hk : Mok a) : Ctr l G yX11_redOf cX11_redOf 2 ((Option.some Jvm.ClassFile.FieldType.int)) 2 0 0 [vr o, vi ((x : Nat) : Int)] (fun w => isM o am u a b w) (fun w r w' => r = some (vi ((bFs (a (15 + x)).toNat : Nat) : Int)) ∧ w' = w) := by
  refine Ctr.of (t := tX11_redOf) (lv0 := [some (vr o), some (vi ((x : Nat) : Int))]) (by decide +kernel) tX11_redOf_ok rfl rfl (fun w g hP M => ?_)
  have hM := hP
  have hk_red_x := Mok_red hk (x := x) (by omega)
  refine M.run 2 (pc' := 2) (lv' := [some (vr o), some (vi ((x : Nat) : Int))]) (st' := [vr o, vi 0]) rfl ?_
  refine M.get fl_X11_7 rfl (isM_o hM) (kf := 0) (v := vr (am 0)) rfl ?_
  refine M.run 3 (pc' := 9) (lv' := [some (vr o), some (vi ((x : Nat) : Int))]) (st' := [vi (15 + ((x : Nat) : Int)), vr (am 0), vi 0]) rfl ?_
  refine M.ialdN (15 + x) rfl (isM_a hM) (by omega) (by decide) ?_
  rw [show a (15 + x) = (((a (15 + x)).toNat : Nat) : Int) from (Int.toNat_of_nonneg (by omega)).symm]
  refine M.callS (kX11_bytesIn l G 0 ((a (15 + x)).toNat) (by omega) (by omega)) cs_X11_54 cd_X11_bytesIn rfl (st := []) rfl (by decide) (by decide) rfl (Nat.zero_le _) (Nat.zero_le _) trivial (fun r1 w2 q3 => ?_)
  rw [q3.1, q3.2]
  exact M.iret rfl (Nat.zero_le _) (Nat.zero_le _) ⟨by rw [show bIn 0 (a (15 + x)).toNat = bFs (a (15 + x)).toNat from bIn_sub (Nat.zero_le _)], rfl⟩
set_option maxHeartbeats 4000000 in
set_option maxRecDepth 100000 in
theorem kX11_missingOf (l : Launch) (G : GT) (o : Nat) (am : Nat → Nat) (u a : Nat → Int) (b : Nat → Nat → Int) (x : Nat) (hx : x < 3) (hk : Mok a) : Ctr l G yX11_missingOf cX11_missingOf 2 ((Option.some Jvm.ClassFile.FieldType.int)) 3 0 0 [vr o, vi ((x : Nat) : Int)] (fun w => isM o am u a b w) (fun w r w' => r = some (vi ((bDf (bFs (a (15 + x)).toNat) (a (34 + x)).toNat : Nat) : Int)) ∧ w' = w) := by
  refine Ctr.of (t := tX11_missingOf) (lv0 := [some (vr o), some (vi ((x : Nat) : Int))]) (by decide +kernel) tX11_missingOf_ok rfl rfl (fun w g hP M => ?_)
  have hM := hP
  have hk_red_x := Mok_red hk (x := x) (by omega)
  have hk_clm_x := Mok_clm hk (x := x) (by omega)
  have hf := bFs_lt (n := (a (15 + x)).toNat) (by omega)
  refine M.run 2 (pc' := 2) (lv' := [some (vr o), some (vi ((x : Nat) : Int))]) (st' := [vi ((x : Nat) : Int), vr o]) rfl ?_
  refine M.callV (kX11_redOf l G o am u a b x hx hk) cv_X11_58 cd_X11_redOf rfl (st := []) rfl (isM_o hM) (by decide) (by decide) rfl (Nat.zero_le _) (Nat.zero_le _) hM (fun r1 w2 q3 => ?_)
  rw [q3.1, q3.2]
  refine M.run 1 (pc' := 6) (lv' := [some (vr o), some (vi ((x : Nat) : Int))]) (st' := [vr o, vi ((bFs (a (15 + x)).toNat : Nat) : Int)]) rfl ?_
  refine M.get fl_X11_7 rfl (isM_o hM) (kf := 0) (v := vr (am 0)) rfl ?_
  refine M.run 3 (pc' := 13) (lv' := [some (vr o), some (vi ((x : Nat) : Int))]) (st' := [vi (34 + ((x : Nat) : Int)), vr (am 0), vi ((bFs (a (15 + x)).toNat : Nat) : Int)]) rfl ?_
  refine M.ialdN (34 + x) rfl (isM_a hM) (by omega) (by decide) ?_
  rw [show a (34 + x) = (((a (34 + x)).toNat : Nat) : Int) from (Int.toNat_of_nonneg (by omega)).symm]
  refine M.run 1 (pc' := 15) (lv' := [some (vr o), some (vi ((x : Nat) : Int))]) (st' := [vi (-1), vi (((a (34 + x)).toNat : Nat) : Int), vi ((bFs (a (15 + x)).toNat : Nat) : Int)]) rfl ?_
  refine M.ixm1 (b1 := (a (34 + x)).toNat) rfl ?_
  refine M.iandn (b1 := bFs (a (15 + x)).toNat) (b2 := (a (34 + x)).toNat) rfl (by omega) (by omega) ?_
  exact M.iret rfl (Nat.zero_le _) (Nat.zero_le _) ⟨rfl, rfl⟩
set_option maxHeartbeats 4000000 in
set_option maxRecDepth 100000 in
theorem kX11_delay (l : Launch) (G : GT) (o : Nat) (am : Nat → Nat) (u a : Nat → Int) (b : Nat → Nat → Int) (x : Int) (hx : -2147483648 ≤ x ∧ x ≤ 2147483647) : Ctr l G yX11_delay cX11_delay 2 ((Option.some Jvm.ClassFile.FieldType.boolean)) 2 0 0 [vr o, vi x] (fun w => isM o am u a b w) (fun w r w' => r = some (vi (zb (decide (1 ≤ x ∧ x ≤ 20)))) ∧ isM o am u (if 1 ≤ x ∧ x ≤ 20 then uN a 6 x else a) b w') := by
  refine Ctr.of (t := tX11_delay) (lv0 := [some (vr o), some (vi x)]) (by decide +kernel) tX11_delay_ok rfl rfl (fun w g hP M => ?_)
  have hM := hP
  refine M.run 3 (pc' := 4) (lv' := [some (vr o), some (vi x)]) (st' := [vi 20, vi 1, vi x]) rfl ?_
  refine M.callS (kX11_isIn l G x 1 20 (qI (by omega)) (qI (by omega)) (qI (by omega))) cs_X11_50 cd_X11_isIn rfl (st := []) rfl (by decide) (by decide) rfl (Nat.zero_le _) (Nat.zero_le _) trivial (fun r1 w2 q3 => ?_)
  rw [q3.1, q3.2]
  refine M.if_ne (tgt := 12) rfl (inI_zb _) (by decide) (fun h7 => ?_) (fun h7 => ?_)
  · skip
    replace h7 := zb_td h7
    refine M.run 1 (pc' := 13) (lv' := [some (vr o), some (vi x)]) (st' := [vr o]) rfl ?_
    refine M.get fl_X11_7 rfl (isM_o hM) (kf := 0) (v := vr (am 0)) rfl ?_
    refine M.run 2 (pc' := 19) (lv' := [some (vr o), some (vi x)]) (st' := [vi x, vi 6, vr (am 0)]) rfl ?_
    refine M.iastN (6) rfl (isM_a hM) (by decide) (by decide) ?_
    have hM6 := isM_setA hM (uN a 6 x)
    generalize up w (am 0) (Ar 0 30042 (uN a 6 x)) = w5 at hM6 ⊢
    refine M.run 1 (pc' := 21) (lv' := [some (vr o), some (vi x)]) (st' := [vi 1]) rfl ?_
    exact M.zret rfl (Or.inr rfl) (Nat.zero_le _) (Nat.zero_le _) ⟨by rw [decide_eq_true h7]; rfl, by rw [if_pos h7]; assumption⟩
  · skip
    replace h7 := zb_fd h7
    refine M.run 1 (pc' := 11) (lv' := [some (vr o), some (vi x)]) (st' := [vi 0]) rfl ?_
    exact M.zret rfl (Or.inl rfl) (Nat.zero_le _) (Nat.zero_le _) ⟨by rw [decide_eq_false h7]; rfl, by rw [if_neg h7]; exact hM⟩
set_option maxHeartbeats 4000000 in
set_option maxRecDepth 100000 in
theorem kX11_size (l : Launch) (G : GT) (o : Nat) (am : Nat → Nat) (u a : Nat → Int) (b : Nat → Nat → Int) (x : Int) (hx : -2147483648 ≤ x ∧ x ≤ 2147483647) : Ctr l G yX11_size cX11_size 2 ((Option.some Jvm.ClassFile.FieldType.boolean)) 2 0 0 [vr o, vi x] (fun w => isM o am u a b w) (fun w r w' => r = some (vi (zb (decide (1 ≤ x ∧ x ≤ 9)))) ∧ isM o am u (if 1 ≤ x ∧ x ≤ 9 then uN a 7 x else a) b w') := by
  refine Ctr.of (t := tX11_size) (lv0 := [some (vr o), some (vi x)]) (by decide +kernel) tX11_size_ok rfl rfl (fun w g hP M => ?_)
  have hM := hP
  refine M.run 3 (pc' := 4) (lv' := [some (vr o), some (vi x)]) (st' := [vi 9, vi 1, vi x]) rfl ?_
  refine M.callS (kX11_isIn l G x 1 9 (qI (by omega)) (qI (by omega)) (qI (by omega))) cs_X11_50 cd_X11_isIn rfl (st := []) rfl (by decide) (by decide) rfl (Nat.zero_le _) (Nat.zero_le _) trivial (fun r1 w2 q3 => ?_)
  rw [q3.1, q3.2]
  refine M.if_ne (tgt := 12) rfl (inI_zb _) (by decide) (fun h7 => ?_) (fun h7 => ?_)
  · skip
    replace h7 := zb_td h7
    refine M.run 1 (pc' := 13) (lv' := [some (vr o), some (vi x)]) (st' := [vr o]) rfl ?_
    refine M.get fl_X11_7 rfl (isM_o hM) (kf := 0) (v := vr (am 0)) rfl ?_
    refine M.run 2 (pc' := 19) (lv' := [some (vr o), some (vi x)]) (st' := [vi x, vi 7, vr (am 0)]) rfl ?_
    refine M.iastN (7) rfl (isM_a hM) (by decide) (by decide) ?_
    have hM6 := isM_setA hM (uN a 7 x)
    generalize up w (am 0) (Ar 0 30042 (uN a 7 x)) = w5 at hM6 ⊢
    refine M.run 1 (pc' := 21) (lv' := [some (vr o), some (vi x)]) (st' := [vi 1]) rfl ?_
    exact M.zret rfl (Or.inr rfl) (Nat.zero_le _) (Nat.zero_le _) ⟨by rw [decide_eq_true h7]; rfl, by rw [if_pos h7]; assumption⟩
  · skip
    replace h7 := zb_fd h7
    refine M.run 1 (pc' := 11) (lv' := [some (vr o), some (vi x)]) (st' := [vi 0]) rfl ?_
    exact M.zret rfl (Or.inl rfl) (Nat.zero_le _) (Nat.zero_le _) ⟨by rw [decide_eq_false h7]; rfl, by rw [if_neg h7]; exact hM⟩
set_option maxHeartbeats 4000000 in
set_option maxRecDepth 100000 in
theorem kX11_tries (l : Launch) (G : GT) (o : Nat) (am : Nat → Nat) (u a : Nat → Int) (b : Nat → Nat → Int) (x : Int) (hx : -2147483648 ≤ x ∧ x ≤ 2147483647) : Ctr l G yX11_tries cX11_tries 2 ((Option.some Jvm.ClassFile.FieldType.boolean)) 2 0 0 [vr o, vi x] (fun w => isM o am u a b w) (fun w r w' => r = some (vi (zb (decide (0 ≤ x ∧ x ≤ 9)))) ∧ isM o am u (if 0 ≤ x ∧ x ≤ 9 then uN a 8 x else a) b w') := by
  refine Ctr.of (t := tX11_tries) (lv0 := [some (vr o), some (vi x)]) (by decide +kernel) tX11_tries_ok rfl rfl (fun w g hP M => ?_)
  have hM := hP
  refine M.run 3 (pc' := 4) (lv' := [some (vr o), some (vi x)]) (st' := [vi 9, vi 0, vi x]) rfl ?_
  refine M.callS (kX11_isIn l G x 0 9 (qI (by omega)) (qI (by omega)) (qI (by omega))) cs_X11_50 cd_X11_isIn rfl (st := []) rfl (by decide) (by decide) rfl (Nat.zero_le _) (Nat.zero_le _) trivial (fun r1 w2 q3 => ?_)
  rw [q3.1, q3.2]
  refine M.if_ne (tgt := 12) rfl (inI_zb _) (by decide) (fun h7 => ?_) (fun h7 => ?_)
  · skip
    replace h7 := zb_td h7
    refine M.run 1 (pc' := 13) (lv' := [some (vr o), some (vi x)]) (st' := [vr o]) rfl ?_
    refine M.get fl_X11_7 rfl (isM_o hM) (kf := 0) (v := vr (am 0)) rfl ?_
    refine M.run 2 (pc' := 19) (lv' := [some (vr o), some (vi x)]) (st' := [vi x, vi 8, vr (am 0)]) rfl ?_
    refine M.iastN (8) rfl (isM_a hM) (by decide) (by decide) ?_
    have hM6 := isM_setA hM (uN a 8 x)
    generalize up w (am 0) (Ar 0 30042 (uN a 8 x)) = w5 at hM6 ⊢
    refine M.run 1 (pc' := 21) (lv' := [some (vr o), some (vi x)]) (st' := [vi 1]) rfl ?_
    exact M.zret rfl (Or.inr rfl) (Nat.zero_le _) (Nat.zero_le _) ⟨by rw [decide_eq_true h7]; rfl, by rw [if_pos h7]; assumption⟩
  · skip
    replace h7 := zb_fd h7
    refine M.run 1 (pc' := 11) (lv' := [some (vr o), some (vi x)]) (st' := [vi 0]) rfl ?_
    exact M.zret rfl (Or.inl rfl) (Nat.zero_le _) (Nat.zero_le _) ⟨by rw [decide_eq_false h7]; rfl, by rw [if_neg h7]; exact hM⟩
set_option maxHeartbeats 4000000 in
set_option maxRecDepth 100000 in
theorem kX11_window (l : Launch) (G : GT) (o : Nat) (am : Nat → Nat) (u a : Nat → Int) (b : Nat → Nat → Int) (x f z : Int) (hx : -2147483648 ≤ x ∧ x ≤ 2147483647) (hf : -2147483648 ≤ f ∧ f ≤ 2147483647) (hz : -2147483648 ≤ z ∧ z ≤ 2147483647) : Ctr l G yX11_window cX11_window 4 ((Option.some Jvm.ClassFile.FieldType.boolean)) 2 0 0 [vr o, vi x, vi f, vi z] (fun w => isM o am u a b w) (fun w r w' => r = some (vi (zb (decide ((1 ≤ x ∧ x ≤ 60) ∧ (0 ≤ z ∧ z ≤ x) ∧ 0 ≤ f ∧ f ≤ z - 1)))) ∧ isM o am u (if (1 ≤ x ∧ x ≤ 60) ∧ (0 ≤ z ∧ z ≤ x) ∧ 0 ≤ f ∧ f ≤ z - 1 then uN (uN (uN a 9 x) 10 f) 11 z else a) b w') := by
  refine Ctr.of (t := tX11_window) (lv0 := [some (vr o), some (vi x), some (vi f), some (vi z)]) (by decide +kernel) tX11_window_ok rfl rfl (fun w g hP M => ?_)
  have hM := hP
  refine M.run 3 (pc' := 4) (lv' := [some (vr o), some (vi x), some (vi f), some (vi z)]) (st' := [vi 60, vi 1, vi x]) rfl ?_
  refine M.callS (kX11_isIn l G x 1 60 (qI (by omega)) (qI (by omega)) (qI (by omega))) cs_X11_50 cd_X11_isIn rfl (st := []) rfl (by decide) (by decide) rfl (Nat.zero_le _) (Nat.zero_le _) trivial (fun r1 w2 q3 => ?_)
  rw [q3.1, q3.2]
  refine M.if_eq (tgt := 30) rfl (inI_zb _) (by decide) (fun h7 => ?_) (fun h7 => ?_)
  · skip
    replace h7 := zb_fd h7
    refine M.run 1 (pc' := 31) (lv' := [some (vr o), some (vi x), some (vi f), some (vi z)]) (st' := [vi 0]) rfl ?_
    exact M.zret rfl (Or.inl rfl) (Nat.zero_le _) (Nat.zero_le _) ⟨by rw [decide_eq_false (by omega)]; rfl, by rw [if_neg (by omega)]; exact hM⟩
  · skip
    replace h7 := zb_td h7
    refine M.run 3 (pc' := 13) (lv' := [some (vr o), some (vi x), some (vi f), some (vi z)]) (st' := [vi x, vi 0, vi z]) rfl ?_
    refine M.callS (kX11_isIn l G z 0 x (qI (by omega)) (qI (by omega)) (qI (by omega))) cs_X11_50 cd_X11_isIn rfl (st := []) rfl (by decide) (by decide) rfl (Nat.zero_le _) (Nat.zero_le _) trivial (fun r5 w6 q7 => ?_)
    rw [q7.1, q7.2]
    refine M.if_eq (tgt := 30) rfl (inI_zb _) (by decide) (fun h16 => ?_) (fun h16 => ?_)
    · skip
      replace h16 := zb_fd h16
      refine M.run 1 (pc' := 31) (lv' := [some (vr o), some (vi x), some (vi f), some (vi z)]) (st' := [vi 0]) rfl ?_
      exact M.zret rfl (Or.inl rfl) (Nat.zero_le _) (Nat.zero_le _) ⟨by rw [decide_eq_false (by omega)]; rfl, by rw [if_neg (by omega)]; exact hM⟩
    · skip
      replace h16 := zb_td h16
      refine M.run 5 (pc' := 24) (lv' := [some (vr o), some (vi x), some (vi f), some (vi z)]) (st' := [vi (z - 1), vi 0, vi f]) rfl ?_
      refine M.callS (kX11_isIn l G f 0 (z - 1) (qI (by omega)) (qI (by omega)) (qI (by omega))) cs_X11_50 cd_X11_isIn rfl (st := []) rfl (by decide) (by decide) rfl (Nat.zero_le _) (Nat.zero_le _) trivial (fun r9 w10 q11 => ?_)
      rw [q11.1, q11.2]
      refine M.if_ne (tgt := 32) rfl (inI_zb _) (by decide) (fun h27 => ?_) (fun h27 => ?_)
      · skip
        replace h27 := zb_td h27
        refine M.run 1 (pc' := 33) (lv' := [some (vr o), some (vi x), some (vi f), some (vi z)]) (st' := [vr o]) rfl ?_
        refine M.get fl_X11_7 rfl (isM_o hM) (kf := 0) (v := vr (am 0)) rfl ?_
        refine M.run 2 (pc' := 39) (lv' := [some (vr o), some (vi x), some (vi f), some (vi z)]) (st' := [vi x, vi 9, vr (am 0)]) rfl ?_
        refine M.iastN (9) rfl (isM_a hM) (by decide) (by decide) ?_
        have hM14 := isM_setA hM (uN a 9 x)
        generalize up w (am 0) (Ar 0 30042 (uN a 9 x)) = w13 at hM14 ⊢
        refine M.run 1 (pc' := 41) (lv' := [some (vr o), some (vi x), some (vi f), some (vi z)]) (st' := [vr o]) rfl ?_
        refine M.get fl_X11_7 rfl (isM_o hM14) (kf := 0) (v := vr (am 0)) rfl ?_
        refine M.run 2 (pc' := 47) (lv' := [some (vr o), some (vi x), some (vi f), some (vi z)]) (st' := [vi f, vi 10, vr (am 0)]) rfl ?_
        refine M.iastN (10) rfl (isM_a hM14) (by decide) (by decide) ?_
        have hM16 := isM_setA hM14 (uN (uN a 9 x) 10 f)
        generalize up w13 (am 0) (Ar 0 30042 (uN (uN a 9 x) 10 f)) = w15 at hM16 ⊢
        refine M.run 1 (pc' := 49) (lv' := [some (vr o), some (vi x), some (vi f), some (vi z)]) (st' := [vr o]) rfl ?_
        refine M.get fl_X11_7 rfl (isM_o hM16) (kf := 0) (v := vr (am 0)) rfl ?_
        refine M.run 2 (pc' := 55) (lv' := [some (vr o), some (vi x), some (vi f), some (vi z)]) (st' := [vi z, vi 11, vr (am 0)]) rfl ?_
        refine M.iastN (11) rfl (isM_a hM16) (by decide) (by decide) ?_
        have hM18 := isM_setA hM16 (uN (uN (uN a 9 x) 10 f) 11 z)
        generalize up w15 (am 0) (Ar 0 30042 (uN (uN (uN a 9 x) 10 f) 11 z)) = w17 at hM18 ⊢
        refine M.run 1 (pc' := 57) (lv' := [some (vr o), some (vi x), some (vi f), some (vi z)]) (st' := [vi 1]) rfl ?_
        exact M.zret rfl (Or.inr rfl) (Nat.zero_le _) (Nat.zero_le _) ⟨by rw [decide_eq_true (by omega)]; rfl, by rw [if_pos (by omega)]; assumption⟩
      · skip
        replace h27 := zb_fd h27
        refine M.run 1 (pc' := 31) (lv' := [some (vr o), some (vi x), some (vi f), some (vi z)]) (st' := [vi 0]) rfl ?_
        exact M.zret rfl (Or.inl rfl) (Nat.zero_le _) (Nat.zero_le _) ⟨by rw [decide_eq_false (by omega)]; rfl, by rw [if_neg (by omega)]; exact hM⟩
set_option maxHeartbeats 4000000 in
set_option maxRecDepth 100000 in
theorem kX11_isSeenAt (l : Launch) (G : GT) (o : Nat) (am : Nat → Nat) (u a : Nat → Int) (b : Nat → Nat → Int) (z : Int) (hz : 0 ≤ z ∧ z ≤ 2147483647) (hk : Mok a) : Ctr l G yX11_isSeenAt cX11_isSeenAt 2 ((Option.some Jvm.ClassFile.FieldType.boolean)) 2 0 0 [vr o, vi z] (fun w => isM o am u a b w) (fun w r w' => r = some (vi (zb (mSn a z))) ∧ w' = w) := by
  refine Ctr.of (t := tX11_isSeenAt) (lv0 := [some (vr o), some (vi z)]) (by decide +kernel) tX11_isSeenAt_ok rfl rfl (fun w g hP M => ?_)
  have hM := hP
  have hk9 : 1 ≤ a 9 ∧ a 9 ≤ 60 := hk 9 (by decide)
  have hk10 : 0 ≤ a 10 ∧ a 10 ≤ 59 := hk 10 (by decide)
  have hk11 : 1 ≤ a 11 ∧ a 11 ≤ 60 := hk 11 (by decide)
  have ht := tm_b (x := z) (m := a 9) (by omega) (by omega)
  refine M.run 2 (pc' := 2) (lv' := [some (vr o), some (vi z)]) (st' := [vr o, vi z]) rfl ?_
  refine M.get fl_X11_7 rfl (isM_o hM) (kf := 0) (v := vr (am 0)) rfl ?_
  refine M.run 1 (pc' := 7) (lv' := [some (vr o), some (vi z)]) (st' := [vi 9, vr (am 0), vi z]) rfl ?_
  refine M.ialdN (9) rfl (isM_a hM) (by decide) (by decide) ?_
  refine M.irem rfl (qI (by omega)) (qI (by omega)) (by omega) ?_
  refine M.run 1 (pc' := 10) (lv' := [some (vr o), some (vi z)]) (st' := [vr o, vi (z.tmod (a 9))]) rfl ?_
  refine M.get fl_X11_7 rfl (isM_o hM) (kf := 0) (v := vr (am 0)) rfl ?_
  refine M.run 1 (pc' := 15) (lv' := [some (vr o), some (vi z)]) (st' := [vi 10, vr (am 0), vi (z.tmod (a 9))]) rfl ?_
  refine M.ialdN (10) rfl (isM_a hM) (by decide) (by decide) ?_
  refine M.run 1 (pc' := 17) (lv' := [some (vr o), some (vi z)]) (st' := [vr o, vi (a 10), vi (z.tmod (a 9))]) rfl ?_
  refine M.get fl_X11_7 rfl (isM_o hM) (kf := 0) (v := vr (am 0)) rfl ?_
  refine M.run 1 (pc' := 22) (lv' := [some (vr o), some (vi z)]) (st' := [vi 11, vr (am 0), vi (a 10), vi (z.tmod (a 9))]) rfl ?_
  refine M.ialdN (11) rfl (isM_a hM) (by decide) (by decide) ?_
  refine M.run 2 (pc' := 25) (lv' := [some (vr o), some (vi z)]) (st' := [vi ((a 11) - 1), vi (a 10), vi (z.tmod (a 9))]) rfl ?_
  refine M.callS (kX11_isIn l G (z.tmod (a 9)) (a 10) ((a 11) - 1) (qI (by omega)) (qI (by omega)) (qI (by omega))) cs_X11_50 cd_X11_isIn rfl (st := []) rfl (by decide) (by decide) rfl (Nat.zero_le _) (Nat.zero_le _) trivial (fun r1 w2 q3 => ?_)
  rw [q3.1, q3.2]
  exact M.zret rfl (zb_01 _) (Nat.zero_le _) (Nat.zero_le _) ⟨rfl, rfl⟩
set_option maxHeartbeats 4000000 in
set_option maxRecDepth 100000 in
theorem kX11_pieceEnd (l : Launch) (G : GT) (o : Nat) (am : Nat → Nat) (u a : Nat → Int) (b : Nat → Nat → Int) (c : Nat) (hc : c < 1073741824) (p : Nat) (hp : p ≤ 30) (hk : Mok a) : Ctr l G yX11_pieceEnd cX11_pieceEnd 4 ((Option.some Jvm.ClassFile.FieldType.int)) 3 0 0 [vr o, vi ((c : Nat) : Int), vi ((p : Nat) : Int)] (fun w => isM o am u a b w) (fun w r w' => r = some (vi ((bPt c (a 7).toNat p : Nat) : Int)) ∧ w' = w) := by
  refine Ctr.of (t := tX11_pieceEnd) (lv0 := [some (vr o), some (vi ((c : Nat) : Int)), some (vi ((p : Nat) : Int)), none]) (by decide +kernel) tX11_pieceEnd_ok rfl rfl (fun w g hP M => ?_)
  have hM := hP
  have hk7 : 1 ≤ a 7 ∧ a 7 ≤ 9 := hk 7 (by decide)
  have he1 := bEd_ge 30 c p (by omega)
  have he2 := bEd_le 30 c p (by omega) hp
  refine M.run 2 (pc' := 2) (lv' := [some (vr o), some (vi ((c : Nat) : Int)), some (vi ((p : Nat) : Int)), none]) (st' := [vi ((p : Nat) : Int), vi ((c : Nat) : Int)]) rfl ?_
  refine M.callS (kX11_endFrom l G c (by omega) p (by omega)) cs_X11_69 cd_X11_endFrom rfl (st := []) rfl (by decide) (by decide) rfl (Nat.zero_le _) (Nat.zero_le _) trivial (fun r1 w2 q3 => ?_)
  rw [q3.1, q3.2]
  refine M.run 5 (pc' := 10) (lv' := [some (vr o), some (vi ((c : Nat) : Int)), some (vi ((p : Nat) : Int)), some (vi ((bEd c p : Nat) : Int))]) (st' := [vr o, vi (((bEd c p : Nat) : Int) - ((p : Nat) : Int))]) rfl ?_
  refine M.get fl_X11_7 rfl (isM_o hM) (kf := 0) (v := vr (am 0)) rfl ?_
  refine M.run 1 (pc' := 15) (lv' := [some (vr o), some (vi ((c : Nat) : Int)), some (vi ((p : Nat) : Int)), some (vi ((bEd c p : Nat) : Int))]) (st' := [vi 7, vr (am 0), vi (((bEd c p : Nat) : Int) - ((p : Nat) : Int))]) rfl ?_
  refine M.ialdN (7) rfl (isM_a hM) (by decide) (by decide) ?_
  refine M.icmp_le (tgt := 31) rfl (qI (by omega)) (qI (by omega)) (by decide) (fun h16 => ?_) (fun h16 => ?_)
  · skip
    refine M.run 1 (pc' := 32) (lv' := [some (vr o), some (vi ((c : Nat) : Int)), some (vi ((p : Nat) : Int)), some (vi ((bEd c p : Nat) : Int))]) (st' := [vi ((bEd c p : Nat) : Int)]) rfl ?_
    exact M.iret rfl (Nat.zero_le _) (Nat.zero_le _) ⟨by congr 2; unfold bPt; omega, rfl⟩
  · skip
    refine M.run 2 (pc' := 21) (lv' := [some (vr o), some (vi ((c : Nat) : Int)), some (vi ((p : Nat) : Int)), some (vi ((bEd c p : Nat) : Int))]) (st' := [vr o, vi ((p : Nat) : Int)]) rfl ?_
    refine M.get fl_X11_7 rfl (isM_o hM) (kf := 0) (v := vr (am 0)) rfl ?_
    refine M.run 1 (pc' := 26) (lv' := [some (vr o), some (vi ((c : Nat) : Int)), some (vi ((p : Nat) : Int)), some (vi ((bEd c p : Nat) : Int))]) (st' := [vi 7, vr (am 0), vi ((p : Nat) : Int)]) rfl ?_
    refine M.ialdN (7) rfl (isM_a hM) (by decide) (by decide) ?_
    refine M.run 2 (pc' := 32) (lv' := [some (vr o), some (vi ((c : Nat) : Int)), some (vi ((p : Nat) : Int)), some (vi ((bEd c p : Nat) : Int))]) (st' := [vi (((p : Nat) : Int) + (a 7))]) rfl ?_
    exact M.iret rfl (Nat.zero_le _) (Nat.zero_le _) ⟨by congr 2; unfold bPt; omega, rfl⟩
set_option maxHeartbeats 4000000 in
set_option maxRecDepth 100000 in
theorem kX11_piecesOf (l : Launch) (G : GT) (o : Nat) (am : Nat → Nat) (u a : Nat → Int) (b : Nat → Nat → Int) (c : Nat) (hc : c < 1073741824) (hk : Mok a) : Ctr l G yX11_piecesOf cX11_piecesOf 4 ((Option.some Jvm.ClassFile.FieldType.int)) 4 0 0 [vr o, vi ((c : Nat) : Int)] (fun w => isM o am u a b w) (fun w r w' => r = some (vi (((bPs c (a 7).toNat).length : Nat) : Int)) ∧ w' = w) := by
  refine Ctr.of (t := tX11_piecesOf) (lv0 := [some (vr o), some (vi ((c : Nat) : Int)), none, none]) (by decide +kernel) tX11_piecesOf_ok rfl rfl (fun w g hP M => ?_)
  have hM := hP
  have hk7 : 1 ≤ a 7 ∧ a 7 ≤ 9 := hk 7 (by decide)
  have hlen : (bPs c (a 7).toNat).length ≤ 30 := bPsF_len c (a 7).toNat (by omega) 30 0 (by omega)
  refine M.run 4 (pc' := 4) (lv' := [some (vr o), some (vi ((c : Nat) : Int)), some (vi 0), none]) (st' := [vi 0, vi ((c : Nat) : Int)]) rfl ?_
  have hz0 := bNx_le 30 c 0 (by omega) (by omega)
  refine M.callS (kX11_firstFrom l G c (by omega) 0 (by omega)) cs_X11_66 cd_X11_firstFrom rfl (st := []) rfl (by decide) (by decide) rfl (Nat.zero_le _) (Nat.zero_le _) trivial (fun r1 w2 q3 => ?_)
  rw [q3.1, q3.2]
  refine M.run 1 (pc' := 8) (lv' := [some (vr o), some (vi ((c : Nat) : Int)), some (vi 0), some (vi ((bNx c 0 : Nat) : Int))]) (st' := []) rfl ?_
  have Lp8 : ∀ (N : Nat) (p : Nat) (n : Nat) (q : Nat), (p = bNx c q) → (q ≤ 30) → (n + (bPsF c (a 7).toNat q).length = (bPs c (a 7).toNat).length) → (p ≤ 30) → (bPsF c (a 7).toNat q).length < N → g 0 0 w 8 [some (vr o), some (vi ((c : Nat) : Int)), some (vi ((n : Nat) : Int)), some (vi ((p : Nat) : Int))] [] := by
    intro N
    induction N with
    | zero => intro p n q _ _ _ _ hN; exact absurd hN (Nat.not_lt_zero _)
    | succ N ih8 =>
      intro p n q hp hq h3 hp2 hN
      refine M.run 2 (pc' := 11) (lv' := [some (vr o), some (vi ((c : Nat) : Int)), some (vi ((n : Nat) : Int)), some (vi ((p : Nat) : Int))]) (st' := [vi 30, vi ((p : Nat) : Int)]) rfl ?_
      refine M.icmp_ge (tgt := 31) rfl (qI (by omega)) (qI (by decide)) (by decide) (fun h11 => ?_) (fun h11 => ?_)
      · skip
        refine M.run 1 (pc' := 32) (lv' := [some (vr o), some (vi ((c : Nat) : Int)), some (vi ((n : Nat) : Int)), some (vi ((p : Nat) : Int))]) (st' := [vi ((n : Nat) : Int)]) rfl ?_
        exact M.iret rfl (Nat.zero_le _) (Nat.zero_le _) ⟨by rw [bPsF_e (by omega)] at h3; congr 3, rfl⟩
      · skip
        have hs1 : bPsF c (a 7).toNat q = (bNx c q, bPt c (a 7).toNat (bNx c q)) :: bPsF c (a 7).toNat (bPt c (a 7).toNat (bNx c q)) := bPsF_s (by omega) (by omega)
        rw [← hp] at hs1
        have hl1 : (bPsF c (a 7).toNat q).length = (bPsF c (a 7).toNat (bPt c (a 7).toNat p)).length + 1 := by rw [hs1]; rfl
        have he := bPt_le (b := c) (sz := (a 7).toNat) (p := p) (by omega)
        have he2 := bNx_le 30 c (bPt c (a 7).toNat p) (by omega) he
        refine M.run 5 (pc' := 21) (lv' := [some (vr o), some (vi ((c : Nat) : Int)), some (vi (((n : Nat) : Int) + 1)), some (vi ((p : Nat) : Int))]) (st' := [vi ((p : Nat) : Int), vi ((c : Nat) : Int), vr o, vi ((c : Nat) : Int)]) rfl ?_
        refine M.callV (kX11_pieceEnd l G o am u a b  c (by omega) p (by omega) hk) cv_X11_72 cd_X11_pieceEnd rfl (st := [vi ((c : Nat) : Int)]) rfl (isM_o hM) (by decide) (by decide) rfl (Nat.zero_le _) (Nat.zero_le _) hM (fun r5 w6 q7 => ?_)
        rw [q7.1, q7.2]
        refine M.callS (kX11_firstFrom l G c (by omega) (bPt c (a 7).toNat p) (by omega)) cs_X11_66 cd_X11_firstFrom rfl (st := []) rfl (by decide) (by decide) rfl (Nat.zero_le _) (Nat.zero_le _) trivial (fun r9 w10 q11 => ?_)
        rw [q11.1, q11.2]
        refine M.run 2 (pc' := 8) (lv' := [some (vr o), some (vi ((c : Nat) : Int)), some (vi (((n : Nat) : Int) + 1)), some (vi ((bNx c (bPt c (a 7).toNat p) : Nat) : Int))]) (st' := []) rfl ?_
        exact ih8 (bNx c (bPt c (a 7).toNat p)) (n + 1) (bPt c (a 7).toNat p) rfl (by omega) (by omega) (by omega) (by omega)
  exact Lp8 _ (bNx c 0) 0 0 rfl (by omega) (Nat.zero_add _) (by omega) (Nat.lt_succ_self _)
set_option maxHeartbeats 4000000 in
set_option maxRecDepth 100000 in
theorem kX11_pieceOf (l : Launch) (G : GT) (o : Nat) (am : Nat → Nat) (u a : Nat → Int) (b : Nat → Nat → Int) (c : Nat) (hc : c < 1073741824) (i : Nat) (hi : i < (bPs c (a 7).toNat).length) (z : Int) (hz1 : -2147483648 ≤ z ∧ z ≤ 2147483647) (hk : Mok a) : Ctr l G yX11_pieceOf cX11_pieceOf 6 ((Option.some Jvm.ClassFile.FieldType.int)) 4 0 0 [vr o, vi ((c : Nat) : Int), vi ((i : Nat) : Int), vi z] (fun w => isM o am u a b w) (fun w r w' => r = some (vi (bEg (bPs c (a 7).toNat) i z)) ∧ w' = w) := by
  refine Ctr.of (t := tX11_pieceOf) (lv0 := [some (vr o), some (vi ((c : Nat) : Int)), some (vi ((i : Nat) : Int)), some (vi z), none, none]) (by decide +kernel) tX11_pieceOf_ok rfl rfl (fun w g hP M => ?_)
  have hM := hP
  have hk7 : 1 ≤ a 7 ∧ a 7 ≤ 9 := hk 7 (by decide)
  have hlen : (bPs c (a 7).toNat).length ≤ 30 := bPsF_len c (a 7).toNat (by omega) 30 0 (by omega)
  refine M.run 2 (pc' := 2) (lv' := [some (vr o), some (vi ((c : Nat) : Int)), some (vi ((i : Nat) : Int)), some (vi z), none, none]) (st' := [vi 0, vi ((c : Nat) : Int)]) rfl ?_
  have hz0 := bNx_le 30 c 0 (by omega) (by omega)
  refine M.callS (kX11_firstFrom l G c (by omega) 0 (by omega)) cs_X11_66 cd_X11_firstFrom rfl (st := []) rfl (by decide) (by decide) rfl (Nat.zero_le _) (Nat.zero_le _) trivial (fun r1 w2 q3 => ?_)
  rw [q3.1, q3.2]
  refine M.run 3 (pc' := 10) (lv' := [some (vr o), some (vi ((c : Nat) : Int)), some (vi ((i : Nat) : Int)), some (vi z), some (vi ((bNx c 0 : Nat) : Int)), some (vi 0)]) (st' := []) rfl ?_
  have Lp10 : ∀ (N : Nat) (p : Nat) (n : Nat) (q : Nat), (p = bNx c q) → (q ≤ 30) → (bPsF c (a 7).toNat q = (bPs c (a 7).toNat).drop n) → (p ≤ 30) → (n ≤ i) → i - n < N → g 0 0 w 10 [some (vr o), some (vi ((c : Nat) : Int)), some (vi ((i : Nat) : Int)), some (vi z), some (vi ((p : Nat) : Int)), some (vi ((n : Nat) : Int))] [] := by
    intro N
    induction N with
    | zero => intro p n q _ _ _ _ _ hN; exact absurd hN (Nat.not_lt_zero _)
    | succ N ih10 =>
      intro p n q hp hq h3 hp2 hn1 hN
      refine M.run 2 (pc' := 13) (lv' := [some (vr o), some (vi ((c : Nat) : Int)), some (vi ((i : Nat) : Int)), some (vi z), some (vi ((p : Nat) : Int)), some (vi ((n : Nat) : Int))]) (st' := [vi ((i : Nat) : Int), vi ((n : Nat) : Int)]) rfl ?_
      refine M.icmp_ge (tgt := 35) rfl (qI (by omega)) (qI (by omega)) (by decide) (fun h13 => ?_) (fun h13 => ?_)
      · skip
        have hq2 : bNx c q < 30 := by by_cases h9 : bNx c q < 30; exact h9; rw [bPsF_e h9] at h3; have := List.drop_eq_nil_iff.mp h3.symm; omega
        have hs1 : bPsF c (a 7).toNat q = (bNx c q, bPt c (a 7).toNat (bNx c q)) :: bPsF c (a 7).toNat (bPt c (a 7).toNat (bNx c q)) := bPsF_s (by omega) hq2
        rw [← hp] at hs1
        have hn : n = i := by omega
        have h7 : (bPs c (a 7).toNat)[i]? = some (p, bPt c (a 7).toNat p) := by rw [← hn, ← List.head?_drop, ← h3, hs1]; rfl
        refine M.run 1 (pc' := 36) (lv' := [some (vr o), some (vi ((c : Nat) : Int)), some (vi ((i : Nat) : Int)), some (vi z), some (vi ((p : Nat) : Int)), some (vi ((n : Nat) : Int))]) (st' := [vi z]) rfl ?_
        refine M.if_eq (tgt := 49) rfl (qI (by omega)) (by decide) (fun h36 => ?_) (fun h36 => ?_)
        · skip
          refine M.run 1 (pc' := 51) (lv' := [some (vr o), some (vi ((c : Nat) : Int)), some (vi ((i : Nat) : Int)), some (vi z), some (vi ((p : Nat) : Int)), some (vi ((n : Nat) : Int))]) (st' := [vi ((p : Nat) : Int)]) rfl ?_
          exact M.iret rfl (Nat.zero_le _) (Nat.zero_le _) ⟨by congr 2; unfold bEg; rw [if_pos (by omega), show ((i : Nat) : Int).toNat = i from rfl, h7]; first | (simp only []; rw [if_neg (by omega)]) | (simp only []; rw [if_pos (by omega)]), rfl⟩
        · skip
          refine M.run 3 (pc' := 43) (lv' := [some (vr o), some (vi ((c : Nat) : Int)), some (vi ((i : Nat) : Int)), some (vi z), some (vi ((p : Nat) : Int)), some (vi ((n : Nat) : Int))]) (st' := [vi ((p : Nat) : Int), vi ((c : Nat) : Int), vr o]) rfl ?_
          refine M.callV (kX11_pieceEnd l G o am u a b  c (by omega) p (by omega) hk) cv_X11_72 cd_X11_pieceEnd rfl (st := []) rfl (isM_o hM) (by decide) (by decide) rfl (Nat.zero_le _) (Nat.zero_le _) hM (fun r5 w6 q7 => ?_)
          rw [q7.1, q7.2]
          refine M.run 1 (pc' := 51) (lv' := [some (vr o), some (vi ((c : Nat) : Int)), some (vi ((i : Nat) : Int)), some (vi z), some (vi ((p : Nat) : Int)), some (vi ((n : Nat) : Int))]) (st' := [vi ((bPt c (a 7).toNat p : Nat) : Int)]) rfl ?_
          exact M.iret rfl (Nat.zero_le _) (Nat.zero_le _) ⟨by congr 2; unfold bEg; rw [if_pos (by omega), show ((i : Nat) : Int).toNat = i from rfl, h7]; first | (simp only []; rw [if_neg (by omega)]) | (simp only []; rw [if_pos (by omega)]), rfl⟩
      · skip
        have hq2 : bNx c q < 30 := by by_cases h9 : bNx c q < 30; exact h9; rw [bPsF_e h9] at h3; have := List.drop_eq_nil_iff.mp h3.symm; omega
        have hs1 : bPsF c (a 7).toNat q = (bNx c q, bPt c (a 7).toNat (bNx c q)) :: bPsF c (a 7).toNat (bPt c (a 7).toNat (bNx c q)) := bPsF_s (by omega) hq2
        rw [← hp] at hs1
        have he := bPt_le (b := c) (sz := (a 7).toNat) (p := p) (by omega)
        have he2 := bNx_le 30 c (bPt c (a 7).toNat p) (by omega) he
        refine M.run 4 (pc' := 21) (lv' := [some (vr o), some (vi ((c : Nat) : Int)), some (vi ((i : Nat) : Int)), some (vi z), some (vi ((p : Nat) : Int)), some (vi ((n : Nat) : Int))]) (st' := [vi ((p : Nat) : Int), vi ((c : Nat) : Int), vr o, vi ((c : Nat) : Int)]) rfl ?_
        refine M.callV (kX11_pieceEnd l G o am u a b  c (by omega) p (by omega) hk) cv_X11_72 cd_X11_pieceEnd rfl (st := [vi ((c : Nat) : Int)]) rfl (isM_o hM) (by decide) (by decide) rfl (Nat.zero_le _) (Nat.zero_le _) hM (fun r9 w10 q11 => ?_)
        rw [q11.1, q11.2]
        refine M.callS (kX11_firstFrom l G c (by omega) (bPt c (a 7).toNat p) (by omega)) cs_X11_66 cd_X11_firstFrom rfl (st := []) rfl (by decide) (by decide) rfl (Nat.zero_le _) (Nat.zero_le _) trivial (fun r13 w14 q15 => ?_)
        rw [q15.1, q15.2]
        refine M.run 3 (pc' := 10) (lv' := [some (vr o), some (vi ((c : Nat) : Int)), some (vi ((i : Nat) : Int)), some (vi z), some (vi ((bNx c (bPt c (a 7).toNat p) : Nat) : Int)), some (vi (((n : Nat) : Int) + 1))]) (st' := []) rfl ?_
        exact ih10 (bNx c (bPt c (a 7).toNat p)) (n + 1) (bPt c (a 7).toNat p) rfl (by omega) (by rw [← List.drop_drop, ← h3, hs1]; rfl) (by omega) (by omega) (by omega)
  exact Lp10 _ (bNx c 0) 0 0 rfl (by omega) rfl (by omega) (by omega) (Nat.lt_succ_self _)
