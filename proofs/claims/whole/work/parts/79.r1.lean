abbrev isLt (x : Int) : Prop := (97 ≤ x ∧ x ≤ 122) ∨ 65 ≤ x ∧ x ≤ 90
abbrev isDg (x : Int) : Prop := 48 ≤ x ∧ x ≤ 57
/-- on while f says so -/
def tkR (f : Nat → Bool) : Nat → Nat → Nat
  | 0, p => p
  | k + 1, p => if f p = true then tkR f k (p + 1) else p
theorem tkR_y {f : Nat → Bool} {k p : Nat} (hk : 0 < k) (h : f p = true) : tkR f k p = tkR f (k - 1) (p + 1) := by
  cases k with
  | zero => omega
  | succ k => exact if_pos h
theorem tkR_n {f : Nat → Bool} {k p : Nat} (h : f p = false) : tkR f k p = p := by
  cases k with
  | zero => rfl
  | succ k => exact if_neg (by rw [h]; decide)
theorem tkR_b {f : Nat → Bool} : ∀ (k p : Nat), p ≤ tkR f k p ∧ tkR f k p ≤ p + k
  | 0, p => ⟨Nat.le_refl _, Nat.le_refl _⟩
  | k + 1, p => by
    have h := tkR_b (f := f) k (p + 1)
    unfold tkR
    split <;> omega
theorem tkR_f {f : Nat → Bool} : ∀ (k p i : Nat), p ≤ i → i < tkR f k p → f i = true
  | 0, p, i, h1, h2 => by replace h2 : i < p := h2; omega
  | k + 1, p, i, h1, h2 => by
    unfold tkR at h2
    split at h2
    · rename_i h
      by_cases e : i = p
      · rw [e]; exact h
      · exact tkR_f k (p + 1) i (by omega) h2
    · omega
/-- a run of letters (1) or of figures (0) -/
def tkF (b : Nat → Int) (v : Int) (i : Nat) : Bool := decide ((v = 1 ∧ isLt (b i)) ∨ (v = 0 ∧ isDg (b i)))
/-- where the token that begins at p ends -/
def tkE (b : Nat → Int) (e p : Nat) : Nat := if isLt (b p) then tkR (tkF b 1) (e - (p + 1)) (p + 1) else if isDg (b p) then tkR (tkF b 0) (e - (p + 1)) (p + 1) else if (b p = 60 ∨ b p = 62) ∧ p + 1 < e ∧ b (p + 1) = 61 then p + 2 else p + 1
theorem tkE_b {b : Nat → Int} {e p : Nat} (h : p < e) : p < tkE b e p ∧ tkE b e p ≤ e := by
  have h1 := tkR_b (f := tkF b 1) (e - (p + 1)) (p + 1)
  have h2 := tkR_b (f := tkF b 0) (e - (p + 1)) (p + 1)
  unfold tkE
  repeat' split
  all_goals omega
/-- the number that k figures from p on write -/
def fgM (b : Nat → Int) (p : Nat) : Nat → Int
  | 0 => 0
  | k + 1 => min 10000 (fgM b p k * 10 + b (p + k) - 48)
theorem fgM_b {b : Nat → Int} {p : Nat} : ∀ (k : Nat), (∀ i, i < k → 48 ≤ b (p + i)) → 0 ≤ fgM b p k ∧ fgM b p k ≤ 10000
  | 0, _ => ⟨Int.le_refl 0, by show (0 : Int) ≤ 10000; decide⟩
  | k + 1, h => by
    have h1 := fgM_b (b := b) (p := p) k (fun i hi => h i (by omega))
    have h2 := h k (by omega)
    show 0 ≤ min 10000 (fgM b p k * 10 + b (p + k) - 48) ∧ min 10000 (fgM b p k * 10 + b (p + k) - 48) ≤ 10000
    omega
/-- a sign's sort -/
def sgF (x : Int) : Nat → Nat → Int
  | 0, _ => 52
  | f + 1, k => if stC 1 k = x then 30 + ((k : Nat) : Int) else sgF x f (k + 1)
theorem sgF_y {x : Int} {f k : Nat} (hf : 0 < f) (h : stC 1 k = x) : sgF x f k = 30 + ((k : Nat) : Int) := by
  cases f with
  | zero => omega
  | succ f => exact if_pos h
theorem sgF_n {x : Int} {f k : Nat} (hf : 0 < f) (h : ¬ stC 1 k = x) : sgF x f k = sgF x (f - 1) (k + 1) := by
  cases f with
  | zero => omega
  | succ f => exact if_neg h
def sgM (x n : Int) : Int := if n = 2 then (if x = 60 then 41 else 42) else sgF x 11 0
/-- the word of the list that begins at s is the token's -/
def wdI (b : Nat → Int) (p s n : Nat) : Bool := mAll (fun k => decide (stC 0 (s + k) = b (p + k))) n
/-- a word's sort -/
def wdF (b : Nat → Int) (p q : Nat) : Nat → Nat → Nat → Nat → Int
  | 0, _, _, _ => 52
  | f + 1, i, v, s => if stC 0 i = 32 then (if i - s = q - p ∧ wdI b p s (i - s) = true then ((v : Nat) : Int) else wdF b p q f (i + 1) (v + 1) (i + 1)) else wdF b p q f (i + 1) v s
theorem wdF_o {b : Nat → Int} {p q f i v s : Nat} (hf : 0 < f) (h : ¬ stC 0 i = 32) : wdF b p q f i v s = wdF b p q (f - 1) (i + 1) v s := by
  cases f with
  | zero => omega
  | succ f => exact if_neg h
theorem wdF_n {b : Nat → Int} {p q f i v s : Nat} (hf : 0 < f) (h : stC 0 i = 32) (h2 : ¬ (i - s = q - p ∧ wdI b p s (i - s) = true)) : wdF b p q f i v s = wdF b p q (f - 1) (i + 1) (v + 1) (i + 1) := by
  cases f with
  | zero => omega
  | succ f => exact (if_pos h).trans (if_neg h2)
theorem wdF_y {b : Nat → Int} {p q f i v s : Nat} (hf : 0 < f) (h : stC 0 i = 32) (h2 : i - s = q - p ∧ wdI b p s (i - s) = true) : wdF b p q f i v s = ((v : Nat) : Int) := by
  cases f with
  | zero => omega
  | succ f => exact (if_pos h).trans (if_pos h2)
def wdM (b : Nat → Int) (p q : Nat) : Int := wdF b p q 121 0 0 0
theorem stN0 : stN 0 = 121 := rfl
theorem stN1 : stN 1 = 11 := rfl

set_option maxHeartbeats 4000000 in
set_option maxRecDepth 100000 in
theorem kX8_isLetter (l : Launch) (G : GT) (x : Int) (hx : -2147483648 ≤ x ∧ x ≤ 2147483647) : Ctr l G yX8_isLetter cX8_isLetter 1 ((Option.some Jvm.ClassFile.FieldType.boolean)) 1 0 0 [vi x] (fun w => True) (fun w r w' => r = some (vi (zb (decide (isLt x)))) ∧ w' = w) := by
  refine Ctr.of (t := tX8_isLetter) (lv0 := [some (vi x)]) (by decide +kernel) tX8_isLetter_ok rfl rfl (fun w g hP M => ?_)
  refine M.run 2 (pc' := 3) (lv' := [some (vi x)]) (st' := [vi 97, vi x]) rfl ?_
  refine M.icmp_lt (tgt := 12) rfl (qI (by omega)) (qI (by decide)) (by decide) (fun h3 => ?_) (fun h3 => ?_)
  · skip
    refine M.run 2 (pc' := 15) (lv' := [some (vi x)]) (st' := [vi 65, vi x]) rfl ?_
    refine M.icmp_lt (tgt := 28) rfl (qI (by omega)) (qI (by decide)) (by decide) (fun h15 => ?_) (fun h15 => ?_)
    · skip
      refine M.run 1 (pc' := 29) (lv' := [some (vi x)]) (st' := [vi 0]) rfl ?_
      exact M.zret rfl (Or.inl rfl) (Nat.zero_le _) (Nat.zero_le _) ⟨reI (by rw [decide_eq_false (by omega)]; rfl), rfl⟩
    · skip
      refine M.run 2 (pc' := 21) (lv' := [some (vi x)]) (st' := [vi 90, vi x]) rfl ?_
      refine M.icmp_gt (tgt := 28) rfl (qI (by omega)) (qI (by decide)) (by decide) (fun h21 => ?_) (fun h21 => ?_)
      · skip
        refine M.run 1 (pc' := 29) (lv' := [some (vi x)]) (st' := [vi 0]) rfl ?_
        exact M.zret rfl (Or.inl rfl) (Nat.zero_le _) (Nat.zero_le _) ⟨reI (by rw [decide_eq_false (by omega)]; rfl), rfl⟩
      · skip
        refine M.run 2 (pc' := 29) (lv' := [some (vi x)]) (st' := [vi 1]) rfl ?_
        exact M.zret rfl (Or.inr rfl) (Nat.zero_le _) (Nat.zero_le _) ⟨reI (by rw [decide_eq_true (by omega)]; rfl), rfl⟩
  · skip
    refine M.run 2 (pc' := 9) (lv' := [some (vi x)]) (st' := [vi 122, vi x]) rfl ?_
    refine M.icmp_le (tgt := 24) rfl (qI (by omega)) (qI (by decide)) (by decide) (fun h9 => ?_) (fun h9 => ?_)
    · skip
      refine M.run 2 (pc' := 29) (lv' := [some (vi x)]) (st' := [vi 1]) rfl ?_
      exact M.zret rfl (Or.inr rfl) (Nat.zero_le _) (Nat.zero_le _) ⟨reI (by rw [decide_eq_true (by omega)]; rfl), rfl⟩
    · skip
      refine M.run 2 (pc' := 15) (lv' := [some (vi x)]) (st' := [vi 65, vi x]) rfl ?_
      refine M.icmp_lt (tgt := 28) rfl (qI (by omega)) (qI (by decide)) (by decide) (fun h15 => ?_) (fun h15 => ?_)
      · skip
        refine M.run 1 (pc' := 29) (lv' := [some (vi x)]) (st' := [vi 0]) rfl ?_
        exact M.zret rfl (Or.inl rfl) (Nat.zero_le _) (Nat.zero_le _) ⟨reI (by rw [decide_eq_false (by omega)]; rfl), rfl⟩
      · skip
        refine M.run 2 (pc' := 21) (lv' := [some (vi x)]) (st' := [vi 90, vi x]) rfl ?_
        refine M.icmp_gt (tgt := 28) rfl (qI (by omega)) (qI (by decide)) (by decide) (fun h21 => ?_) (fun h21 => ?_)
        · skip
          refine M.run 1 (pc' := 29) (lv' := [some (vi x)]) (st' := [vi 0]) rfl ?_
          exact M.zret rfl (Or.inl rfl) (Nat.zero_le _) (Nat.zero_le _) ⟨reI (by rw [decide_eq_false (by omega)]; rfl), rfl⟩
        · skip
          refine M.run 2 (pc' := 29) (lv' := [some (vi x)]) (st' := [vi 1]) rfl ?_
          exact M.zret rfl (Or.inr rfl) (Nat.zero_le _) (Nat.zero_le _) ⟨reI (by rw [decide_eq_true (by omega)]; rfl), rfl⟩
set_option maxHeartbeats 4000000 in
set_option maxRecDepth 100000 in
theorem kX8_isDigit (l : Launch) (G : GT) (x : Int) (hx : -2147483648 ≤ x ∧ x ≤ 2147483647) : Ctr l G yX8_isDigit cX8_isDigit 1 ((Option.some Jvm.ClassFile.FieldType.boolean)) 1 0 0 [vi x] (fun w => True) (fun w r w' => r = some (vi (zb (decide (isDg x)))) ∧ w' = w) := by
  refine Ctr.of (t := tX8_isDigit) (lv0 := [some (vi x)]) (by decide +kernel) tX8_isDigit_ok rfl rfl (fun w g hP M => ?_)
  refine M.run 2 (pc' := 3) (lv' := [some (vi x)]) (st' := [vi 48, vi x]) rfl ?_
  refine M.icmp_lt (tgt := 16) rfl (qI (by omega)) (qI (by decide)) (by decide) (fun h3 => ?_) (fun h3 => ?_)
  · skip
    refine M.run 1 (pc' := 17) (lv' := [some (vi x)]) (st' := [vi 0]) rfl ?_
    exact M.zret rfl (Or.inl rfl) (Nat.zero_le _) (Nat.zero_le _) ⟨reI (by rw [decide_eq_false (by omega)]; rfl), rfl⟩
  · skip
    refine M.run 2 (pc' := 9) (lv' := [some (vi x)]) (st' := [vi 57, vi x]) rfl ?_
    refine M.icmp_gt (tgt := 16) rfl (qI (by omega)) (qI (by decide)) (by decide) (fun h9 => ?_) (fun h9 => ?_)
    · skip
      refine M.run 1 (pc' := 17) (lv' := [some (vi x)]) (st' := [vi 0]) rfl ?_
      exact M.zret rfl (Or.inl rfl) (Nat.zero_le _) (Nat.zero_le _) ⟨reI (by rw [decide_eq_false (by omega)]; rfl), rfl⟩
    · skip
      refine M.run 2 (pc' := 17) (lv' := [some (vi x)]) (st' := [vi 1]) rfl ?_
      exact M.zret rfl (Or.inr rfl) (Nat.zero_le _) (Nat.zero_le _) ⟨reI (by rw [decide_eq_true (by omega)]; rfl), rfl⟩
set_option maxHeartbeats 4000000 in
set_option maxRecDepth 100000 in
theorem kX8_tokenEnd (l : Launch) (G : GT) (pb : Nat) (b : Nat → Int) (hb : ∀ k : Nat, k < 300 → 0 ≤ b k ∧ b k < 256) (p e : Nat) (hp : p < e) (he : e ≤ 300) : Ctr l G yX8_tokenEnd cX8_tokenEnd 6 ((Option.some Jvm.ClassFile.FieldType.int)) 2 0 0 [vr pb, vi ((p : Nat) : Int), vi ((e : Nat) : Int)] (fun w => lk w pb = some (Ar 0 300 b)) (fun w r w' => r = some (vi (((tkE b e p : Nat) : Int))) ∧ w' = w) := by
  refine Ctr.of (t := tX8_tokenEnd) (lv0 := [some (vr pb), some (vi ((p : Nat) : Int)), some (vi ((e : Nat) : Int)), none, none, none]) (by decide +kernel) tX8_tokenEnd_ok rfl rfl (fun w g hP M => ?_)
  have hbp := hb p (by omega)
  refine M.run 1 (pc' := 1) (lv' := [some (vr pb), some (vi ((p : Nat) : Int)), some (vi ((e : Nat) : Int)), none, none, none]) (st' := [vi ((p : Nat) : Int)]) rfl ?_
  refine M.if_lt (tgt := 16) rfl (qI (by omega)) (by decide) (fun h1 => ?_) (fun h1 => ?_)
  · skip
    omega
  · skip
    refine M.run 2 (pc' := 6) (lv' := [some (vr pb), some (vi ((p : Nat) : Int)), some (vi ((e : Nat) : Int)), none, none, none]) (st' := [vr pb, vi ((p : Nat) : Int)]) rfl ?_
    refine M.alen rfl hP (by decide) ?_
    refine M.icmp_ge (tgt := 16) rfl (qI (by omega)) (qI (by omega)) (by decide) (fun h7 => ?_) (fun h7 => ?_)
    · skip
      omega
    · skip
      refine M.run 2 (pc' := 12) (lv' := [some (vr pb), some (vi ((p : Nat) : Int)), some (vi ((e : Nat) : Int)), none, none, none]) (st' := [vr pb, vi ((e : Nat) : Int)]) rfl ?_
      refine M.alen rfl hP (by decide) ?_
      refine M.icmp_le (tgt := 20) rfl (qI (by omega)) (qI (by omega)) (by decide) (fun h13 => ?_) (fun h13 => ?_)
      · skip
        refine M.run 2 (pc' := 22) (lv' := [some (vr pb), some (vi ((p : Nat) : Int)), some (vi ((e : Nat) : Int)), none, none, none]) (st' := [vi ((p : Nat) : Int), vr pb]) rfl ?_
        refine M.ialdN (p) rfl hP (by omega) (by decide) ?_
        refine M.callS (kX8_isLetter l G (b p) (by omega)) cs_X8_38 cd_X8_isLetter rfl (st := []) rfl (by decide) (by decide) rfl (Nat.zero_le _) (Nat.zero_le _) trivial (fun r1 w2 q3 => ?_)
        rw [q3.1, q3.2]
        refine M.run 2 (pc' := 28) (lv' := [some (vr pb), some (vi ((p : Nat) : Int)), some (vi ((e : Nat) : Int)), some (vi (zb (decide (isLt (b p))))), none, none]) (st' := [vi (zb (decide (isLt (b p))))]) rfl ?_
        refine M.if_ne (tgt := 40) rfl (inI_zb _) (by decide) (fun h28 => ?_) (fun h28 => ?_)
        · skip
          replace h28 := zb_td h28
          rw [show zb (decide (isLt (b p))) = 1 from (by rw [decide_eq_true h28]; rfl)]
          refine M.run 4 (pc' := 45) (lv' := [some (vr pb), some (vi ((p : Nat) : Int)), some (vi ((e : Nat) : Int)), some (vi 1), some (vi (((p : Nat) : Int) + 1)), none]) (st' := []) rfl ?_
          have Lp45 : ∀ (N : Nat) (v3 : Int) (p2 : Nat), (v3 = 0 ∨ v3 = 1) → (tkE b e p = tkR (tkF b v3) (e - p2) p2) → (p2 ≤ e) → e - p2 < N → g 0 0 w 45 [some (vr pb), some (vi ((p : Nat) : Int)), some (vi ((e : Nat) : Int)), some (vi v3), some (vi ((p2 : Nat) : Int)), none] [] := by
            intro N
            induction N with
            | zero => intro v3 p2 _ _ _ hN; exact absurd hN (Nat.not_lt_zero _)
            | succ N ih45 =>
              intro v3 p2 h3 hR hp2 hN
              refine M.run 2 (pc' := 48) (lv' := [some (vr pb), some (vi ((p : Nat) : Int)), some (vi ((e : Nat) : Int)), some (vi v3), some (vi ((p2 : Nat) : Int)), none]) (st' := [vi ((e : Nat) : Int), vi ((p2 : Nat) : Int)]) rfl ?_
              refine M.icmp_ge (tgt := 88) rfl (qI (by omega)) (qI (by omega)) (by decide) (fun h48 => ?_) (fun h48 => ?_)
              · skip
                refine M.run 1 (pc' := 89) (lv' := [some (vr pb), some (vi ((p : Nat) : Int)), some (vi ((e : Nat) : Int)), some (vi v3), some (vi ((p2 : Nat) : Int)), none]) (st' := [vi ((e : Nat) : Int)]) rfl ?_
                exact M.iret rfl (Nat.zero_le _) (Nat.zero_le _) ⟨reI (by rw [hR, show e - p2 = 0 by omega]; show ((e : Nat) : Int) = ((p2 : Nat) : Int); omega), rfl⟩
              · skip
                refine M.run 1 (pc' := 52) (lv' := [some (vr pb), some (vi ((p : Nat) : Int)), some (vi ((e : Nat) : Int)), some (vi v3), some (vi ((p2 : Nat) : Int)), none]) (st' := [vi v3]) rfl ?_
                refine M.if_eq (tgt := 65) rfl (qI (by omega)) (by decide) (fun h52 => ?_) (fun h52 => ?_)
                · skip
                  have hbq := hb p2 (by omega)
                  refine M.run 2 (pc' := 68) (lv' := [some (vr pb), some (vi ((p : Nat) : Int)), some (vi ((e : Nat) : Int)), some (vi v3), some (vi ((p2 : Nat) : Int)), none]) (st' := [vi ((p2 : Nat) : Int), vr pb]) rfl ?_
                  refine M.ialdN (p2) rfl hP (by omega) (by decide) ?_
                  refine M.callS (kX8_isDigit l G (b p2) (by omega)) cs_X8_49 cd_X8_isDigit rfl (st := []) rfl (by decide) (by decide) rfl (Nat.zero_le _) (Nat.zero_le _) trivial (fun r5 w6 q7 => ?_)
                  rw [q7.1, q7.2]
                  refine M.run 2 (pc' := 76) (lv' := [some (vr pb), some (vi ((p : Nat) : Int)), some (vi ((e : Nat) : Int)), some (vi v3), some (vi ((p2 : Nat) : Int)), some (vi (zb (decide (isDg (b p2)))))]) (st' := [vi (zb (decide (isDg (b p2))))]) rfl ?_
                  refine M.if_ne (tgt := 82) rfl (inI_zb _) (by decide) (fun h76 => ?_) (fun h76 => ?_)
                  · skip
                    replace h76 := zb_td h76
                    refine M.run 2 (pc' := 45) (lv' := [some (vr pb), some (vi ((p : Nat) : Int)), some (vi ((e : Nat) : Int)), some (vi v3), some (vi (((p2 : Nat) : Int) + 1)), some (vi (zb (decide (isDg (b p2)))))]) (st' := []) rfl ?_
                    refine M.fgt [false, false, false, false, false, true] ?_
                    exact ih45 v3 (p2 + 1) h3 (by rw [hR, tkR_y (by omega) (by unfold tkF; exact decide_eq_true (by omega)), show e - p2 - 1 = e - (p2 + 1) by omega]) (by omega) (by omega)
                  · skip
                    replace h76 := zb_fd h76
                    refine M.run 1 (pc' := 81) (lv' := [some (vr pb), some (vi ((p : Nat) : Int)), some (vi ((e : Nat) : Int)), some (vi v3), some (vi ((p2 : Nat) : Int)), some (vi (zb (decide (isDg (b p2)))))]) (st' := [vi ((p2 : Nat) : Int)]) rfl ?_
                    exact M.iret rfl (Nat.zero_le _) (Nat.zero_le _) ⟨reI (by rw [hR, tkR_n (by unfold tkF; exact decide_eq_false (by omega))]), rfl⟩
                · skip
                  have hbq := hb p2 (by omega)
                  refine M.run 2 (pc' := 58) (lv' := [some (vr pb), some (vi ((p : Nat) : Int)), some (vi ((e : Nat) : Int)), some (vi v3), some (vi ((p2 : Nat) : Int)), none]) (st' := [vi ((p2 : Nat) : Int), vr pb]) rfl ?_
                  refine M.ialdN (p2) rfl hP (by omega) (by decide) ?_
                  refine M.callS (kX8_isLetter l G (b p2) (by omega)) cs_X8_38 cd_X8_isLetter rfl (st := []) rfl (by decide) (by decide) rfl (Nat.zero_le _) (Nat.zero_le _) trivial (fun r9 w10 q11 => ?_)
                  rw [q11.1, q11.2]
                  refine M.run 3 (pc' := 76) (lv' := [some (vr pb), some (vi ((p : Nat) : Int)), some (vi ((e : Nat) : Int)), some (vi v3), some (vi ((p2 : Nat) : Int)), some (vi (zb (decide (isLt (b p2)))))]) (st' := [vi (zb (decide (isLt (b p2))))]) rfl ?_
                  refine M.if_ne (tgt := 82) rfl (inI_zb _) (by decide) (fun h76 => ?_) (fun h76 => ?_)
                  · skip
                    replace h76 := zb_td h76
                    refine M.run 2 (pc' := 45) (lv' := [some (vr pb), some (vi ((p : Nat) : Int)), some (vi ((e : Nat) : Int)), some (vi v3), some (vi (((p2 : Nat) : Int) + 1)), some (vi (zb (decide (isLt (b p2)))))]) (st' := []) rfl ?_
                    refine M.fgt [false, false, false, false, false, true] ?_
                    exact ih45 v3 (p2 + 1) h3 (by rw [hR, tkR_y (by omega) (by unfold tkF; exact decide_eq_true (by omega)), show e - p2 - 1 = e - (p2 + 1) by omega]) (by omega) (by omega)
                  · skip
                    replace h76 := zb_fd h76
                    refine M.run 1 (pc' := 81) (lv' := [some (vr pb), some (vi ((p : Nat) : Int)), some (vi ((e : Nat) : Int)), some (vi v3), some (vi ((p2 : Nat) : Int)), some (vi (zb (decide (isLt (b p2)))))]) (st' := [vi ((p2 : Nat) : Int)]) rfl ?_
                    exact M.iret rfl (Nat.zero_le _) (Nat.zero_le _) ⟨reI (by rw [hR, tkR_n (by unfold tkF; exact decide_eq_false (by omega))]), rfl⟩
          exact Lp45 _ 1 (p + 1) (by decide) (by unfold tkE; exact if_pos h28) (by omega) (Nat.lt_succ_self _)
        · skip
          replace h28 := zb_fd h28
          refine M.run 2 (pc' := 33) (lv' := [some (vr pb), some (vi ((p : Nat) : Int)), some (vi ((e : Nat) : Int)), some (vi (zb (decide (isLt (b p))))), none, none]) (st' := [vi ((p : Nat) : Int), vr pb]) rfl ?_
          refine M.ialdN (p) rfl hP (by omega) (by decide) ?_
          refine M.callS (kX8_isDigit l G (b p) (by omega)) cs_X8_49 cd_X8_isDigit rfl (st := []) rfl (by decide) (by decide) rfl (Nat.zero_le _) (Nat.zero_le _) trivial (fun r13 w14 q15 => ?_)
          rw [q15.1, q15.2]
          refine M.if_eq (tgt := 90) rfl (inI_zb _) (by decide) (fun h37 => ?_) (fun h37 => ?_)
          · skip
            replace h37 := zb_fd h37
            refine M.run 2 (pc' := 92) (lv' := [some (vr pb), some (vi ((p : Nat) : Int)), some (vi ((e : Nat) : Int)), some (vi (zb (decide (isLt (b p))))), none, none]) (st' := [vi ((p : Nat) : Int), vr pb]) rfl ?_
            refine M.ialdN (p) rfl hP (by omega) (by decide) ?_
            refine M.run 1 (pc' := 95) (lv' := [some (vr pb), some (vi ((p : Nat) : Int)), some (vi ((e : Nat) : Int)), some (vi (zb (decide (isLt (b p))))), none, none]) (st' := [vi 60, vi (b p)]) rfl ?_
            refine M.icmp_eq (tgt := 106) rfl (qI (by omega)) (qI (by decide)) (by decide) (fun h95 => ?_) (fun h95 => ?_)
            · skip
              refine M.run 4 (pc' := 115) (lv' := [some (vr pb), some (vi ((p : Nat) : Int)), some (vi ((e : Nat) : Int)), some (vi (zb (decide (isLt (b p))))), some (vi 1), none]) (st' := [vi 1]) rfl ?_
              refine M.if_eq (tgt := 141) rfl (qI (by decide)) (by decide) (fun q => absurd q (by decide)) (fun _ => ?_)
              refine M.run 4 (pc' := 122) (lv' := [some (vr pb), some (vi ((p : Nat) : Int)), some (vi ((e : Nat) : Int)), some (vi (zb (decide (isLt (b p))))), some (vi 1), none]) (st' := [vi ((e : Nat) : Int), vi (((p : Nat) : Int) + 1)]) rfl ?_
              refine M.icmp_ge (tgt := 141) rfl (qI (by omega)) (qI (by omega)) (by decide) (fun h122 => ?_) (fun h122 => ?_)
              · skip
                refine M.run 3 (pc' := 144) (lv' := [some (vr pb), some (vi ((p : Nat) : Int)), some (vi ((e : Nat) : Int)), some (vi (zb (decide (isLt (b p))))), some (vi 1), none]) (st' := [vi (((p : Nat) : Int) + 1)]) rfl ?_
                exact M.iret rfl (Nat.zero_le _) (Nat.zero_le _) ⟨reI (by unfold tkE; rw [if_neg h28, if_neg h37, if_neg (by omega)]; omega), rfl⟩
              · skip
                have hbq := hb (p + 1) (by omega)
                refine M.run 4 (pc' := 129) (lv' := [some (vr pb), some (vi ((p : Nat) : Int)), some (vi ((e : Nat) : Int)), some (vi (zb (decide (isLt (b p))))), some (vi 1), none]) (st' := [vi (((p : Nat) : Int) + 1), vr pb]) rfl ?_
                refine M.ialdN (p + 1) rfl hP (by omega) (by decide) ?_
                refine M.run 1 (pc' := 132) (lv' := [some (vr pb), some (vi ((p : Nat) : Int)), some (vi ((e : Nat) : Int)), some (vi (zb (decide (isLt (b p))))), some (vi 1), none]) (st' := [vi 61, vi (b (p + 1))]) rfl ?_
                refine M.icmp_ne (tgt := 141) rfl (qI (by omega)) (qI (by decide)) (by decide) (fun h132 => ?_) (fun h132 => ?_)
                · skip
                  refine M.run 3 (pc' := 144) (lv' := [some (vr pb), some (vi ((p : Nat) : Int)), some (vi ((e : Nat) : Int)), some (vi (zb (decide (isLt (b p))))), some (vi 1), none]) (st' := [vi (((p : Nat) : Int) + 1)]) rfl ?_
                  exact M.iret rfl (Nat.zero_le _) (Nat.zero_le _) ⟨reI (by unfold tkE; rw [if_neg h28, if_neg h37, if_neg (by omega)]; omega), rfl⟩
                · skip
                  refine M.run 4 (pc' := 144) (lv' := [some (vr pb), some (vi ((p : Nat) : Int)), some (vi ((e : Nat) : Int)), some (vi (zb (decide (isLt (b p))))), some (vi 1), none]) (st' := [vi (((p : Nat) : Int) + 2)]) rfl ?_
                  exact M.iret rfl (Nat.zero_le _) (Nat.zero_le _) ⟨reI (by unfold tkE; rw [if_neg h28, if_neg h37, if_pos (by omega)]; omega), rfl⟩
            · skip
              refine M.run 2 (pc' := 100) (lv' := [some (vr pb), some (vi ((p : Nat) : Int)), some (vi ((e : Nat) : Int)), some (vi (zb (decide (isLt (b p))))), none, none]) (st' := [vi ((p : Nat) : Int), vr pb]) rfl ?_
              refine M.ialdN (p) rfl hP (by omega) (by decide) ?_
              refine M.run 1 (pc' := 103) (lv' := [some (vr pb), some (vi ((p : Nat) : Int)), some (vi ((e : Nat) : Int)), some (vi (zb (decide (isLt (b p))))), none, none]) (st' := [vi 62, vi (b p)]) rfl ?_
              refine M.icmp_ne (tgt := 110) rfl (qI (by omega)) (qI (by decide)) (by decide) (fun h103 => ?_) (fun h103 => ?_)
              · skip
                refine M.run 3 (pc' := 115) (lv' := [some (vr pb), some (vi ((p : Nat) : Int)), some (vi ((e : Nat) : Int)), some (vi (zb (decide (isLt (b p))))), some (vi 0), none]) (st' := [vi 0]) rfl ?_
                refine M.if_eq (tgt := 141) rfl (qI (by decide)) (by decide) (fun _ => ?_) (fun q => absurd q (by decide))
                refine M.run 3 (pc' := 144) (lv' := [some (vr pb), some (vi ((p : Nat) : Int)), some (vi ((e : Nat) : Int)), some (vi (zb (decide (isLt (b p))))), some (vi 0), none]) (st' := [vi (((p : Nat) : Int) + 1)]) rfl ?_
                exact M.iret rfl (Nat.zero_le _) (Nat.zero_le _) ⟨reI (by unfold tkE; rw [if_neg h28, if_neg h37, if_neg (by omega)]; omega), rfl⟩
              · skip
                refine M.run 4 (pc' := 115) (lv' := [some (vr pb), some (vi ((p : Nat) : Int)), some (vi ((e : Nat) : Int)), some (vi (zb (decide (isLt (b p))))), some (vi 1), none]) (st' := [vi 1]) rfl ?_
                refine M.if_eq (tgt := 141) rfl (qI (by decide)) (by decide) (fun q => absurd q (by decide)) (fun _ => ?_)
                refine M.run 4 (pc' := 122) (lv' := [some (vr pb), some (vi ((p : Nat) : Int)), some (vi ((e : Nat) : Int)), some (vi (zb (decide (isLt (b p))))), some (vi 1), none]) (st' := [vi ((e : Nat) : Int), vi (((p : Nat) : Int) + 1)]) rfl ?_
                refine M.icmp_ge (tgt := 141) rfl (qI (by omega)) (qI (by omega)) (by decide) (fun h122 => ?_) (fun h122 => ?_)
                · skip
                  refine M.run 3 (pc' := 144) (lv' := [some (vr pb), some (vi ((p : Nat) : Int)), some (vi ((e : Nat) : Int)), some (vi (zb (decide (isLt (b p))))), some (vi 1), none]) (st' := [vi (((p : Nat) : Int) + 1)]) rfl ?_
                  exact M.iret rfl (Nat.zero_le _) (Nat.zero_le _) ⟨reI (by unfold tkE; rw [if_neg h28, if_neg h37, if_neg (by omega)]; omega), rfl⟩
                · skip
                  have hbq := hb (p + 1) (by omega)
                  refine M.run 4 (pc' := 129) (lv' := [some (vr pb), some (vi ((p : Nat) : Int)), some (vi ((e : Nat) : Int)), some (vi (zb (decide (isLt (b p))))), some (vi 1), none]) (st' := [vi (((p : Nat) : Int) + 1), vr pb]) rfl ?_
                  refine M.ialdN (p + 1) rfl hP (by omega) (by decide) ?_
                  refine M.run 1 (pc' := 132) (lv' := [some (vr pb), some (vi ((p : Nat) : Int)), some (vi ((e : Nat) : Int)), some (vi (zb (decide (isLt (b p))))), some (vi 1), none]) (st' := [vi 61, vi (b (p + 1))]) rfl ?_
                  refine M.icmp_ne (tgt := 141) rfl (qI (by omega)) (qI (by decide)) (by decide) (fun h132 => ?_) (fun h132 => ?_)
                  · skip
                    refine M.run 3 (pc' := 144) (lv' := [some (vr pb), some (vi ((p : Nat) : Int)), some (vi ((e : Nat) : Int)), some (vi (zb (decide (isLt (b p))))), some (vi 1), none]) (st' := [vi (((p : Nat) : Int) + 1)]) rfl ?_
                    exact M.iret rfl (Nat.zero_le _) (Nat.zero_le _) ⟨reI (by unfold tkE; rw [if_neg h28, if_neg h37, if_neg (by omega)]; omega), rfl⟩
                  · skip
                    refine M.run 4 (pc' := 144) (lv' := [some (vr pb), some (vi ((p : Nat) : Int)), some (vi ((e : Nat) : Int)), some (vi (zb (decide (isLt (b p))))), some (vi 1), none]) (st' := [vi (((p : Nat) : Int) + 2)]) rfl ?_
                    exact M.iret rfl (Nat.zero_le _) (Nat.zero_le _) ⟨reI (by unfold tkE; rw [if_neg h28, if_neg h37, if_pos (by omega)]; omega), rfl⟩
          · skip
            replace h37 := zb_td h37
            rw [show zb (decide (isLt (b p))) = 0 from (by rw [decide_eq_false h28]; rfl)]
            refine M.run 4 (pc' := 45) (lv' := [some (vr pb), some (vi ((p : Nat) : Int)), some (vi ((e : Nat) : Int)), some (vi 0), some (vi (((p : Nat) : Int) + 1)), none]) (st' := []) rfl ?_
            have Lp45 : ∀ (N : Nat) (v3 : Int) (p2 : Nat), (v3 = 0 ∨ v3 = 1) → (tkE b e p = tkR (tkF b v3) (e - p2) p2) → (p2 ≤ e) → e - p2 < N → g 0 0 w 45 [some (vr pb), some (vi ((p : Nat) : Int)), some (vi ((e : Nat) : Int)), some (vi v3), some (vi ((p2 : Nat) : Int)), none] [] := by
              intro N
              induction N with
              | zero => intro v3 p2 _ _ _ hN; exact absurd hN (Nat.not_lt_zero _)
              | succ N ih45 =>
                intro v3 p2 h3 hR hp2 hN
                refine M.run 2 (pc' := 48) (lv' := [some (vr pb), some (vi ((p : Nat) : Int)), some (vi ((e : Nat) : Int)), some (vi v3), some (vi ((p2 : Nat) : Int)), none]) (st' := [vi ((e : Nat) : Int), vi ((p2 : Nat) : Int)]) rfl ?_
                refine M.icmp_ge (tgt := 88) rfl (qI (by omega)) (qI (by omega)) (by decide) (fun h48 => ?_) (fun h48 => ?_)
                · skip
                  refine M.run 1 (pc' := 89) (lv' := [some (vr pb), some (vi ((p : Nat) : Int)), some (vi ((e : Nat) : Int)), some (vi v3), some (vi ((p2 : Nat) : Int)), none]) (st' := [vi ((e : Nat) : Int)]) rfl ?_
                  exact M.iret rfl (Nat.zero_le _) (Nat.zero_le _) ⟨reI (by rw [hR, show e - p2 = 0 by omega]; show ((e : Nat) : Int) = ((p2 : Nat) : Int); omega), rfl⟩
                · skip
                  refine M.run 1 (pc' := 52) (lv' := [some (vr pb), some (vi ((p : Nat) : Int)), some (vi ((e : Nat) : Int)), some (vi v3), some (vi ((p2 : Nat) : Int)), none]) (st' := [vi v3]) rfl ?_
                  refine M.if_eq (tgt := 65) rfl (qI (by omega)) (by decide) (fun h52 => ?_) (fun h52 => ?_)
                  · skip
                    have hbq := hb p2 (by omega)
                    refine M.run 2 (pc' := 68) (lv' := [some (vr pb), some (vi ((p : Nat) : Int)), some (vi ((e : Nat) : Int)), some (vi v3), some (vi ((p2 : Nat) : Int)), none]) (st' := [vi ((p2 : Nat) : Int), vr pb]) rfl ?_
                    refine M.ialdN (p2) rfl hP (by omega) (by decide) ?_
                    refine M.callS (kX8_isDigit l G (b p2) (by omega)) cs_X8_49 cd_X8_isDigit rfl (st := []) rfl (by decide) (by decide) rfl (Nat.zero_le _) (Nat.zero_le _) trivial (fun r17 w18 q19 => ?_)
                    rw [q19.1, q19.2]
                    refine M.run 2 (pc' := 76) (lv' := [some (vr pb), some (vi ((p : Nat) : Int)), some (vi ((e : Nat) : Int)), some (vi v3), some (vi ((p2 : Nat) : Int)), some (vi (zb (decide (isDg (b p2)))))]) (st' := [vi (zb (decide (isDg (b p2))))]) rfl ?_
                    refine M.if_ne (tgt := 82) rfl (inI_zb _) (by decide) (fun h76 => ?_) (fun h76 => ?_)
                    · skip
                      replace h76 := zb_td h76
                      refine M.run 2 (pc' := 45) (lv' := [some (vr pb), some (vi ((p : Nat) : Int)), some (vi ((e : Nat) : Int)), some (vi v3), some (vi (((p2 : Nat) : Int) + 1)), some (vi (zb (decide (isDg (b p2)))))]) (st' := []) rfl ?_
                      refine M.fgt [false, false, false, false, false, true] ?_
                      exact ih45 v3 (p2 + 1) h3 (by rw [hR, tkR_y (by omega) (by unfold tkF; exact decide_eq_true (by omega)), show e - p2 - 1 = e - (p2 + 1) by omega]) (by omega) (by omega)
                    · skip
                      replace h76 := zb_fd h76
                      refine M.run 1 (pc' := 81) (lv' := [some (vr pb), some (vi ((p : Nat) : Int)), some (vi ((e : Nat) : Int)), some (vi v3), some (vi ((p2 : Nat) : Int)), some (vi (zb (decide (isDg (b p2)))))]) (st' := [vi ((p2 : Nat) : Int)]) rfl ?_
                      exact M.iret rfl (Nat.zero_le _) (Nat.zero_le _) ⟨reI (by rw [hR, tkR_n (by unfold tkF; exact decide_eq_false (by omega))]), rfl⟩
                  · skip
                    have hbq := hb p2 (by omega)
                    refine M.run 2 (pc' := 58) (lv' := [some (vr pb), some (vi ((p : Nat) : Int)), some (vi ((e : Nat) : Int)), some (vi v3), some (vi ((p2 : Nat) : Int)), none]) (st' := [vi ((p2 : Nat) : Int), vr pb]) rfl ?_
                    refine M.ialdN (p2) rfl hP (by omega) (by decide) ?_
                    refine M.callS (kX8_isLetter l G (b p2) (by omega)) cs_X8_38 cd_X8_isLetter rfl (st := []) rfl (by decide) (by decide) rfl (Nat.zero_le _) (Nat.zero_le _) trivial (fun r21 w22 q23 => ?_)
                    rw [q23.1, q23.2]
                    refine M.run 3 (pc' := 76) (lv' := [some (vr pb), some (vi ((p : Nat) : Int)), some (vi ((e : Nat) : Int)), some (vi v3), some (vi ((p2 : Nat) : Int)), some (vi (zb (decide (isLt (b p2)))))]) (st' := [vi (zb (decide (isLt (b p2))))]) rfl ?_
                    refine M.if_ne (tgt := 82) rfl (inI_zb _) (by decide) (fun h76 => ?_) (fun h76 => ?_)
                    · skip
                      replace h76 := zb_td h76
                      refine M.run 2 (pc' := 45) (lv' := [some (vr pb), some (vi ((p : Nat) : Int)), some (vi ((e : Nat) : Int)), some (vi v3), some (vi (((p2 : Nat) : Int) + 1)), some (vi (zb (decide (isLt (b p2)))))]) (st' := []) rfl ?_
                      refine M.fgt [false, false, false, false, false, true] ?_
                      exact ih45 v3 (p2 + 1) h3 (by rw [hR, tkR_y (by omega) (by unfold tkF; exact decide_eq_true (by omega)), show e - p2 - 1 = e - (p2 + 1) by omega]) (by omega) (by omega)
                    · skip
                      replace h76 := zb_fd h76
                      refine M.run 1 (pc' := 81) (lv' := [some (vr pb), some (vi ((p : Nat) : Int)), some (vi ((e : Nat) : Int)), some (vi v3), some (vi ((p2 : Nat) : Int)), some (vi (zb (decide (isLt (b p2)))))]) (st' := [vi ((p2 : Nat) : Int)]) rfl ?_
                      exact M.iret rfl (Nat.zero_le _) (Nat.zero_le _) ⟨reI (by rw [hR, tkR_n (by unfold tkF; exact decide_eq_false (by omega))]), rfl⟩
            exact Lp45 _ 0 (p + 1) (by decide) (by unfold tkE; rw [if_neg h28]; exact if_pos h37) (by omega) (Nat.lt_succ_self _)
      · skip
        omega
set_option maxHeartbeats 4000000 in
set_option maxRecDepth 100000 in
theorem kX8_figure (l : Launch) (G : GT) (pb : Nat) (b : Nat → Int) (hb : ∀ k : Nat, k < 300 → 0 ≤ b k ∧ b k < 256) (p q : Nat) (hpq : p ≤ q) (hq : q ≤ 300) (hdig : ∀ i : Nat, p ≤ i → i < q → isDg (b i)) : Ctr l G yX8_figure cX8_figure 5 ((Option.some Jvm.ClassFile.FieldType.int)) 1 0 0 [vr pb, vi ((p : Nat) : Int), vi ((q : Nat) : Int)] (fun w => lk w pb = some (Ar 0 300 b)) (fun w r w' => r = some (vi (fgM b p (q - p))) ∧ w' = w) := by
  refine Ctr.of (t := tX8_figure) (lv0 := [some (vr pb), some (vi ((p : Nat) : Int)), some (vi ((q : Nat) : Int)), none, none]) (by decide +kernel) tX8_figure_ok rfl rfl (fun w g hP M => ?_)
  refine M.run 4 (pc' := 5) (lv' := [some (vr pb), some (vi ((p : Nat) : Int)), some (vi ((q : Nat) : Int)), some (vi 0), some (vi ((p : Nat) : Int))]) (st' := []) rfl ?_
  have Lp5 : ∀ (N : Nat) (v : Int) (j : Nat), (v = fgM b p (j - p)) → (p ≤ j) → (j ≤ q) → q - j < N → g 0 0 w 5 [some (vr pb), some (vi ((p : Nat) : Int)), some (vi ((q : Nat) : Int)), some (vi v), some (vi ((j : Nat) : Int))] [] := by
    intro N
    induction N with
    | zero => intro v j _ _ _ hN; exact absurd hN (Nat.not_lt_zero _)
    | succ N ih5 =>
      intro v j hv hpj hjq hN
      refine M.run 2 (pc' := 8) (lv' := [some (vr pb), some (vi ((p : Nat) : Int)), some (vi ((q : Nat) : Int)), some (vi v), some (vi ((j : Nat) : Int))]) (st' := [vi ((q : Nat) : Int), vi ((j : Nat) : Int)]) rfl ?_
      refine M.icmp_ge (tgt := 48) rfl (qI (by omega)) (qI (by omega)) (by decide) (fun h8 => ?_) (fun h8 => ?_)
      · skip
        refine M.run 1 (pc' := 49) (lv' := [some (vr pb), some (vi ((p : Nat) : Int)), some (vi ((q : Nat) : Int)), some (vi v), some (vi ((j : Nat) : Int))]) (st' := [vi v]) rfl ?_
        exact M.iret rfl (Nat.zero_le _) (Nat.zero_le _) ⟨reI (by rw [hv, show j = q by omega]), rfl⟩
      · skip
        have hvb := fgM_b (b := b) (p := p) (j - p) (fun i hi => (hdig (p + i) (by omega) (by omega)).1)
        have hdj := hdig j (by omega) (by omega)
        rw [← hv] at hvb
        refine M.run 1 (pc' := 13) (lv' := [some (vr pb), some (vi ((p : Nat) : Int)), some (vi ((q : Nat) : Int)), some (vi v), some (vi ((j : Nat) : Int))]) (st' := [vi ((j : Nat) : Int)]) rfl ?_
        refine M.if_lt (tgt := 48) rfl (qI (by omega)) (by decide) (fun h13 => ?_) (fun h13 => ?_)
        · skip
          omega
        · skip
          refine M.run 2 (pc' := 19) (lv' := [some (vr pb), some (vi ((p : Nat) : Int)), some (vi ((q : Nat) : Int)), some (vi v), some (vi ((j : Nat) : Int))]) (st' := [vr pb, vi ((j : Nat) : Int)]) rfl ?_
          refine M.alen rfl hP (by decide) ?_
          refine M.icmp_ge (tgt := 48) rfl (qI (by omega)) (qI (by omega)) (by decide) (fun h20 => ?_) (fun h20 => ?_)
          · skip
            omega
          · skip
            refine M.run 6 (pc' := 33) (lv' := [some (vr pb), some (vi ((p : Nat) : Int)), some (vi ((q : Nat) : Int)), some (vi v), some (vi ((j : Nat) : Int))]) (st' := [vi ((j : Nat) : Int), vr pb, vi (v * 10), vi 10000]) rfl ?_
            refine M.ialdN (j) rfl hP (by omega) (by decide) ?_
            refine M.run 3 (pc' := 38) (lv' := [some (vr pb), some (vi ((p : Nat) : Int)), some (vi ((q : Nat) : Int)), some (vi v), some (vi ((j : Nat) : Int))]) (st' := [vi (((v * 10) + (b j)) - 48), vi 10000]) rfl ?_
            refine M.mmin cs_X8_21 rfl (qI (by decide)) (qI (by omega)) (by decide) (Nat.zero_le _) (Nat.zero_le _) rfl ?_
            refine M.run 3 (pc' := 5) (lv' := [some (vr pb), some (vi ((p : Nat) : Int)), some (vi ((q : Nat) : Int)), some (vi (min 10000 (((v * 10) + (b j)) - 48))), some (vi (((j : Nat) : Int) + 1))]) (st' := []) rfl ?_
            exact ih5 (min 10000 (((v * 10) + (b j)) - 48)) (j + 1) (by rw [show j + 1 - p = (j - p) + 1 by omega]; show _ = min 10000 (fgM b p (j - p) * 10 + b (p + (j - p)) - 48); rw [show p + (j - p) = j by omega, ← hv]) (by omega) (by omega) (by omega)
  exact Lp5 _ 0 p (by rw [Nat.sub_self]; rfl) (by omega) (by omega) (Nat.lt_succ_self _)
set_option maxHeartbeats 4000000 in
set_option maxRecDepth 100000 in
theorem kX8_signSort (l : Launch) (G : GT) (x : Int) (n : Int) (hx : -2147483648 ≤ x ∧ x ≤ 2147483647) (hn : -2147483648 ≤ n ∧ n ≤ 2147483647) : Ctr l G yX8_signSort cX8_signSort 3 ((Option.some Jvm.ClassFile.FieldType.int)) 5 0 0 [vi x, vi n] (fun w => True) (fun w r w' => r = some (vi (sgM x n)) ∧ w' = w) := by
  refine Ctr.of (t := tX8_signSort) (lv0 := [some (vi x), some (vi n), none]) (by decide +kernel) tX8_signSort_ok rfl rfl (fun w g hP M => ?_)
  have hN := stN1
  refine M.run 2 (pc' := 2) (lv' := [some (vi x), some (vi n), none]) (st' := [vi 2, vi n]) rfl ?_
  refine M.icmp_ne (tgt := 19) rfl (qI (by omega)) (qI (by decide)) (by decide) (fun h2 => ?_) (fun h2 => ?_)
  · skip
    refine M.run 2 (pc' := 21) (lv' := [some (vi x), some (vi n), some (vi 0)]) (st' := []) rfl ?_
    have Lp21 : ∀ (N : Nat) (k : Nat), (sgM x n = sgF x (11 - k) k) → (k ≤ 11) → 11 - k < N → g 0 0 w 21 [some (vi x), some (vi n), some (vi ((k : Nat) : Int))] [] := by
      intro N
      induction N with
      | zero => intro k _ _ hN; exact absurd hN (Nat.not_lt_zero _)
      | succ N ih21 =>
        intro k hI hk hN
        refine M.run 1 (pc' := 22) (lv' := [some (vi x), some (vi n), some (vi ((k : Nat) : Int))]) (st' := [vi ((k : Nat) : Int)]) rfl ?_
        refine M.ldcS1 rfl rfl ?_
        refine M.callW (kJ0_length l G 1 (by decide)) (by decide) rfl cw_X8_60 cd_J0_length_8abf5 rfl (st := [vi ((k : Nat) : Int)]) rfl (by decide) (by decide) rfl (Nat.zero_le _) (Nat.zero_le _) trivial (fun r1 w1 q1 => ?_)
        rw [q1.1, q1.2]
        refine M.icmp_ge (tgt := 51) rfl (qI (by omega)) (qI (by omega)) (by decide) (fun h27 => ?_) (fun h27 => ?_)
        · skip
          refine M.run 1 (pc' := 53) (lv' := [some (vi x), some (vi n), some (vi ((k : Nat) : Int))]) (st' := [vi 52]) rfl ?_
          exact M.iret rfl (Nat.zero_le _) (Nat.zero_le _) ⟨reI (by rw [hI, show 11 - k = 0 by omega]; rfl), rfl⟩
        · skip
          refine M.ldcS1 rfl rfl ?_
          refine M.run 1 (pc' := 33) (lv' := [some (vi x), some (vi n), some (vi ((k : Nat) : Int))]) (st' := [vi ((k : Nat) : Int), vr (gS G 1)]) rfl ?_
          have hcc := st_c 1 (by decide) k (by omega)
          refine M.callW (kJ0_charAt l G 1 (by decide) k (by omega)) (by decide) rfl cw_X8_66 cd_J0_charAt_5068e rfl (st := []) rfl (by decide) (by decide) rfl (Nat.zero_le _) (Nat.zero_le _) trivial (fun r2 w2 q2 => ?_)
          rw [q2.1, q2.2]
          refine M.run 1 (pc' := 37) (lv' := [some (vi x), some (vi n), some (vi ((k : Nat) : Int))]) (st' := [vi x, vi (stC 1 k)]) rfl ?_
          refine M.icmp_ne (tgt := 45) rfl (qI (by omega)) (qI (by omega)) (by decide) (fun h37 => ?_) (fun h37 => ?_)
          · skip
            refine M.run 2 (pc' := 21) (lv' := [some (vi x), some (vi n), some (vi (((k : Nat) : Int) + 1))]) (st' := []) rfl ?_
            exact ih21 (k + 1) (by rw [hI, sgF_n (by omega) h37, show 11 - k - 1 = 11 - (k + 1) by omega]) (by omega) (by omega)
          · skip
            refine M.run 3 (pc' := 44) (lv' := [some (vi x), some (vi n), some (vi ((k : Nat) : Int))]) (st' := [vi (30 + ((k : Nat) : Int))]) rfl ?_
            exact M.iret rfl (Nat.zero_le _) (Nat.zero_le _) ⟨reI (by rw [hI, sgF_y (by omega) (by omega)]), rfl⟩
    exact Lp21 _ 0 (by unfold sgM; exact if_neg h2) (by omega) (Nat.lt_succ_self _)
  · skip
    refine M.run 2 (pc' := 8) (lv' := [some (vi x), some (vi n), none]) (st' := [vi 60, vi x]) rfl ?_
    refine M.icmp_ne (tgt := 16) rfl (qI (by omega)) (qI (by decide)) (by decide) (fun h8 => ?_) (fun h8 => ?_)
    · skip
      refine M.run 1 (pc' := 18) (lv' := [some (vi x), some (vi n), none]) (st' := [vi 42]) rfl ?_
      exact M.iret rfl (Nat.zero_le _) (Nat.zero_le _) ⟨reI (by unfold sgM; rw [if_pos (by omega), if_neg (by omega)]), rfl⟩
    · skip
      refine M.run 2 (pc' := 18) (lv' := [some (vi x), some (vi n), none]) (st' := [vi 41]) rfl ?_
      exact M.iret rfl (Nat.zero_le _) (Nat.zero_le _) ⟨reI (by unfold sgM; rw [if_pos (by omega), if_pos (by omega)]), rfl⟩
set_option maxHeartbeats 4000000 in
set_option maxRecDepth 100000 in
theorem kX8_isWord (l : Launch) (G : GT) (pb : Nat) (b : Nat → Int) (hb : ∀ k : Nat, k < 300 → 0 ≤ b k ∧ b k < 256) (p s i2 : Nat) (hs : s ≤ i2) (hi2 : i2 ≤ 121) (hp : p + (i2 - s) ≤ 300) : Ctr l G yX8_isWord cX8_isWord 6 ((Option.some Jvm.ClassFile.FieldType.boolean)) 5 0 0 [vr pb, vi ((p : Nat) : Int), vi ((s : Nat) : Int), vi ((i2 : Nat) : Int)] (fun w => lk w pb = some (Ar 0 300 b)) (fun w r w' => r = some (vi (zb (wdI b p s (i2 - s)))) ∧ w' = w) := by
  refine Ctr.of (t := tX8_isWord) (lv0 := [some (vr pb), some (vi ((p : Nat) : Int)), some (vi ((s : Nat) : Int)), some (vi ((i2 : Nat) : Int)), none, none]) (by decide +kernel) tX8_isWord_ok rfl rfl (fun w g hP M => ?_)
  have hN := stN0
  refine M.run 2 (pc' := 3) (lv' := [some (vr pb), some (vi ((p : Nat) : Int)), some (vi ((s : Nat) : Int)), some (vi ((i2 : Nat) : Int)), some (vi ((s : Nat) : Int)), none]) (st' := []) rfl ?_
  have Lp3 : ∀ (N : Nat) (i : Nat), (mAll (fun k => decide (stC 0 (s + k) = b (p + k))) (i - s) = true) → (s ≤ i) → (i ≤ i2) → i2 - i < N → g 0 0 w 3 [some (vr pb), some (vi ((p : Nat) : Int)), some (vi ((s : Nat) : Int)), some (vi ((i2 : Nat) : Int)), some (vi ((i : Nat) : Int)), none] [] := by
    intro N
    induction N with
    | zero => intro i _ _ _ hN; exact absurd hN (Nat.not_lt_zero _)
    | succ N ih3 =>
      intro i hA hsi hie hN
      refine M.run 2 (pc' := 6) (lv' := [some (vr pb), some (vi ((p : Nat) : Int)), some (vi ((s : Nat) : Int)), some (vi ((i2 : Nat) : Int)), some (vi ((i : Nat) : Int)), none]) (st' := [vi ((i2 : Nat) : Int), vi ((i : Nat) : Int)]) rfl ?_
      refine M.icmp_ge (tgt := 68) rfl (qI (by omega)) (qI (by omega)) (by decide) (fun h6 => ?_) (fun h6 => ?_)
      · skip
        refine M.run 1 (pc' := 69) (lv' := [some (vr pb), some (vi ((p : Nat) : Int)), some (vi ((s : Nat) : Int)), some (vi ((i2 : Nat) : Int)), some (vi ((i : Nat) : Int)), none]) (st' := [vi 1]) rfl ?_
        exact M.zret rfl (Or.inr rfl) (Nat.zero_le _) (Nat.zero_le _) ⟨reI (by unfold wdI; rw [show i2 - s = i - s by omega, hA]; rfl), rfl⟩
      · skip
        refine M.run 5 (pc' := 15) (lv' := [some (vr pb), some (vi ((p : Nat) : Int)), some (vi ((s : Nat) : Int)), some (vi ((i2 : Nat) : Int)), some (vi ((i : Nat) : Int)), none]) (st' := [vi ((((p : Nat) : Int) + ((i : Nat) : Int)) - ((s : Nat) : Int))]) rfl ?_
        rw [show (((p : Nat) : Int) + ((i : Nat) : Int)) - ((s : Nat) : Int) = ((p + (i - s) : Nat) : Int) from (by omega)]
        refine M.run 2 (pc' := 19) (lv' := [some (vr pb), some (vi ((p : Nat) : Int)), some (vi ((s : Nat) : Int)), some (vi ((i2 : Nat) : Int)), some (vi ((i : Nat) : Int)), some (vi ((p + (i - s) : Nat) : Int))]) (st' := [vi ((i : Nat) : Int)]) rfl ?_
        refine M.if_lt (tgt := 44) rfl (qI (by omega)) (by decide) (fun h19 => ?_) (fun h19 => ?_)
        · skip
          omega
        · skip
          refine M.run 1 (pc' := 24) (lv' := [some (vr pb), some (vi ((p : Nat) : Int)), some (vi ((s : Nat) : Int)), some (vi ((i2 : Nat) : Int)), some (vi ((i : Nat) : Int)), some (vi ((p + (i - s) : Nat) : Int))]) (st' := [vi ((i : Nat) : Int)]) rfl ?_
          refine M.ldcS0 rfl rfl ?_
          refine M.callW (kJ0_length l G 0 (by decide)) (by decide) rfl cw_X8_60 cd_J0_length_8abf5 rfl (st := [vi ((i : Nat) : Int)]) rfl (by decide) (by decide) rfl (Nat.zero_le _) (Nat.zero_le _) trivial (fun r1 w1 q1 => ?_)
          rw [q1.1, q1.2]
          refine M.icmp_ge (tgt := 44) rfl (qI (by omega)) (qI (by omega)) (by decide) (fun h29 => ?_) (fun h29 => ?_)
          · skip
            omega
          · skip
            refine M.run 1 (pc' := 34) (lv' := [some (vr pb), some (vi ((p : Nat) : Int)), some (vi ((s : Nat) : Int)), some (vi ((i2 : Nat) : Int)), some (vi ((i : Nat) : Int)), some (vi ((p + (i - s) : Nat) : Int))]) (st' := [vi ((p + (i - s) : Nat) : Int)]) rfl ?_
            refine M.if_lt (tgt := 44) rfl (qI (by omega)) (by decide) (fun h34 => ?_) (fun h34 => ?_)
            · skip
              omega
            · skip
              refine M.run 2 (pc' := 40) (lv' := [some (vr pb), some (vi ((p : Nat) : Int)), some (vi ((s : Nat) : Int)), some (vi ((i2 : Nat) : Int)), some (vi ((i : Nat) : Int)), some (vi ((p + (i - s) : Nat) : Int))]) (st' := [vr pb, vi ((p + (i - s) : Nat) : Int)]) rfl ?_
              refine M.alen rfl hP (by decide) ?_
              refine M.icmp_lt (tgt := 46) rfl (qI (by omega)) (qI (by omega)) (by decide) (fun h41 => ?_) (fun h41 => ?_)
              · skip
                refine M.ldcS0 rfl rfl ?_
                refine M.run 1 (pc' := 50) (lv' := [some (vr pb), some (vi ((p : Nat) : Int)), some (vi ((s : Nat) : Int)), some (vi ((i2 : Nat) : Int)), some (vi ((i : Nat) : Int)), some (vi ((p + (i - s) : Nat) : Int))]) (st' := [vi ((i : Nat) : Int), vr (gS G 0)]) rfl ?_
                have hcc := st_c 0 (by decide) i (by omega)
                have hbq := hb (p + (i - s)) (by omega)
                refine M.callW (kJ0_charAt l G 0 (by decide) i (by omega)) (by decide) rfl cw_X8_66 cd_J0_charAt_5068e rfl (st := []) rfl (by decide) (by decide) rfl (Nat.zero_le _) (Nat.zero_le _) trivial (fun r2 w2 q2 => ?_)
                rw [q2.1, q2.2]
                refine M.run 2 (pc' := 56) (lv' := [some (vr pb), some (vi ((p : Nat) : Int)), some (vi ((s : Nat) : Int)), some (vi ((i2 : Nat) : Int)), some (vi ((i : Nat) : Int)), some (vi ((p + (i - s) : Nat) : Int))]) (st' := [vi ((p + (i - s) : Nat) : Int), vr pb, vi (stC 0 i)]) rfl ?_
                refine M.ialdN (p + (i - s)) rfl hP (by omega) (by decide) ?_
                refine M.icmp_eq (tgt := 62) rfl (qI (by omega)) (qI (by omega)) (by decide) (fun h57 => ?_) (fun h57 => ?_)
                · skip
                  refine M.run 2 (pc' := 3) (lv' := [some (vr pb), some (vi ((p : Nat) : Int)), some (vi ((s : Nat) : Int)), some (vi ((i2 : Nat) : Int)), some (vi (((i : Nat) : Int) + 1)), some (vi ((p + (i - s) : Nat) : Int))]) (st' := []) rfl ?_
                  refine M.fgt [false, false, false, false, false, true] ?_
                  exact ih3 (i + 1) (by rw [show i + 1 - s = (i - s) + 1 by omega]; show (mAll _ (i - s) && decide (stC 0 (s + (i - s)) = b (p + (i - s)))) = true; rw [hA, show s + (i - s) = i by omega]; exact decide_eq_true h57) (by omega) (by omega) (by omega)
                · skip
                  refine M.run 1 (pc' := 61) (lv' := [some (vr pb), some (vi ((p : Nat) : Int)), some (vi ((s : Nat) : Int)), some (vi ((i2 : Nat) : Int)), some (vi ((i : Nat) : Int)), some (vi ((p + (i - s) : Nat) : Int))]) (st' := [vi 0]) rfl ?_
                  exact M.zret rfl (Or.inl rfl) (Nat.zero_le _) (Nat.zero_le _) ⟨reI (by unfold wdI; rw [mAll_f (k := i - s) (decide_eq_false (by rw [show s + (i - s) = i by omega]; exact h57)) _ (by omega)]; rfl), rfl⟩
              · skip
                omega
  exact Lp3 _ s (by rw [Nat.sub_self]; rfl) (by omega) (by omega) (Nat.lt_succ_self _)
set_option maxHeartbeats 4000000 in
set_option maxRecDepth 100000 in
theorem kX8_wordSort (l : Launch) (G : GT) (pb : Nat) (b : Nat → Int) (hb : ∀ k : Nat, k < 300 → 0 ≤ b k ∧ b k < 256) (p q : Nat) (hpq : p ≤ q) (hq : q ≤ 300) : Ctr l G yX8_wordSort cX8_wordSort 6 ((Option.some Jvm.ClassFile.FieldType.int)) 6 0 0 [vr pb, vi ((p : Nat) : Int), vi ((q : Nat) : Int)] (fun w => lk w pb = some (Ar 0 300 b)) (fun w r w' => r = some (vi (wdM b p q)) ∧ w' = w) := by
  refine Ctr.of (t := tX8_wordSort) (lv0 := [some (vr pb), some (vi ((p : Nat) : Int)), some (vi ((q : Nat) : Int)), none, none, none]) (by decide +kernel) tX8_wordSort_ok rfl rfl (fun w g hP M => ?_)
  have hN := stN0
  refine M.run 6 (pc' := 8) (lv' := [some (vr pb), some (vi ((p : Nat) : Int)), some (vi ((q : Nat) : Int)), some (vi 0), some (vi 0), some (vi 0)]) (st' := []) rfl ?_
  have Lp8 : ∀ (N : Nat) (v : Nat) (s : Nat) (i : Nat), (wdM b p q = wdF b p q (121 - i) i v s) → (s ≤ i) → (i ≤ 121) → (v ≤ i) → 121 - i < N → g 0 0 w 8 [some (vr pb), some (vi ((p : Nat) : Int)), some (vi ((q : Nat) : Int)), some (vi ((v : Nat) : Int)), some (vi ((s : Nat) : Int)), some (vi ((i : Nat) : Int))] [] := by
    intro N
    induction N with
    | zero => intro v s i _ _ _ _ hN; exact absurd hN (Nat.not_lt_zero _)
    | succ N ih8 =>
      intro v s i hI hsi hi hvi hN
      refine M.run 1 (pc' := 10) (lv' := [some (vr pb), some (vi ((p : Nat) : Int)), some (vi ((q : Nat) : Int)), some (vi ((v : Nat) : Int)), some (vi ((s : Nat) : Int)), some (vi ((i : Nat) : Int))]) (st' := [vi ((i : Nat) : Int)]) rfl ?_
      refine M.ldcS0 rfl rfl ?_
      refine M.callW (kJ0_length l G 0 (by decide)) (by decide) rfl cw_X8_60 cd_J0_length_8abf5 rfl (st := [vi ((i : Nat) : Int)]) rfl (by decide) (by decide) rfl (Nat.zero_le _) (Nat.zero_le _) trivial (fun r1 w1 q1 => ?_)
      rw [q1.1, q1.2]
      refine M.icmp_ge (tgt := 73) rfl (qI (by omega)) (qI (by omega)) (by decide) (fun h15 => ?_) (fun h15 => ?_)
      · skip
        refine M.run 1 (pc' := 75) (lv' := [some (vr pb), some (vi ((p : Nat) : Int)), some (vi ((q : Nat) : Int)), some (vi ((v : Nat) : Int)), some (vi ((s : Nat) : Int)), some (vi ((i : Nat) : Int))]) (st' := [vi 52]) rfl ?_
        exact M.iret rfl (Nat.zero_le _) (Nat.zero_le _) ⟨reI (by rw [hI, show 121 - i = 0 by omega]; rfl), rfl⟩
      · skip
        refine M.ldcS0 rfl rfl ?_
        refine M.run 1 (pc' := 22) (lv' := [some (vr pb), some (vi ((p : Nat) : Int)), some (vi ((q : Nat) : Int)), some (vi ((v : Nat) : Int)), some (vi ((s : Nat) : Int)), some (vi ((i : Nat) : Int))]) (st' := [vi ((i : Nat) : Int), vr (gS G 0)]) rfl ?_
        refine M.callW (kJ0_charAt l G 0 (by decide) i (by omega)) (by decide) rfl cw_X8_66 cd_J0_charAt_5068e rfl (st := []) rfl (by decide) (by decide) rfl (Nat.zero_le _) (Nat.zero_le _) trivial (fun r2 w2 q2 => ?_)
        rw [q2.1, q2.2]
        have hcc := st_c 0 (by decide) i (by omega)
        refine M.run 1 (pc' := 27) (lv' := [some (vr pb), some (vi ((p : Nat) : Int)), some (vi ((q : Nat) : Int)), some (vi ((v : Nat) : Int)), some (vi ((s : Nat) : Int)), some (vi ((i : Nat) : Int))]) (st' := [vi 32, vi (stC 0 i)]) rfl ?_
        refine M.icmp_eq (tgt := 33) rfl (qI (by omega)) (qI (by decide)) (by decide) (fun h27 => ?_) (fun h27 => ?_)
        · skip
          refine M.run 6 (pc' := 41) (lv' := [some (vr pb), some (vi ((p : Nat) : Int)), some (vi ((q : Nat) : Int)), some (vi ((v : Nat) : Int)), some (vi ((s : Nat) : Int)), some (vi ((i : Nat) : Int))]) (st' := [vi (((q : Nat) : Int) - ((p : Nat) : Int)), vi (((i : Nat) : Int) - ((s : Nat) : Int))]) rfl ?_
          refine M.icmp_ne (tgt := 58) rfl (qI (by omega)) (qI (by omega)) (by decide) (fun h41 => ?_) (fun h41 => ?_)
          · skip
            refine M.run 7 (pc' := 8) (lv' := [some (vr pb), some (vi ((p : Nat) : Int)), some (vi ((q : Nat) : Int)), some (vi (((v : Nat) : Int) + 1)), some (vi (((i : Nat) : Int) + 1)), some (vi (((i : Nat) : Int) + 1))]) (st' := []) rfl ?_
            exact ih8 (v + 1) (i + 1) (i + 1) (by rw [hI, wdF_n (by omega) h27 (fun z => h41 (by omega)), show 121 - i - 1 = 121 - (i + 1) by omega]) (by omega) (by omega) (by omega) (by omega)
          · skip
            refine M.run 4 (pc' := 50) (lv' := [some (vr pb), some (vi ((p : Nat) : Int)), some (vi ((q : Nat) : Int)), some (vi ((v : Nat) : Int)), some (vi ((s : Nat) : Int)), some (vi ((i : Nat) : Int))]) (st' := [vi ((i : Nat) : Int), vi ((s : Nat) : Int), vi ((p : Nat) : Int), vr pb]) rfl ?_
            refine M.callS (kX8_isWord l G pb b hb p s i (by omega) (by omega) (by omega)) cs_X8_72 cd_X8_isWord rfl (st := []) rfl (by decide) (by decide) rfl (Nat.zero_le _) (Nat.zero_le _) hP (fun r3 w4 q5 => ?_)
            rw [q5.1, q5.2]
            refine M.if_eq (tgt := 58) rfl (inI_zb _) (by decide) (fun h53 => ?_) (fun h53 => ?_)
            · skip
              replace h53 := zb_f0 h53
              refine M.run 7 (pc' := 8) (lv' := [some (vr pb), some (vi ((p : Nat) : Int)), some (vi ((q : Nat) : Int)), some (vi (((v : Nat) : Int) + 1)), some (vi (((i : Nat) : Int) + 1)), some (vi (((i : Nat) : Int) + 1))]) (st' := []) rfl ?_
              exact ih8 (v + 1) (i + 1) (i + 1) (by rw [hI, wdF_n (by omega) h27 (fun z => by rw [h53] at z; exact absurd z.2 (by decide)), show 121 - i - 1 = 121 - (i + 1) by omega]) (by omega) (by omega) (by omega) (by omega)
            · skip
              replace h53 := zb_t h53
              refine M.run 1 (pc' := 57) (lv' := [some (vr pb), some (vi ((p : Nat) : Int)), some (vi ((q : Nat) : Int)), some (vi ((v : Nat) : Int)), some (vi ((s : Nat) : Int)), some (vi ((i : Nat) : Int))]) (st' := [vi ((v : Nat) : Int)]) rfl ?_
              exact M.iret rfl (Nat.zero_le _) (Nat.zero_le _) ⟨reI (by rw [hI, wdF_y (by omega) h27 ⟨by omega, h53⟩]), rfl⟩
        · skip
          refine M.run 3 (pc' := 8) (lv' := [some (vr pb), some (vi ((p : Nat) : Int)), some (vi ((q : Nat) : Int)), some (vi ((v : Nat) : Int)), some (vi ((s : Nat) : Int)), some (vi (((i : Nat) : Int) + 1))]) (st' := []) rfl ?_
          exact ih8 v s (i + 1) (by rw [hI, wdF_o (by omega) h27, show 121 - i - 1 = 121 - (i + 1) by omega]) (by omega) (by omega) (by omega) (by omega)
  exact Lp8 _ 0 0 0 rfl (by omega) (by omega) (by omega) (Nat.lt_succ_self _)
