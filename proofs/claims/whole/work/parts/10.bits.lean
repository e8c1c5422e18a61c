/-! bytes as bits: a number below 2^30 -/
abbrev ALLB : Nat := 1073741823
def bFs (n : Nat) : Nat := 2 ^ n - 1
def bNx1 (b : Nat) : Nat → Nat → Nat
  | 0, p => p
  | k + 1, p => if b.testBit p = true then p else bNx1 b k (p + 1)
/-- the first byte from p on; 30: none -/
def bNx (b p : Nat) : Nat := bNx1 b (30 - p) p
theorem bNx_s {b p : Nat} (h : p < 30) : bNx b p = if b.testBit p = true then p else bNx b (p + 1) := by
  unfold bNx
  rw [show 30 - p = (30 - (p + 1)) + 1 by omega]
  rfl
theorem bNx_e {b p : Nat} (h : 30 ≤ p) : bNx b p = p := by
  unfold bNx
  rw [show 30 - p = 0 by omega]
  rfl
def bEd1 (b : Nat) : Nat → Nat → Nat
  | 0, p => p
  | k + 1, p => if b.testBit p = true then bEd1 b k (p + 1) else p
/-- behind the run that begins at p -/
def bEd (b p : Nat) : Nat := bEd1 b (30 - p) p
theorem bEd_s {b p : Nat} (h : p < 30) : bEd b p = if b.testBit p = true then bEd b (p + 1) else p := by
  unfold bEd
  rw [show 30 - p = (30 - (p + 1)) + 1 by omega]
  rfl
theorem bEd_e {b p : Nat} (h : 30 ≤ p) : bEd b p = p := by
  unfold bEd
  rw [show 30 - p = 0 by omega]
  rfl
theorem bNx_ge : ∀ (k b p : Nat), 30 - p ≤ k → p ≤ bNx b p
  | 0, b, p, h => by rw [bNx_e (by omega)]; exact Nat.le_refl _
  | k + 1, b, p, h => by
    by_cases hp : p < 30
    · rw [bNx_s hp]
      split
      · exact Nat.le_refl _
      · exact Nat.le_trans (Nat.le_succ p) (bNx_ge k b (p + 1) (by omega))
    · rw [bNx_e (by omega)]; exact Nat.le_refl _
theorem bNx_le : ∀ (k b p : Nat), 30 - p ≤ k → p ≤ 30 → bNx b p ≤ 30
  | 0, b, p, h, h2 => by rw [bNx_e (by omega)]; exact h2
  | k + 1, b, p, h, h2 => by
    by_cases hp : p < 30
    · rw [bNx_s hp]
      split
      · exact h2
      · exact bNx_le k b (p + 1) (by omega) (by omega)
    · rw [bNx_e (by omega)]; exact h2
theorem bNx_bit : ∀ (k b p : Nat), 30 - p ≤ k → bNx b p < 30 → b.testBit (bNx b p) = true
  | 0, b, p, h, h2 => by rw [bNx_e (by omega)] at h2; omega
  | k + 1, b, p, h, h2 => by
    by_cases hp : p < 30
    · rw [bNx_s hp] at h2 ⊢
      split at h2
      · rename_i hb; rw [if_pos hb]; exact hb
      · rename_i hb; rw [if_neg hb]; exact bNx_bit k b (p + 1) (by omega) h2
    · rw [bNx_e (by omega)] at h2; omega
theorem bEd_ge : ∀ (k b p : Nat), 30 - p ≤ k → p ≤ bEd b p
  | 0, b, p, h => by rw [bEd_e (by omega)]; exact Nat.le_refl _
  | k + 1, b, p, h => by
    by_cases hp : p < 30
    · rw [bEd_s hp]
      split
      · exact Nat.le_trans (Nat.le_succ p) (bEd_ge k b (p + 1) (by omega))
      · exact Nat.le_refl _
    · rw [bEd_e (by omega)]; exact Nat.le_refl _
theorem bEd_le : ∀ (k b p : Nat), 30 - p ≤ k → p ≤ 30 → bEd b p ≤ 30
  | 0, b, p, h, h2 => by rw [bEd_e (by omega)]; exact h2
  | k + 1, b, p, h, h2 => by
    by_cases hp : p < 30
    · rw [bEd_s hp]
      split
      · exact bEd_le k b (p + 1) (by omega) (by omega)
      · exact h2
    · rw [bEd_e (by omega)]; exact h2
/-- where the piece ends that begins at p -/
def bPt (b sz p : Nat) : Nat := min (p + sz) (bEd b p)
def bPs1 (b sz : Nat) : Nat → Nat → List (Nat × Nat)
  | 0, _ => []
  | k + 1, p => if bNx b p < 30 then (bNx b p, bPt b sz (bNx b p)) :: bPs1 b sz k (bPt b sz (bNx b p)) else []
/-- the pieces from p on -/
def bPsF (b sz p : Nat) : List (Nat × Nat) := bPs1 b sz (30 - p) p
abbrev bPs (b sz : Nat) : List (Nat × Nat) := bPsF b sz 0
theorem bPt_gt {b sz p : Nat} (h : p < 30) (hb : b.testBit p = true) (hs : 0 < sz) : p < bPt b sz p := by
  unfold bPt
  rw [bEd_s h, if_pos hb]
  have := bEd_ge 30 b (p + 1) (by omega)
  omega
theorem bPt_le {b sz p : Nat} (h : p ≤ 30) : bPt b sz p ≤ 30 := by
  unfold bPt
  have := bEd_le 30 b p (by omega) h
  omega
theorem bPs1_more (b sz : Nat) (hs : 0 < sz) : ∀ (k p : Nat), 30 - p ≤ k → bPs1 b sz (k + 1) p = bPs1 b sz k p
  | 0, p, h => by
    have : bNx b p = p := bNx_e (by omega)
    unfold bPs1
    rw [if_neg (by omega)]
  | k + 1, p, h => by
    unfold bPs1
    by_cases h1 : bNx b p < 30
    · rw [if_pos h1, if_pos h1]
      have h2 := bPt_gt h1 (bNx_bit 30 b p (by omega) h1) hs
      have h3 := bNx_ge 30 b p (by omega)
      rw [bPs1_more b sz hs k (bPt b sz (bNx b p)) (by omega)]
    · rw [if_neg h1, if_neg h1]
theorem bPs1_at (b sz : Nat) (hs : 0 < sz) (k p : Nat) (h : 30 - p ≤ k) : ∀ j : Nat, bPs1 b sz (k + j) p = bPs1 b sz k p
  | 0 => rfl
  | j + 1 => by rw [show k + (j + 1) = (k + j) + 1 by omega, bPs1_more b sz hs (k + j) p (by omega), bPs1_at b sz hs k p h j]
theorem bPsF_s {b sz p : Nat} (hs : 0 < sz) (h : bNx b p < 30) : bPsF b sz p = (bNx b p, bPt b sz (bNx b p)) :: bPsF b sz (bPt b sz (bNx b p)) := by
  have h2 := bPt_gt h (bNx_bit 30 b p (by omega) h) hs
  have h3 := bNx_ge 30 b p (by omega)
  unfold bPsF
  rw [show 30 - p = (30 - bPt b sz (bNx b p)) + (30 - p - (30 - bPt b sz (bNx b p)) - 1) + 1 by omega]
  show (if bNx b p < 30 then _ else _) = _
  rw [if_pos h, bPs1_at b sz hs _ _ (Nat.le_refl _)]
theorem bPsF_e {b sz p : Nat} (h : ¬ bNx b p < 30) : bPsF b sz p = [] := by
  unfold bPsF
  cases hk : 30 - p with
  | zero => rfl
  | succ k => show (if bNx b p < 30 then _ else _) = _; rw [if_neg h]
theorem bPsF_len (b sz : Nat) (hs : 0 < sz) : ∀ (k p : Nat), 30 - p ≤ k → (bPsF b sz p).length ≤ 30 - p
  | 0, p, h => by
    have : bNx b p = p := bNx_e (by omega)
    rw [bPsF_e (by omega)]
    exact Nat.zero_le _
  | k + 1, p, h => by
    by_cases h1 : bNx b p < 30
    · rw [bPsF_s hs h1]
      have h2 := bPt_gt h1 (bNx_bit 30 b p (by omega) h1) hs
      have h3 := bNx_ge 30 b p (by omega)
      have := bPsF_len b sz hs k (bPt b sz (bNx b p)) (by omega)
      simp only [List.length_cons]
      omega
    · rw [bPsF_e h1]
      exact Nat.zero_le _
theorem bit_and1 (b p : Nat) : (b >>> p &&& 1 = 1) ↔ b.testBit p = true := by
  rw [Nat.testBit_eq_decide_div_mod_eq, Nat.and_one_is_mod, Nat.shiftRight_eq_div_pow]
  simp
theorem bit_and1n (b p : Nat) : ¬ (b >>> p &&& 1 = 1) ↔ b.testBit p = false := by
  rw [bit_and1]
  simp
/-- a boolean as an int -/
def zb (b : Bool) : Int := bif b then 1 else 0
theorem zb_01 (b : Bool) : zb b = 0 ∨ zb b = 1 := by cases b <;> simp [zb]
theorem inI_zb (b : Bool) : inI (zb b) := by cases b <;> exact ⟨by decide, by decide⟩
theorem zb_t {b : Bool} (h : ¬ zb b = 0) : b = true := by cases b <;> simp_all [zb]
theorem zb_f0 {b : Bool} (h : zb b = 0) : b = false := by cases b <;> simp_all [zb]
theorem zb_1 : zb true = 1 := rfl
theorem zb_0 : zb false = 0 := rfl
abbrev bIn (f t : Nat) : Nat := bDf (bFs t) (bFs f)
theorem bFs_bit (n i : Nat) : (bFs n).testBit i = decide (i < n) := Nat.testBit_two_pow_sub_one n i
theorem bFs_lt {n : Nat} (h : n ≤ 30) : bFs n < 1073741824 := by
  have h1 : 2 ^ n ≤ 2 ^ 30 := Nat.pow_le_pow_right (by decide) h
  have h2 := Nat.one_le_two_pow (n := n)
  unfold bFs
  omega
theorem bDf_lt30 {a b : Nat} (h : a < 1073741824) : bDf a b < 1073741824 := bDf_lt (k := 30) h
theorem bIn_sub {f t : Nat} (h : f ≤ t) : bIn f t = 2 ^ t - 2 ^ f := by
  apply Nat.eq_of_testBit_eq
  intro i
  rw [bDf_bit, bFs_bit, bFs_bit]
  have e : 2 ^ t - 2 ^ f = 2 ^ f * (2 ^ (t - f) - 1) := by
    rw [Nat.mul_sub, Nat.mul_one, ← Nat.pow_add]
    congr 2
    omega
  rw [e, Nat.testBit_two_pow_mul, Nat.testBit_two_pow_sub_one]
  by_cases h1 : i < f
  · simp [h1]
    omega
  · by_cases h2 : i < t
    · simp [h1, h2]
      omega
    · simp [h1, h2]
      omega
/-- a piece's edge by its number; -1: there is none such -/
def bEg (L : List (Nat × Nat)) (i z : Int) : Int := if 0 ≤ i then match L[i.toNat]? with
  | some q => if z = 0 then (q.1 : Int) else (q.2 : Int)
  | none => -1
  else -1
theorem bPt_30 {b p : Nat} (h : p ≤ 30) : bPt b 30 p = bEd b p := by
  unfold bPt
  have := bEd_le 30 b p (by omega) h
  omega
theorem zb_td {p : Prop} {i : Decidable p} (h : ¬ zb (@decide p i) = 0) : p := of_decide_eq_true (zb_t h)
theorem zb_fd {p : Prop} {i : Decidable p} (h : zb (@decide p i) = 0) : ¬ p := of_decide_eq_false (zb_f0 h)
