/-! the reference's tokens are the class's -/
abbrev isBl (x : Int) : Prop := x = 32 ∨ x = 10
/-- blanks are passed over -/
def nS (b : Nat → Int) (t p : Nat) : Nat := tkR (fun i => decide (isBl (b i))) (t - p) p
theorem tkR_e {f : Nat → Bool} : ∀ (k p : Nat), tkR f k p < p + k → f (tkR f k p) = false
  | 0, p, h => absurd h (by show ¬ p < p + 0; omega)
  | k + 1, p, h => by
    by_cases q : f p = true
    · have e : tkR f (k + 1) p = tkR f k (p + 1) := if_pos q
      rw [e] at h ⊢
      exact tkR_e k (p + 1) (by omega)
    · have e : tkR f (k + 1) p = p := if_neg q
      rw [e]
      exact Bool.not_eq_true _ ▸ q
theorem nS_b {b : Nat → Int} {t p : Nat} (h : p ≤ t) : p ≤ nS b t p ∧ nS b t p ≤ t ∧ (∀ i : Nat, p ≤ i → i < nS b t p → isBl (b i)) ∧ (nS b t p < t → ¬ isBl (b (nS b t p))) := by
  have h1 := tkR_b (f := fun i => decide (isBl (b i))) (t - p) p
  refine ⟨h1.1, by unfold nS; omega, fun i h2 h3 => of_decide_eq_true (tkR_f _ _ i h2 h3), fun h2 => of_decide_eq_false (tkR_e (f := fun i => decide (isBl (b i))) (t - p) p (by unfold nS at h2; omega))⟩
theorem cutM_0 {b : Nat → Int} {e : Nat} : ∀ (k p nx : Nat), nx ≤ p → cutM b e k p nx = cutM b e k p 0
  | 0, p, nx, _ => rfl
  | k + 1, p, nx, h => by
    by_cases q : b p = 32 ∨ b p = 10
    · rw [cutM_s (Nat.succ_pos k) (Or.inr q), cutM_s (Nat.succ_pos k) (Or.inr q)]
      exact cutM_0 k (p + 1) nx (by omega)
    · rw [cutM_t (Nat.succ_pos k) (by omega), cutM_t (Nat.succ_pos k) (by omega)]
theorem cutM_k {b : Nat → Int} {e nx : Nat} : ∀ (d k p : Nat), p + d ≤ nx → d ≤ k → cutM b e k p nx = cutM b e (k - d) (p + d) nx
  | 0, k, p, _, _ => rfl
  | d + 1, k, p, h, h2 => by
    rw [cutM_s (by omega) (Or.inl (by omega)), cutM_k d (k - 1) (p + 1) (by omega) (by omega), show k - 1 - d = k - (d + 1) by omega, show p + 1 + d = p + (d + 1) by omega]
theorem cutM_bl {b : Nat → Int} {e : Nat} : ∀ (d k p : Nat), (∀ i : Nat, p ≤ i → i < p + d → isBl (b i)) → d ≤ k → cutM b e k p 0 = cutM b e (k - d) (p + d) 0
  | 0, k, p, _, _ => rfl
  | d + 1, k, p, h, h2 => by
    rw [cutM_s (by omega) (Or.inr (h p (Nat.le_refl _) (by omega))), cutM_bl d (k - 1) (p + 1) (fun i h3 h4 => h i (by omega) (by omega)) (by omega), show k - 1 - d = k - (d + 1) by omega, show p + 1 + d = p + (d + 1) by omega]
/-- the tokens from a place on -/
def tkS (b : Nat → Int) (t s : Nat) : List (Int × Int × Int) := cutM b t (t - s) s 0
theorem tkS_n {b : Nat → Int} {t p : Nat} (h : p ≤ t) : tkS b t p = tkS b t (nS b t p) := by
  obtain ⟨h1, h2, h3, _⟩ := nS_b (b := b) h
  have q := cutM_bl (b := b) (e := t) (nS b t p - p) (t - p) p (fun i h4 h5 => h3 i h4 (by omega)) (by omega)
  unfold tkS
  rw [q, show t - p - (nS b t p - p) = t - nS b t p by omega, show p + (nS b t p - p) = nS b t p by omega]
theorem tkS_t {b : Nat → Int} {t s : Nat} (h : s < t) (hb : ¬ isBl (b s)) : tkS b t s = tkT b t s :: tkS b t (tkE b t s) := by
  have h1 := tkE_b (b := b) h
  have q := cutM_k (b := b) (e := t) (nx := tkE b t s) (tkE b t s - (s + 1)) (t - s - 1) (s + 1) (by omega) (by omega)
  unfold tkS
  rw [cutM_t (by omega) (fun z => z.elim (fun y => absurd y (Nat.not_lt_zero _)) hb), q, show t - s - 1 - (tkE b t s - (s + 1)) = t - tkE b t s by omega, show s + 1 + (tkE b t s - (s + 1)) = tkE b t s by omega, cutM_0 _ _ _ (Nat.le_refl _)]
theorem tkS_e {b : Nat → Int} {t : Nat} : tkS b t t = [(51, 0, ((t : Nat) : Int))] := by
  unfold tkS
  rw [Nat.sub_self]
  rfl
/-- a number as the reference reads it -/
def fgR (b : Nat → Int) (s : Nat) : Nat → Int
  | 0 => 0
  | n + 1 => if 99999 < fgR b s n then fgR b s n else 10 * fgR b s n + b (s + n) - 48
theorem fgR_r {b : Nat → Int} {s : Nat} : ∀ (n : Nat), (∀ i : Nat, i < n → isDg (b (s + i))) → (0 ≤ fgR b s n ∧ fgR b s n ≤ 999999) ∧ ((fgR b s n ≤ 9999 ∧ fgM b s n = fgR b s n) ∨ (9999 < fgR b s n ∧ fgM b s n = 10000))
  | 0, _ => ⟨⟨Int.le_refl 0, by show (0 : Int) ≤ 999999; decide⟩, Or.inl ⟨by show (0 : Int) ≤ 9999; decide, rfl⟩⟩
  | n + 1, h => by
    obtain ⟨h1, h2⟩ := fgR_r n (fun i hi => h i (by omega))
    have h3 := h n (by omega)
    show (0 ≤ (if 99999 < fgR b s n then fgR b s n else 10 * fgR b s n + b (s + n) - 48) ∧ (if 99999 < fgR b s n then fgR b s n else 10 * fgR b s n + b (s + n) - 48) ≤ 999999) ∧ (((if 99999 < fgR b s n then fgR b s n else 10 * fgR b s n + b (s + n) - 48) ≤ 9999 ∧ min 10000 (fgM b s n * 10 + b (s + n) - 48) = (if 99999 < fgR b s n then fgR b s n else 10 * fgR b s n + b (s + n) - 48)) ∨ (9999 < (if 99999 < fgR b s n then fgR b s n else 10 * fgR b s n + b (s + n) - 48) ∧ min 10000 (fgM b s n * 10 + b (s + n) - 48) = 10000))
    split <;> omega
/-- letters packed -/
def pk (c : Nat → Int) (s : Nat) : Nat → Int
  | 0 => 0
  | n + 1 => pk c s n * 256 + c (s + n)
def pkW (c : Nat → Int) (s : Nat) : Nat → Int
  | 0 => 0
  | n + 1 => if ¬ pkW c s n / 281474976710656 = 0 then 1152921504606846976 else pkW c s n * 256 + c (s + n)
def lts (c : Nat → Int) (s n : Nat) : Prop := ∀ k : Nat, k < n → 1 ≤ c (s + k) ∧ c (s + k) < 256
theorem pk_0 {c : Nat → Int} {s : Nat} : ∀ (n : Nat), lts c s n → 0 ≤ pk c s n
  | 0, _ => Int.le_refl 0
  | n + 1, h => by
    have h1 := pk_0 n (fun k hk => h k (by omega))
    have h2 := h n (by omega)
    show 0 ≤ pk c s n * 256 + c (s + n)
    omega
theorem pk_j {c b : Nat → Int} {s p : Nat} : ∀ (n m : Nat), lts c s n → lts b p m → (pk c s n = pk b p m ↔ n = m ∧ ∀ k : Nat, k < n → c (s + k) = b (p + k))
  | 0, 0, _, _ => ⟨fun _ => ⟨rfl, fun k hk => absurd hk (Nat.not_lt_zero k)⟩, fun _ => rfl⟩
  | 0, m + 1, _, h2 => by
    have h3 := pk_0 m (fun k hk => h2 k (by omega))
    have h4 := h2 m (by omega)
    refine ⟨fun q => ?_, fun q => absurd q.1 (by omega)⟩
    have q2 : 0 = pk b p m * 256 + b (p + m) := q
    omega
  | n + 1, 0, h1, _ => by
    have h3 := pk_0 n (fun k hk => h1 k (by omega))
    have h4 := h1 n (by omega)
    refine ⟨fun q => ?_, fun q => absurd q.1 (by omega)⟩
    have q2 : pk c s n * 256 + c (s + n) = 0 := q
    omega
  | n + 1, m + 1, h1, h2 => by
    have h3 := pk_j n m (fun k hk => h1 k (by omega)) (fun k hk => h2 k (by omega))
    have h4 := h1 n (by omega)
    have h5 := h2 m (by omega)
    show (pk c s n * 256 + c (s + n) = pk b p m * 256 + b (p + m)) ↔ _
    refine ⟨fun q => ?_, fun q => ?_⟩
    · obtain ⟨g1, g2⟩ := h3.mp (by omega)
      refine ⟨by omega, fun k hk => ?_⟩
      by_cases e : k = n
      · rw [e]
        have e2 : p + n = p + m := by omega
        rw [e2]
        omega
      · exact g2 k (by omega)
    · have g1 := h3.mpr ⟨by omega, fun k hk => q.2 k (by omega)⟩
      have g2 := q.2 n (by omega)
      have e2 : p + n = p + m := by omega
      rw [e2] at g2
      omega
theorem pk_8 {c : Nat → Int} {s : Nat} : ∀ (k : Nat), lts c s (8 + k) → 72057594037927936 ≤ pk c s (8 + k)
  | 0, h => by
    have h0 := h 0 (by decide)
    have h1 := h 1 (by decide)
    have h2 := h 2 (by decide)
    have h3 := h 3 (by decide)
    have h4 := h 4 (by decide)
    have h5 := h 5 (by decide)
    have h6 := h 6 (by decide)
    have h7 := h 7 (by decide)
    show 72057594037927936 ≤ (((((((0 * 256 + c (s + 0)) * 256 + c (s + 1)) * 256 + c (s + 2)) * 256 + c (s + 3)) * 256 + c (s + 4)) * 256 + c (s + 5)) * 256 + c (s + 6)) * 256 + c (s + 7)
    omega
  | k + 1, h => by
    have h1 := pk_8 k (fun i hi => h i (by omega))
    have h2 := h (8 + k) (by omega)
    show 72057594037927936 ≤ pk c s (8 + k) * 256 + c (s + (8 + k))
    omega
theorem pk_s {c : Nat → Int} {s : Nat} (h : lts c s 6) : pk c s 6 < 281474976710656 ∧ pk c s 5 < 281474976710656 ∧ pk c s 4 < 281474976710656 ∧ pk c s 3 < 281474976710656 ∧ pk c s 2 < 281474976710656 ∧ pk c s 1 < 281474976710656 := by
  have h0 := h 0 (by decide)
  have h1 := h 1 (by decide)
  have h2 := h 2 (by decide)
  have h3 := h 3 (by decide)
  have h4 := h 4 (by decide)
  have h5 := h 5 (by decide)
  show ((((((0 * 256 + c (s + 0)) * 256 + c (s + 1)) * 256 + c (s + 2)) * 256 + c (s + 3)) * 256 + c (s + 4)) * 256 + c (s + 5)) < 281474976710656 ∧ (((((0 * 256 + c (s + 0)) * 256 + c (s + 1)) * 256 + c (s + 2)) * 256 + c (s + 3)) * 256 + c (s + 4)) < 281474976710656 ∧ ((((0 * 256 + c (s + 0)) * 256 + c (s + 1)) * 256 + c (s + 2)) * 256 + c (s + 3)) < 281474976710656 ∧ (((0 * 256 + c (s + 0)) * 256 + c (s + 1)) * 256 + c (s + 2)) < 281474976710656 ∧ ((0 * 256 + c (s + 0)) * 256 + c (s + 1)) < 281474976710656 ∧ (0 * 256 + c (s + 0)) < 281474976710656
  omega
theorem pkv_lt {c : Nat → Int} {s : Nat} : ∀ (n : Nat), n ≤ 6 → lts c s n → pk c s n < 281474976710656
  | 0, _, _ => by show (0 : Int) < 281474976710656; decide
  | 1, _, h => by have h0 := h 0 (by decide); show 0 * 256 + c (s + 0) < 281474976710656; omega
  | 2, _, h => by have h0 := h 0 (by decide); have h1 := h 1 (by decide); show (0 * 256 + c (s + 0)) * 256 + c (s + 1) < 281474976710656; omega
  | 3, _, h => by have h0 := h 0 (by decide); have h1 := h 1 (by decide); have h2 := h 2 (by decide); show ((0 * 256 + c (s + 0)) * 256 + c (s + 1)) * 256 + c (s + 2) < 281474976710656; omega
  | 4, _, h => by have h0 := h 0 (by decide); have h1 := h 1 (by decide); have h2 := h 2 (by decide); have h3 := h 3 (by decide); show (((0 * 256 + c (s + 0)) * 256 + c (s + 1)) * 256 + c (s + 2)) * 256 + c (s + 3) < 281474976710656; omega
  | 5, _, h => by have h0 := h 0 (by decide); have h1 := h 1 (by decide); have h2 := h 2 (by decide); have h3 := h 3 (by decide); have h4 := h 4 (by decide); show ((((0 * 256 + c (s + 0)) * 256 + c (s + 1)) * 256 + c (s + 2)) * 256 + c (s + 3)) * 256 + c (s + 4) < 281474976710656; omega
  | 6, _, h => (pk_s h).1
  | n + 7, h, _ => absurd h (by omega)
theorem pk_7 {c : Nat → Int} {s : Nat} (h : lts c s 7) : 281474976710656 ≤ pk c s 7 ∧ pk c s 7 < 72057594037927936 := by
  have h0 := h 0 (by decide)
  have h6 := h 6 (by decide)
  have q := pkv_lt 6 (Nat.le_refl 6) (fun k hk => h k (by omega))
  have h1 := h 1 (by decide)
  have h2 := h 2 (by decide)
  have h3 := h 3 (by decide)
  have h4 := h 4 (by decide)
  have h5 := h 5 (by decide)
  show 281474976710656 ≤ ((((((0 * 256 + c (s + 0)) * 256 + c (s + 1)) * 256 + c (s + 2)) * 256 + c (s + 3)) * 256 + c (s + 4)) * 256 + c (s + 5)) * 256 + c (s + 6) ∧ pk c s 6 * 256 + c (s + 6) < 72057594037927936
  refine ⟨?_, by omega⟩
  omega
theorem pkW_s {c : Nat → Int} {s : Nat} : ∀ (n : Nat), n ≤ 7 → lts c s n → pkW c s n = pk c s n
  | 0, _, _ => rfl
  | n + 1, hn, h => by
    have h1 := pkW_s n (by omega) (fun k hk => h k (by omega))
    have h2 := pkv_lt n (by omega) (fun k hk => h k (by omega))
    have h3 := pk_0 n (fun k hk => h k (by omega))
    show (if ¬ pkW c s n / 281474976710656 = 0 then 1152921504606846976 else pkW c s n * 256 + c (s + n)) = pk c s n * 256 + c (s + n)
    rw [h1, if_neg (by omega)]
theorem pkW_8 {c : Nat → Int} {s : Nat} : ∀ (k : Nat), lts c s (8 + k) → pkW c s (8 + k) = 1152921504606846976
  | 0, h => by
    have h1 := pkW_s 7 (Nat.le_refl 7) (fun k hk => h k (by omega))
    have h2 := pk_7 (c := c) (s := s) (fun k hk => h k (by omega))
    show (if ¬ pkW c s 7 / 281474976710656 = 0 then 1152921504606846976 else pkW c s 7 * 256 + c (s + 7)) = _
    rw [h1, if_pos (by omega)]
  | k + 1, h => by
    have h1 := pkW_8 k (fun i hi => h i (by omega))
    show (if ¬ pkW c s (8 + k) / 281474976710656 = 0 then 1152921504606846976 else pkW c s (8 + k) * 256 + c (s + (8 + k))) = _
    rw [h1, if_pos (by decide)]
/-- the words, packed -/
def Wl : List Int := [465726301555, 512735409267, 422726034283, 1869636974, 109270114985324, 6578553, 28518, 25209, 27985188330759524, 1668246885, 26982, 1952998766, 1701606245, 6647396, 28530, 6385252, 7237492, 427021001579, 7566702, 1802071652, 121450625394034, 431198331257, 422944466291, 500135716196]
def wdS : List (Nat × Nat) := [(0, 5), (6, 5), (12, 5), (18, 4), (23, 6), (30, 3), (34, 2), (37, 2), (40, 7), (48, 4), (53, 2), (56, 4), (61, 4), (66, 3), (70, 2), (73, 3), (77, 3), (81, 5), (87, 3), (91, 4), (96, 6), (103, 5), (109, 5), (115, 5)]
def wdT (b : Nat → Int) (p q : Nat) : List (Nat × Nat) → Nat → Int
  | [], _ => 52
  | x :: T, v => if x.2 = q - p ∧ wdI b p x.1 x.2 = true then ((v : Nat) : Int) else wdT b p q T (v + 1)
def wdK : List (Nat × Nat) → Nat → Bool
  | [], s => decide (s = 121)
  | x :: T, s => decide (x.1 = s) && (List.range x.2).all (fun i => decide (¬ stC 0 (s + i) = 32)) && decide (stC 0 (s + x.2) = 32) && decide (s + x.2 + 1 ≤ 121) && wdK T (s + x.2 + 1)
theorem wdF_a {b : Nat → Int} {p q v s f : Nat} : ∀ (d i : Nat), (∀ k : Nat, k < d → ¬ stC 0 (i + k) = 32) → wdF b p q (f + d) i v s = wdF b p q f (i + d) v s
  | 0, i, _ => rfl
  | d + 1, i, h => by
    rw [wdF_o (by omega) (show ¬ stC 0 i = 32 from h 0 (by omega)), show f + (d + 1) - 1 = f + d by omega, wdF_a d (i + 1) (fun k hk => by rw [show i + 1 + k = i + (k + 1) by omega]; exact h (k + 1) (by omega)), show i + 1 + d = i + (d + 1) by omega]
theorem wdF_T {b : Nat → Int} {p q : Nat} : ∀ (T : List (Nat × Nat)) (s v : Nat), wdK T s = true → wdF b p q (121 - s) s v s = wdT b p q T v
  | [], s, v, h => by
    have e : s = 121 := of_decide_eq_true h
    rw [e]
    rfl
  | x :: T, s, v, h => by
    have h' : (decide (x.1 = s) && (List.range x.2).all (fun i => decide (¬ stC 0 (s + i) = 32)) && decide (stC 0 (s + x.2) = 32) && decide (s + x.2 + 1 ≤ 121) && wdK T (s + x.2 + 1)) = true := h
    simp only [Bool.and_eq_true, decide_eq_true_eq, List.all_eq_true, List.mem_range] at h'
    obtain ⟨⟨⟨⟨h1, h2⟩, h3⟩, h4⟩, h5⟩ := h'
    have e1 : 121 - s = (121 - (s + x.2 + 1) + 1) + x.2 := by omega
    rw [e1, wdF_a x.2 s h2]
    show wdF b p q (121 - (s + x.2 + 1) + 1) (s + x.2) v s = (if x.2 = q - p ∧ wdI b p x.1 x.2 = true then ((v : Nat) : Int) else wdT b p q T (v + 1))
    have e2 : s + x.2 - s = x.2 := by omega
    by_cases c : x.2 = q - p ∧ wdI b p x.1 x.2 = true
    · rw [if_pos c]
      exact wdF_y (by omega) h3 (by rw [e2, ← h1]; exact c)
    · rw [if_neg c, wdF_n (by omega) h3 (by rw [e2, ← h1]; exact c)]
      exact wdF_T T (s + x.2 + 1) (v + 1) h5
theorem wdI_i {b : Nat → Int} {p s : Nat} : ∀ (n : Nat), wdI b p s n = true ↔ ∀ k : Nat, k < n → stC 0 (s + k) = b (p + k)
  | 0 => ⟨fun _ k hk => absurd hk (Nat.not_lt_zero k), fun _ => rfl⟩
  | n + 1 => by
    have ih := wdI_i (b := b) (p := p) (s := s) n
    show (wdI b p s n && decide (stC 0 (s + n) = b (p + n))) = true ↔ _
    rw [Bool.and_eq_true, decide_eq_true_eq, ih]
    refine ⟨fun h k hk => ?_, fun h => ⟨fun k hk => h k (by omega), h n (by omega)⟩⟩
    by_cases e : k = n
    · rw [e]; exact h.2
    · exact h.1 k (by omega)
def wdX (x : Int) : List Int → Nat → Int
  | [], _ => 52
  | a :: T, v => if x = a then ((v : Nat) : Int) else wdX x T (v + 1)
theorem wdT_X {b : Nat → Int} {p q : Nat} (hb : lts b p (q - p)) : ∀ (T : List (Nat × Nat)) (v : Nat), (∀ x ∈ T, lts (stC 0) x.1 x.2) → wdT b p q T v = wdX (pk b p (q - p)) (T.map (fun x => pk (stC 0) x.1 x.2)) v
  | [], v, _ => rfl
  | x :: T, v, h => by
    show (if x.2 = q - p ∧ wdI b p x.1 x.2 = true then ((v : Nat) : Int) else wdT b p q T (v + 1)) = (if pk b p (q - p) = pk (stC 0) x.1 x.2 then ((v : Nat) : Int) else wdX (pk b p (q - p)) (T.map (fun x => pk (stC 0) x.1 x.2)) (v + 1))
    have hj := pk_j (c := stC 0) (b := b) (s := x.1) (p := p) x.2 (q - p) (h x List.mem_cons_self) hb
    rw [wdT_X hb T (v + 1) (fun y hy => h y (List.mem_cons_of_mem _ hy))]
    by_cases c : x.2 = q - p ∧ wdI b p x.1 x.2 = true
    · rw [if_pos c, if_pos (hj.mpr ⟨c.1, (wdI_i _).mp c.2⟩).symm]
    · rw [if_neg c, if_neg (fun z => c ⟨(hj.mp z.symm).1, (wdI_i _).mpr (hj.mp z.symm).2⟩)]
set_option maxRecDepth 100000 in
theorem wdS_k : wdK wdS 0 = true := by decide +kernel
set_option maxRecDepth 100000 in
theorem wdS_l : ∀ x ∈ wdS, ∀ k : Nat, k < x.2 → 1 ≤ stC 0 (x.1 + k) ∧ stC 0 (x.1 + k) < 256 := by decide +kernel
set_option maxRecDepth 100000 in
theorem wdS_w : wdS.map (fun x => pk (stC 0) x.1 x.2) = Wl := by decide +kernel
theorem wdM_X {b : Nat → Int} {p q : Nat} (hb : lts b p (q - p)) : wdM b p q = wdX (pk b p (q - p)) Wl 0 := by
  have h := wdF_T (b := b) (p := p) (q := q) wdS 0 0 wdS_k
  have h2 := wdT_X hb wdS 0 (fun x hx => wdS_l x hx)
  rw [wdS_w] at h2
  exact h.trans h2
theorem wdX_b {x : Int} : ∀ (T : List Int) (v : Nat), wdX x T v = 52 ∨ (((v : Nat) : Int) ≤ wdX x T v ∧ wdX x T v < ((v + T.length : Nat) : Int))
  | [], v => Or.inl rfl
  | a :: T, v => by
    have h := wdX_b (x := x) T (v + 1)
    show (if x = a then ((v : Nat) : Int) else wdX x T (v + 1)) = 52 ∨ (((v : Nat) : Int) ≤ (if x = a then ((v : Nat) : Int) else wdX x T (v + 1)) ∧ (if x = a then ((v : Nat) : Int) else wdX x T (v + 1)) < ((v + (a :: T).length : Nat) : Int))
    rw [List.length_cons]
    split
    · exact Or.inr ⟨Int.le_refl _, by omega⟩
    · omega
theorem wdX_i {x : Int} : ∀ (T : List Int) (v i : Nat), T.Nodup → i < T.length → v + T.length ≤ 52 → (wdX x T v = ((v + i : Nat) : Int) ↔ T[i]? = some x)
  | [], v, i, _, h, _ => absurd h (Nat.not_lt_zero i)
  | a :: T, v, i, hd, hi, hv => by
    rw [List.nodup_cons] at hd
    rw [List.length_cons] at hi hv
    have hb := wdX_b (x := x) T (v + 1)
    show (if x = a then ((v : Nat) : Int) else wdX x T (v + 1)) = ((v + i : Nat) : Int) ↔ _
    cases i with
    | zero =>
      rw [List.getElem?_cons_zero]
      by_cases c : x = a
      · rw [if_pos c, c]
        exact ⟨fun _ => rfl, fun _ => rfl⟩
      · rw [if_neg c]
        refine ⟨fun q => absurd q (by omega), fun q => absurd (Option.some.inj q).symm c⟩
    | succ i =>
      rw [List.getElem?_cons_succ]
      by_cases c : x = a
      · rw [if_pos c]
        refine ⟨fun q => absurd q (by omega), fun q => absurd (List.mem_of_getElem? q) (by rw [c]; exact hd.1)⟩
      · rw [if_neg c, ← wdX_i T (v + 1) i hd.2 (by omega) (by omega), show v + 1 + i = v + (i + 1) by omega]
theorem Wl_n : Wl.Nodup := by decide +kernel
