/-! the carrier's state as both tell it: numbers by the reference's place, lines out, in flight, timers, the book -/
abbrev Rw : Type := Nat → Int
abbrev Dy : Type := (Nat → Int) × (Nat → List Rw) × List Rw × List Rw × List Rw
def gR (L : List Rw) (i : Nat) : Rw := L.getD i (fun _ => 0)
theorem gR_app {L : List Rw} {r : Rw} {i : Nat} (h : i < L.length) : gR (L ++ [r]) i = gR L i := by
  unfold gR
  rw [List.getD_eq_getElem?_getD, List.getD_eq_getElem?_getD, List.getElem?_append_left h]
theorem gR_last {L : List Rw} {r : Rw} : gR (L ++ [r]) L.length = r := by
  unfold gR
  rw [List.getD_eq_getElem?_getD, List.getElem?_append_right (Nat.le_refl _), Nat.sub_self]
  rfl
theorem gR_er_lt {L : List Rw} {i j : Nat} (h : j < i) : gR (L.eraseIdx i) j = gR L j := by
  unfold gR
  rw [List.getD_eq_getElem?_getD, List.getD_eq_getElem?_getD, List.getElem?_eraseIdx_of_lt h]
theorem gR_er_ge {L : List Rw} {i j : Nat} (h : i ≤ j) : gR (L.eraseIdx i) j = gR L (j + 1) := by
  unfold gR
  rw [List.getD_eq_getElem?_getD, List.getD_eq_getElem?_getD, List.getElem?_eraseIdx_of_ge h]
theorem gR_tail {L : List Rw} {j : Nat} : gR L.tail j = gR L (j + 1) := by
  unfold gR
  rw [List.getD_eq_getElem?_getD, List.getD_eq_getElem?_getD, List.getElem?_tail]
theorem gR_mem {L : List Rw} {i : Nat} (h : i < L.length) : gR L i ∈ L := by
  unfold gR
  rw [List.getD_eq_getElem?_getD, List.getElem?_eq_getElem h]
  exact List.getElem_mem h
def tpc (k : Nat) : Nat := ([1, 2, 3, 6, 7, 8, 5, 4, 0] : List Nat).getD k 0
theorem tpc_lt {k : Nat} (h : k < 9) : tpc k < 9 := by
  match k, h with
  | 0, _ => decide
  | 1, _ => decide
  | 2, _ => decide
  | 3, _ => decide
  | 4, _ => decide
  | 5, _ => decide
  | 6, _ => decide
  | 7, _ => decide
  | 8, _ => decide
  | n + 9, h => omega
theorem tpc_inj {j k : Nat} (hj : j < 9) (hk : k < 9) (h : tpc j = tpc k) : j = k := by
  have : ∀ j < 9, ∀ k < 9, tpc j = tpc k → j = k := by decide
  exact this j hj k hk h
def bkc (r : Rw) : Int := ((r 0 * 6 + r 1) * 3 + r 2) * 5 + r 3
/-- the great row tells this state -/
def Rp (a : Nat → Int) (D : Dy) : Prop :=
  (∀ k : Nat, 18 ≤ k → k < 49 → (k < 23 ∨ 27 < k) → a k = D.1 k) ∧
  (∀ s : Nat, s < 2 → a (24 + s) = (D.2.1 s).length ∧ ∀ i k : Nat, i < (D.2.1 s).length → k < 7 → a (49 + 168 * s + 7 * i + k) = gR (D.2.1 s) i k) ∧
  (a 26 = D.2.2.1.length ∧ ∀ i k : Nat, i < D.2.2.1.length → k < 9 → a (385 + 9 * i + k) = gR D.2.2.1 i k) ∧
  (a 27 = D.2.2.2.1.length ∧ ∀ i k : Nat, i < D.2.2.2.1.length → k < 9 → a (817 + 9 * i + tpc k) = gR D.2.2.2.1 i k) ∧
  (a 23 = D.2.2.2.2.length ∧ ∀ i : Nat, i < D.2.2.2.2.length → a (961 + i) = bkc (gR D.2.2.2.2 i))
def Fr (a0 a : Nat → Int) : Prop := ∀ k : Nat, k < 18 ∨ 986 ≤ k → a k = a0 k
def Fb (b0 b : Nat → Nat → Int) : Prop := ∀ k : Nat, k ≠ 20 → k ≠ 21 → k ≠ 22 → b k = b0 k
/-- the reference with what is told (below 18 and behind 986) as in a0 and this state -/
def isE (o : Nat) (am : Nat → Nat) (u a0 : Nat → Int) (b0 : Nat → Nat → Int) (D : Dy) (w : Wo) : Prop :=
  ∃ a b, isM o am u a b w ∧ Rp a D ∧ Fr a0 a ∧ Fb b0 b
theorem Fr_u {a0 a : Nat → Int} {k : Nat} {v : Int} (h : Fr a0 a) (hk : 18 ≤ k) (hk2 : k < 986) : Fr a0 (uN a k v) := fun j hj => by
  unfold uN
  rw [if_neg (by omega)]
  exact h j hj
theorem Fb_u {b0 b : Nat → Nat → Int} {k : Nat} {f : Nat → Int} (h : Fb b0 b) (hk : k = 20 ∨ k = 21 ∨ k = 22) : Fb b0 (uB b k f) := fun j h1 h2 h3 => by
  unfold uB
  rw [if_neg (by omega)]
  exact h j h1 h2 h3
section QRP
variable {a a' a0 : Nat → Int} {D : Dy}
theorem Rp_s (h : Rp a D) {k : Nat} (h1 : 18 ≤ k) (h2 : k < 49) (h3 : k < 23 ∨ 27 < k) : a k = D.1 k := h.1 k h1 h2 h3
theorem Rp_l (h : Rp a D) {s : Nat} (hs : s < 2) : a (24 + s) = ((D.2.1 s).length : Nat) := (h.2.1 s hs).1
theorem Rp_lr (h : Rp a D) {s i k : Nat} (hs : s < 2) (hi : i < (D.2.1 s).length) (hk : k < 7) : a (49 + 168 * s + 7 * i + k) = gR (D.2.1 s) i k := (h.2.1 s hs).2 i k hi hk
theorem Rp_f (h : Rp a D) : a 26 = (D.2.2.1.length : Nat) := h.2.2.1.1
theorem Rp_fr (h : Rp a D) {i k : Nat} (hi : i < D.2.2.1.length) (hk : k < 9) : a (385 + 9 * i + k) = gR D.2.2.1 i k := h.2.2.1.2 i k hi hk
theorem Rp_t (h : Rp a D) : a 27 = (D.2.2.2.1.length : Nat) := h.2.2.2.1.1
theorem Rp_tr (h : Rp a D) {i k : Nat} (hi : i < D.2.2.2.1.length) (hk : k < 9) : a (817 + 9 * i + tpc k) = gR D.2.2.2.1 i k := h.2.2.2.1.2 i k hi hk
theorem Rp_b (h : Rp a D) : a 23 = (D.2.2.2.2.length : Nat) := h.2.2.2.2.1
theorem Rp_br (h : Rp a D) {i : Nat} (hi : i < D.2.2.2.2.length) : a (961 + i) = bkc (gR D.2.2.2.2 i) := h.2.2.2.2.2 i hi
theorem Rp_us (h : Rp a D) {k : Nat} (v : Int) (h1 : 18 ≤ k) (h2 : k < 49) (h3 : k < 23 ∨ 27 < k) : Rp (uN a k v) (uN D.1 k v, D.2) := by
  have hn : ∀ j : Nat, j ≠ k → uN a k v j = a j := fun j hj => if_neg hj
  refine ⟨fun j j1 j2 j3 => ?_, fun s hs => ⟨?_, fun i c hi hc => ?_⟩, ⟨?_, fun i c hi hc => ?_⟩, ⟨?_, fun i c hi hc => ?_⟩, ⟨?_, fun i hi => ?_⟩⟩
  · by_cases e : j = k
    · show uN a k v j = uN D.1 k v j
      rw [show uN a k v j = v from if_pos e, show uN D.1 k v j = v from if_pos e]
    · show uN a k v j = uN D.1 k v j
      rw [hn j e, show uN D.1 k v j = D.1 j from if_neg e]
      exact h.1 j j1 j2 j3
  · have q := Rp_l h hs; exact (hn _ (by omega)).trans q
  · have q := Rp_lr h hs hi hc; exact (hn _ (by omega)).trans q
  · have q := Rp_f h; exact (hn _ (by omega)).trans q
  · have q := Rp_fr h hi hc; exact (hn _ (by omega)).trans q
  · have q := Rp_t h; exact (hn _ (by omega)).trans q
  · have q := Rp_tr h hi hc; exact (hn _ (by omega)).trans q
  · have q := Rp_b h; exact (hn _ (by omega)).trans q
  · have q := Rp_br h hi; exact (hn _ (by omega)).trans q
def lsS (L : Nat → List Rw) (s : Nat) (x : List Rw) : Nat → List Rw := fun j => if j = s then x else L j
theorem lsS_s (L : Nat → List Rw) (s : Nat) (x : List Rw) : lsS L s x s = x := if_pos rfl
theorem lsS_n (L : Nat → List Rw) {s j : Nat} (x : List Rw) (h : j ≠ s) : lsS L s x j = L j := if_neg h
/-- one of the lines out anew -/
theorem Rp_ul (h : Rp a D) {s : Nat} {x : List Rw} (hs : s < 2) (hl : ∀ s : Nat, s < 2 → (D.2.1 s).length ≤ 24) (h1 : ∀ j : Nat, j ≠ 24 + s → (j < 49 + 168 * s ∨ 217 + 168 * s ≤ j) → a' j = a j)
    (h2 : a' (24 + s) = (x.length : Nat)) (h3 : ∀ i k : Nat, i < x.length → k < 7 → a' (49 + 168 * s + 7 * i + k) = gR x i k) : Rp a' (D.1, lsS D.2.1 s x, D.2.2) := by
  have hl0 := hl 0 (by decide)
  have hl1 := hl 1 (by decide)
  refine ⟨fun j j1 j2 j3 => ?_, fun t ht => ?_, ⟨?_, fun i c hi hc => ?_⟩, ⟨?_, fun i c hi hc => ?_⟩, ⟨?_, fun i hi => ?_⟩⟩
  · have q := h.1 j j1 j2 j3; exact (h1 _ (by omega) (by omega)).trans q
  · by_cases e : t = s
    · subst e
      refine ⟨?_, fun i c hi hc => ?_⟩
      · show a' (24 + t) = ((lsS D.2.1 t x t).length : Nat)
        rw [lsS_s]; exact h2
      · show a' _ = gR (lsS D.2.1 t x t) i c
        have hi2 : i < (lsS D.2.1 t x t).length := hi
        rw [lsS_s] at hi2 ⊢
        exact h3 i c hi2 hc
    · refine ⟨?_, fun i c hi hc => ?_⟩
      · show a' (24 + t) = ((lsS D.2.1 s x t).length : Nat)
        rw [lsS_n _ _ e, h1 _ (by omega) (by omega)]; exact Rp_l h ht
      · show a' _ = gR (lsS D.2.1 s x t) i c
        have hi2 : i < (lsS D.2.1 s x t).length := hi
        rw [lsS_n _ _ e] at hi2 ⊢
        have := hl t ht
        rw [h1 _ (by omega) (by omega)]
        exact Rp_lr h ht hi2 hc
  · have q := Rp_f h; exact (h1 _ (by omega) (by omega)).trans q
  · have q := Rp_fr h hi hc; exact (h1 _ (by omega) (by omega)).trans q
  · have q := Rp_t h; exact (h1 _ (by omega) (by omega)).trans q
  · have q := Rp_tr h hi hc; exact (h1 _ (by omega) (by omega)).trans q
  · have q := Rp_b h; exact (h1 _ (by omega) (by omega)).trans q
  · have q := Rp_br h hi; exact (h1 _ (by omega) (by omega)).trans q
theorem Rp_uf (h : Rp a D) {x : List Rw} (hl : ∀ s : Nat, s < 2 → (D.2.1 s).length ≤ 24) (h1 : ∀ j : Nat, j ≠ 26 → (j < 385 ∨ 817 ≤ j) → a' j = a j)
    (h2 : a' 26 = (x.length : Nat)) (h3 : ∀ i k : Nat, i < x.length → k < 9 → a' (385 + 9 * i + k) = gR x i k) : Rp a' (D.1, D.2.1, x, D.2.2.2) := by
  refine ⟨fun j j1 j2 j3 => ?_, fun t ht => ⟨?_, fun i c hi hc => ?_⟩, ⟨h2, h3⟩, ⟨?_, fun i c hi hc => ?_⟩, ⟨?_, fun i hi => ?_⟩⟩
  · have q := h.1 j j1 j2 j3; exact (h1 _ (by omega) (by omega)).trans q
  · have q := Rp_l h ht; exact (h1 _ (by omega) (by omega)).trans q
  · have := hl t ht
    have hi2 : i < (D.2.1 t).length := hi
    have q := Rp_lr h ht hi hc; exact (h1 _ (by omega) (by omega)).trans q
  · have q := Rp_t h; exact (h1 _ (by omega) (by omega)).trans q
  · have q := Rp_tr h hi hc; exact (h1 _ (by omega) (by omega)).trans q
  · have q := Rp_b h; exact (h1 _ (by omega) (by omega)).trans q
  · have q := Rp_br h hi; exact (h1 _ (by omega) (by omega)).trans q
theorem Rp_ut (h : Rp a D) {x : List Rw} (hl : ∀ s : Nat, s < 2 → (D.2.1 s).length ≤ 24) (hf : D.2.2.1.length ≤ 48) (h1 : ∀ j : Nat, j ≠ 27 → (j < 817 ∨ 961 ≤ j) → a' j = a j)
    (h2 : a' 27 = (x.length : Nat)) (h3 : ∀ i k : Nat, i < x.length → k < 9 → a' (817 + 9 * i + tpc k) = gR x i k) : Rp a' (D.1, D.2.1, D.2.2.1, x, D.2.2.2.2) := by
  refine ⟨fun j j1 j2 j3 => ?_, fun t ht => ⟨?_, fun i c hi hc => ?_⟩, ⟨?_, fun i c hi hc => ?_⟩, ⟨h2, h3⟩, ⟨?_, fun i hi => ?_⟩⟩
  · have q := h.1 j j1 j2 j3; exact (h1 _ (by omega) (by omega)).trans q
  · have q := Rp_l h ht; exact (h1 _ (by omega) (by omega)).trans q
  · have := hl t ht
    have hi2 : i < (D.2.1 t).length := hi
    have q := Rp_lr h ht hi hc; exact (h1 _ (by omega) (by omega)).trans q
  · have q := Rp_f h; exact (h1 _ (by omega) (by omega)).trans q
  · have hi2 : i < D.2.2.1.length := hi
    have q := Rp_fr h hi hc; exact (h1 _ (by omega) (by omega)).trans q
  · have q := Rp_b h; exact (h1 _ (by omega) (by omega)).trans q
  · have q := Rp_br h hi; exact (h1 _ (by omega) (by omega)).trans q
theorem Rp_ub (h : Rp a D) {x : List Rw} (hl : ∀ s : Nat, s < 2 → (D.2.1 s).length ≤ 24) (hf : D.2.2.1.length ≤ 48) (ht : D.2.2.2.1.length ≤ 16) (h1 : ∀ j : Nat, j ≠ 23 → (j < 961 ∨ 986 ≤ j) → a' j = a j)
    (h2 : a' 23 = (x.length : Nat)) (h3 : ∀ i : Nat, i < x.length → a' (961 + i) = bkc (gR x i)) : Rp a' (D.1, D.2.1, D.2.2.1, D.2.2.2.1, x) := by
  refine ⟨fun j j1 j2 j3 => ?_, fun t ht => ⟨?_, fun i c hi hc => ?_⟩, ⟨?_, fun i c hi hc => ?_⟩, ⟨?_, fun i c hi hc => ?_⟩, ⟨h2, h3⟩⟩
  · have q := h.1 j j1 j2 j3; exact (h1 _ (by omega) (by omega)).trans q
  · have q := Rp_l h ht; exact (h1 _ (by omega) (by omega)).trans q
  · have := hl t ht
    have hi2 : i < (D.2.1 t).length := hi
    have q := Rp_lr h ht hi hc; exact (h1 _ (by omega) (by omega)).trans q
  · have q := Rp_f h; exact (h1 _ (by omega) (by omega)).trans q
  · have hi2 : i < D.2.2.1.length := hi
    have q := Rp_fr h hi hc; exact (h1 _ (by omega) (by omega)).trans q
  · have q := Rp_t h; exact (h1 _ (by omega) (by omega)).trans q
  · have hi2 : i < D.2.2.2.1.length := hi
    have := tpc_lt hc
    have q := Rp_tr h hi hc; exact (h1 _ (by omega) (by omega)).trans q
end QRP
/-! what a state's numbers may be -/
def rowOk (n : Int) (r : Rw) : Prop :=
  (0 ≤ r 0 ∧ r 0 ≤ 4) ∧ (0 ≤ r 1 ∧ r 1 ≤ 2) ∧ (0 ≤ r 2 ∧ r 2 ≤ n) ∧ (0 ≤ r 3 ∧ r 3 ≤ 30) ∧ (0 ≤ r 4 ∧ r 4 ≤ n + 30) ∧ (r 0 = 0 → r 3 ≤ r 4 ∧ r 4 ≤ 30) ∧ (0 ≤ r 5 ∧ r 5 ≤ 1073741823) ∧ (0 ≤ r 6 ∧ r 6 ≤ 9) ∧ (0 ≤ r 7 ∧ r 7 ≤ 20000) ∧ (0 ≤ r 8 ∧ r 8 ≤ 1)
def bokOk (r : Rw) : Prop := (0 ≤ r 0 ∧ r 0 ≤ 10400) ∧ (0 ≤ r 1 ∧ r 1 ≤ 5) ∧ (0 ≤ r 2 ∧ r 2 ≤ 2) ∧ (0 ≤ r 3 ∧ r 3 ≤ 4)
def Shi (n : Int) (k : Nat) : Int := if k = 18 then 10400 else if k = 19 then 31090 else if k = 20 then 10400 else if k < 28 then n else if k < 34 then 3 else if k < 40 then 1073741823 else n
def sOk (n : Int) (s : Nat → Int) : Prop := ∀ k : Nat, 18 ≤ k → k < 49 → (k < 23 ∨ 27 < k) → 0 ≤ s k ∧ s k ≤ Shi n k
def Dok (n : Int) (D : Dy) : Prop :=
  sOk n D.1 ∧ (∀ s : Nat, s < 2 → (D.2.1 s).length ≤ 24 ∧ ∀ r ∈ D.2.1 s, rowOk n r) ∧ (D.2.2.1.length ≤ 40 ∧ ∀ r ∈ D.2.2.1, rowOk n r) ∧ (D.2.2.2.1.length ≤ 16 ∧ ∀ r ∈ D.2.2.2.1, rowOk n r) ∧ (D.2.2.2.2.length ≤ 25 ∧ ∀ r ∈ D.2.2.2.2, bokOk r)
/-- the bounds of what is told -/
def Tok (a0 : Nat → Int) : Prop := (∀ k : Nat, k < 18 → Mlo k ≤ a0 k ∧ a0 k ≤ Mhi k) ∧ (∀ x : Nat, x < 3 → a0 (15 + x) ≤ a0 (12 + x)) ∧ a0 10 < a0 11 ∧ a0 11 ≤ a0 9
theorem Shi_mono {n m : Int} (h : n ≤ m) (k : Nat) : Shi n k ≤ Shi m k := by
  unfold Shi
  repeat' split
  all_goals omega
theorem sOk_mono {n m : Int} {s : Nat → Int} (h : n ≤ m) (hs : sOk n s) : sOk m s := fun k h1 h2 h3 => ⟨(hs k h1 h2 h3).1, Int.le_trans (hs k h1 h2 h3).2 (Shi_mono h k)⟩
theorem rowOk_mono {n m : Int} {r : Rw} (h : n ≤ m) (hr : rowOk n r) : rowOk m r := by
  obtain ⟨h0, h1, h2, h3, h4, h5, h6, h7, h8, h9⟩ := hr
  exact ⟨h0, h1, by omega, h3, by omega, h5, h6, h7, h8, h9⟩
theorem Dok_mono {n m : Int} {D : Dy} (h : n ≤ m) (hd : Dok n D) : Dok m D := by
  obtain ⟨h1, h2, h3, h4, h5⟩ := hd
  exact ⟨sOk_mono h h1, fun s hs => ⟨(h2 s hs).1, fun r hr => rowOk_mono h ((h2 s hs).2 r hr)⟩, ⟨h3.1, fun r hr => rowOk_mono h (h3.2 r hr)⟩, ⟨h4.1, fun r hr => rowOk_mono h (h4.2 r hr)⟩, h5⟩
section QDK
variable {n : Int} {D : Dy} {a a0 : Nat → Int}
theorem Dok_l (h : Dok n D) {s : Nat} (hs : s < 2) : (D.2.1 s).length ≤ 24 := (h.2.1 s hs).1
theorem Dok_f (h : Dok n D) : D.2.2.1.length ≤ 40 := h.2.2.1.1
theorem Dok_t (h : Dok n D) : D.2.2.2.1.length ≤ 16 := h.2.2.2.1.1
theorem Dok_b (h : Dok n D) : D.2.2.2.2.length ≤ 25 := h.2.2.2.2.1
theorem Dok_lr (h : Dok n D) {s i : Nat} (hs : s < 2) (hi : i < (D.2.1 s).length) : rowOk n (gR (D.2.1 s) i) := (h.2.1 s hs).2 _ (gR_mem hi)
theorem Dok_fr (h : Dok n D) {i : Nat} (hi : i < D.2.2.1.length) : rowOk n (gR D.2.2.1 i) := h.2.2.1.2 _ (gR_mem hi)
theorem Dok_tr (h : Dok n D) {i : Nat} (hi : i < D.2.2.2.1.length) : rowOk n (gR D.2.2.2.1 i) := h.2.2.2.1.2 _ (gR_mem hi)
theorem Dok_br (h : Dok n D) {i : Nat} (hi : i < D.2.2.2.2.length) : bokOk (gR D.2.2.2.2 i) := h.2.2.2.2.2 _ (gR_mem hi)
theorem Dok_how (h : Dok n D) {x : Nat} (hx : x < 6) : 0 ≤ D.1 (28 + x) ∧ D.1 (28 + x) ≤ 3 := by
  have := h.1 (28 + x) (by omega) (by omega) (by omega)
  unfold Shi at this
  rw [if_neg (by omega), if_neg (by omega), if_neg (by omega), if_neg (by omega), if_pos (by omega)] at this
  exact this
theorem Dok_bit (h : Dok n D) {x : Nat} (hx : x < 6) : 0 ≤ D.1 (34 + x) ∧ D.1 (34 + x) ≤ 1073741823 := by
  have := h.1 (34 + x) (by omega) (by omega) (by omega)
  unfold Shi at this
  rw [if_neg (by omega), if_neg (by omega), if_neg (by omega), if_neg (by omega), if_neg (by omega), if_pos (by omega)] at this
  exact this
theorem Dok_cnt (h : Dok n D) {x : Nat} (hx : x < 9) : 0 ≤ D.1 (40 + x) ∧ D.1 (40 + x) ≤ n := by
  have := h.1 (40 + x) (by omega) (by omega) (by omega)
  unfold Shi at this
  rw [if_neg (by omega), if_neg (by omega), if_neg (by omega), if_neg (by omega), if_neg (by omega), if_neg (by omega)] at this
  exact this
theorem Dok_clk (h : Dok n D) : 0 ≤ D.1 18 ∧ D.1 18 ≤ 10400 := h.1 18 (by decide) (by decide) (by decide)
theorem Dok_x (h : Dok n D) : 0 ≤ D.1 19 ∧ D.1 19 ≤ 31090 := h.1 19 (by decide) (by decide) (by decide)
theorem Dok_sun (h : Dok n D) : 0 ≤ D.1 20 ∧ D.1 20 ≤ 10400 := h.1 20 (by decide) (by decide) (by decide)
theorem Dok_sent (h : Dok n D) : 0 ≤ D.1 21 ∧ D.1 21 ≤ n := h.1 21 (by decide) (by decide) (by decide)
theorem Dok_lost (h : Dok n D) : 0 ≤ D.1 22 ∧ D.1 22 ≤ n := h.1 22 (by decide) (by decide) (by decide)
theorem Mok_of (ht : Tok a0) (hd : Dok n D) (hn : n ≤ 1000000000) (hR : Rp a D) (hF : Fr a0 a) : Mok a := fun k hk => by
  rcases Nat.lt_or_ge k 18 with h1 | h1
  · rw [hF k (Or.inl h1)]
    exact ht.1 k h1
  · have hlo : ∀ k : Nat, k < 49 → 18 ≤ k → Mlo k = 0 := by decide
    rw [hlo k hk h1]
    by_cases h2 : k < 23 ∨ 27 < k
    · rw [Rp_s hR h1 hk h2]
      have h3 := hd.1 k h1 hk h2
      have h4 : ∀ k : Nat, k < 49 → 18 ≤ k → (k < 23 ∨ 27 < k) → Shi 1000000000 k ≤ Mhi k := by decide
      exact ⟨h3.1, Int.le_trans h3.2 (Int.le_trans (Shi_mono hn k) (h4 k hk h1 h2))⟩
    · have h5 : k = 23 ∨ k = 24 ∨ k = 25 ∨ k = 26 ∨ k = 27 := by omega
      have hl0 := Dok_l hd (s := 0) (by decide)
      have hl1 := Dok_l hd (s := 1) (by decide)
      have hf := Dok_f hd
      have htt := Dok_t hd
      have hb := Dok_b hd
      rcases h5 with rfl | rfl | rfl | rfl | rfl
      · rw [Rp_b hR]; exact ⟨by omega, Int.le_trans (show _ ≤ (25 : Int) by omega) (by decide)⟩
      · rw [show (24 : Nat) = 24 + 0 from rfl, Rp_l hR (by decide)]; exact ⟨by omega, Int.le_trans (show _ ≤ (24 : Int) by omega) (by decide)⟩
      · rw [show (25 : Nat) = 24 + 1 from rfl, Rp_l hR (by decide)]; exact ⟨by omega, Int.le_trans (show _ ≤ (24 : Int) by omega) (by decide)⟩
      · rw [Rp_f hR]; exact ⟨by omega, Int.le_trans (show _ ≤ (40 : Int) by omega) (by decide)⟩
      · rw [Rp_t hR]; exact ⟨by omega, Int.le_trans (show _ ≤ (16 : Int) by omega) (by decide)⟩
end QDK
/-! what the calls make of a state -/
def rwM (kind b serial f t claims tried : Int) : Rw := fun k => ([kind, b, serial, f, t, claims, tried] : List Int).getD k 0
def rwF (r : Rw) (when side : Int) : Rw := fun k => if k < 7 then r k else if k = 7 then when else side
def rwB (clock what b kind : Int) : Rw := fun k => ([clock, what, b, kind] : List Int).getD k 0
/-- a number anew -/
def mS (k : Nat) (v : Int) (D : Dy) : Dy := (uN D.1 k v, D.2)
def mPut (s : Nat) (r : Rw) (D : Dy) : Dy := if (D.2.1 s).length = 24 then D else (D.1, lsS D.2.1 s (D.2.1 s ++ [r]), D.2.2)
def bkA (B : List Rw) (r : Rw) : List Rw := (if B.length = 25 then B.tail else B) ++ [r]
def mNote (r : Rw) (D : Dy) : Dy := (D.1, D.2.1, D.2.2.1, D.2.2.2.1, bkA D.2.2.2.2 r)
/-- out at a side and timers of it that are told so are gone -/
def mDrop (s : Nat) (p : Rw → Bool) (D : Dy) : Dy := (D.1, lsS D.2.1 s ((D.2.1 s).filter (fun r => !p r)), D.2.2.1, D.2.2.2.1.filter (fun r => !(decide (r 8 = (s : Int)) && p r)), D.2.2.2.2)
/-- of a block: of a kind and a serial, or all -/
def pKS (b kind serial : Int) (r : Rw) : Bool := decide (r 1 = b ∧ (kind = -1 ∨ (r 0 = kind ∧ r 2 = serial)))
def mPieces (b ck : Int) : List (Nat × Nat) → Dy → Dy
  | [], D => D
  | q :: [], D => mPut 0 (rwM 0 b ck q.1 q.2 0 0) D
  | q :: q2 :: t, D => mPieces b ck (q2 :: t) (mPut 0 (rwM 0 b 0 q.1 q.2 0 0) D)
/-- pieces of red bytes are put out, the last one as a checkpoint -/
def mRed (a0 : Nat → Int) (b bits : Nat) (D : Dy) : Dy :=
  if bPs bits (a0 7).toNat = [] then D else mPieces b (D.1 (40 + b) + 1) (bPs bits (a0 7).toNat) (mS (40 + b) (D.1 (40 + b) + 1) D)
def mEnd (b : Nat) (D : Dy) : Dy := mNote (rwB (D.1 18) 1 b 0) (mS (28 + b) 2 D)
def mRedOf (a0 : Nat → Int) (b : Nat) : Nat := bFs (a0 (15 + b)).toNat
def mOpen (a0 : Nat → Int) (b : Nat) (D : Dy) : Dy :=
  let D1 := mPieces b 0 (bPs (bIn (a0 (15 + b)).toNat (a0 (12 + b)).toNat) (a0 7).toNat) (mRed a0 b (mRedOf a0 b) (mNote (rwB (D.1 18) 0 b 0) (mS (28 + b) 1 D)))
  if a0 (15 + b) = 0 then mEnd b D1 else D1
def mCancel (b s : Nat) (D : Dy) : Dy := mPut s (rwM 3 b 0 0 0 0 0) (mNote (rwB (D.1 18) (2 + (s : Int)) b 0) (mDrop s (pKS b (-1) 0) (mS (28 + 3 * s + b) 3 D)))
def mGotData (a0 : Nat → Int) (b : Nat) (serial : Int) (f t : Nat) (D : Dy) : Dy :=
  if D.1 (31 + b) = 3 then D else
    let c : Nat := (D.1 (37 + b)).toNat ||| bIn f t
    if serial = 0 then mS (37 + b) c D else
      mPut 1 (rwM 1 b (D.1 (43 + b) + 1) 0 serial ((c &&& mRedOf a0 b : Nat) : Int) 0) (mS (43 + b) (D.1 (43 + b) + 1) (mS (37 + b) c D))
def mChecks (b : Nat) : Nat → Dy → Dy
  | 0, D => D
  | n + 1, D => mDrop 0 (pKS b 0 ((n : Int) + 1)) (mChecks b n D)
def mMiss (a0 : Nat → Int) (b : Nat) (c : Nat) : Nat := bDf (mRedOf a0 b) c
def mGotReport (a0 : Nat → Int) (b : Nat) (serial check : Int) (claims : Nat) (D : Dy) : Dy :=
  let D1 := mDrop 0 (pKS b 0 check) (mPut 0 (rwM 2 b serial 0 0 0 0) D)
  if D.1 (28 + b) = 1 then
    let c : Nat := (D.1 (34 + b)).toNat ||| claims
    let D2 := mS (34 + b) c D1
    if mMiss a0 b c = 0 then mChecks b (D.1 (40 + b)).toNat (mEnd b D2) else if check = D.1 (40 + b) then mRed a0 b (mMiss a0 b c) D2 else D2
  else D1
def mGotCancel (s b : Nat) (D : Dy) : Dy :=
  mPut s (rwM 4 b 0 0 0 0 0) (if s = 1 ∨ D.1 (28 + b) = 1 then mDrop s (pKS b (-1) 0) (mS (28 + 3 * s + b) 3 D) else D)
/-- the i-th in flight is got -/
def mGot (a0 : Nat → Int) (i : Nat) (D : Dy) : Dy :=
  let r := gR D.2.2.1 i
  let D1 : Dy := (D.1, D.2.1, D.2.2.1.eraseIdx i, D.2.2.2)
  let b := (r 1).toNat
  let s := (r 8).toNat
  if r 0 = 0 then mGotData a0 b (r 2) (r 3).toNat (r 4).toNat D1
  else if r 0 = 1 then mGotReport a0 b (r 2) (r 4) (r 5).toNat D1
  else if r 0 = 2 then mDrop s (pKS b 1 (r 2)) D1
  else if r 0 = 3 then mGotCancel s b D1
  else mDrop s (pKS b 3 0) D1
