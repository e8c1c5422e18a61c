/-! the reference's object: its fields u, its great row a, its other rows b by their field -/
def uB (b : Nat → Nat → Int) (k : Nat) (f : Nat → Int) : Nat → Nat → Int := fun j => if j = k then f else b j
def Mf (am : Nat → Nat) (u : Nat → Int) : List AV := [vr (am 0), vr (am 1), vr (am 2), vr (am 3), vi (u 4), vi (u 5), vi (u 6), vi (u 7), vi (u 8), vi (u 9), vi (u 10), vl (u 11), vi (u 12), vi (u 13), vi (u 14), vr (am 15), vi (u 16), vi (u 17), vi (u 18), vi (u 19), vr (am 20), vr (am 21), vr (am 22), vi (u 23), vr (am 24)]
def Mrows : List (Nat × Nat × Nat) := [(1, 0, 30042), (2, 0, 2724), (3, 0, 300), (15, 0, 160), (20, 0, 7), (21, 1, 330), (22, 2, 330), (24, 0, 968)]
def isM (o : Nat) (am : Nat → Nat) (u a : Nat → Int) (b : Nat → Nat → Int) (w : Wo) : Prop :=
  lk w o = some (Ob 10 (Mf am u)) ∧ lk w (am 0) = some (Ar 0 30042 a) ∧ (∀ q ∈ Mrows, lk w (am q.1) = some (Ar q.2.1 q.2.2 (b q.1))) ∧
  (∀ q ∈ Mrows, am q.1 ≠ am 0 ∧ am q.1 ≠ o) ∧ am 0 ≠ o ∧ ∀ p ∈ Mrows, ∀ q ∈ Mrows, am p.1 = am q.1 → p = q
section QM
variable {o : Nat} {am : Nat → Nat} {u u' a a' : Nat → Int} {b : Nat → Nat → Int} {w : Wo}
theorem isM_o (h : isM o am u a b w) : lk w o = some (Ob 10 (Mf am u)) := h.1
theorem isM_a (h : isM o am u a b w) : lk w (am 0) = some (Ar 0 30042 a) := h.2.1
theorem isM_1 (h : isM o am u a b w) : lk w (am 1) = some (Ar 0 30042 (b 1)) := h.2.2.1 (1, 0, 30042) (by decide)
theorem isM_2 (h : isM o am u a b w) : lk w (am 2) = some (Ar 0 2724 (b 2)) := h.2.2.1 (2, 0, 2724) (by decide)
theorem isM_3 (h : isM o am u a b w) : lk w (am 3) = some (Ar 0 300 (b 3)) := h.2.2.1 (3, 0, 300) (by decide)
theorem isM_15 (h : isM o am u a b w) : lk w (am 15) = some (Ar 0 160 (b 15)) := h.2.2.1 (15, 0, 160) (by decide)
theorem isM_20 (h : isM o am u a b w) : lk w (am 20) = some (Ar 0 7 (b 20)) := h.2.2.1 (20, 0, 7) (by decide)
theorem isM_21 (h : isM o am u a b w) : lk w (am 21) = some (Ar 1 330 (b 21)) := h.2.2.1 (21, 1, 330) (by decide)
theorem isM_22 (h : isM o am u a b w) : lk w (am 22) = some (Ar 2 330 (b 22)) := h.2.2.1 (22, 2, 330) (by decide)
theorem isM_24 (h : isM o am u a b w) : lk w (am 24) = some (Ar 0 968 (b 24)) := h.2.2.1 (24, 0, 968) (by decide)
theorem isM_setU {fs : List AV} (h : isM o am u a b w) (e : fs = Mf am u') : isM o am u' a b (up w o (Ob 10 fs)) := by
  obtain ⟨h1, h2, h3, h4, h5, h6⟩ := h
  subst e
  exact ⟨lk_up_s h1, (lk_up_n h5).trans h2, fun q hq => (lk_up_n (h4 q hq).2).trans (h3 q hq), h4, h5, h6⟩
theorem isM_setA (h : isM o am u a b w) (f : Nat → Int) : isM o am u f b (up w (am 0) (Ar 0 30042 f)) := by
  obtain ⟨h1, h2, h3, h4, h5, h6⟩ := h
  exact ⟨(lk_up_n (Ne.symm h5)).trans h1, lk_up_s h2, fun q hq => (lk_up_n (h4 q hq).1).trans (h3 q hq), h4, h5, h6⟩
theorem isM_setB (h : isM o am u a b w) {k t n : Nat} (hk : (k, t, n) ∈ Mrows) (f : Nat → Int) : isM o am u a (uB b k f) (up w (am k) (Ar t n f)) := by
  obtain ⟨h1, h2, h3, h4, h5, h6⟩ := h
  refine ⟨(lk_up_n (Ne.symm (h4 _ hk).2)).trans h1, (lk_up_n (Ne.symm (h4 _ hk).1)).trans h2, fun q hq => ?_, h4, h5, h6⟩
  by_cases e : q = (k, t, n)
  · subst e
    unfold uB
    rw [if_pos rfl]
    exact lk_up_s (h3 _ hk)
  · have hne : am q.1 ≠ am k := fun z => e (h6 q hq _ hk z)
    have hk2 : q.1 ≠ k := fun z => hne (by rw [z])
    unfold uB
    rw [if_neg hk2]
    exact (lk_up_n hne).trans (h3 q hq)
end QM
