section QCL
variable {D : Dy} {a0 : Nat → Int} {n : Int}
/-- what a block's end does in the class -/
def cFin (b : Nat) (D : Dy) : Dy := mDrop 0 (pF b 0 1 2147483647) (mEnd b D)
theorem mChecks_F {b : Nat} : ∀ m : Nat, mChecks b m D = mDrop 0 (pF b 0 1 m) D
  | 0 => (mDrop_0 (fun r _ => decide_eq_false (fun q => by have := q.2.2; omega)) (fun r _ => decide_eq_false (fun q => by have := q.2.2; omega))).symm
  | m + 1 => by
    show mDrop 0 (pKS b 0 ((m : Int) + 1)) (mChecks b m D) = _
    rw [mChecks_F m, mDrop_2]
    have e : ∀ r : Rw, (pF b 0 1 (m : Nat) r || pKS b 0 ((m : Int) + 1) r) = pF b 0 1 ((m + 1 : Nat) : Int) r := fun r => by
      unfold pF pKS
      rw [← Bool.decide_or]
      exact decide_eq_decide.mpr ⟨fun q => by
        rcases q with q | q
        · exact ⟨q.1, q.2.1, q.2.2.1, by have := q.2.2.2; omega⟩
        · have q2 := q.2.resolve_left (by decide)
          exact ⟨q.1, Or.inr q2.1, by omega, by omega⟩, fun q => by
        have q2 := q.2.1.resolve_left (by decide)
        by_cases z : r 2 = (m : Int) + 1
        · exact Or.inr ⟨q.1, Or.inr ⟨q2, z⟩⟩
        · exact Or.inl ⟨q.1, Or.inr q2, q.2.2.1, by have := q.2.2.2; omega⟩⟩
    exact mDrop_c (fun r _ => e r) (fun r _ => e r)
theorem pF_end {b : Nat} {r : Rw} {s : Nat → Int} {m : Nat} (hb : b < 3) (hr : jR s r) (hm : s (40 + b) = (m : Int)) (hm2 : m ≤ 2147483647) : pF b 0 1 m r = pF b 0 1 2147483647 r := by
  unfold pF
  exact decide_eq_decide.mpr ⟨fun q => ⟨q.1, q.2.1, q.2.2.1, by have := q.2.2.2; omega⟩, fun q => ⟨q.1, q.2.1, q.2.2.1, by have := hr.1 b hb q.1 (q.2.1.resolve_left (by decide)); omega⟩⟩
theorem cFin_c {b : Nat} (h : Jok D) (hd : Dok n D) (hn : n ≤ 2147483647) (hb : b < 3) : mChecks b (D.1 (40 + b)).toNat (mEnd b D) = cFin b D := by
  have hc := Dok_cnt hd (x := b) (by omega)
  have he : Jok (mEnd b D) := Jok_end h hb
  have e40 : (mEnd b D).1 (40 + b) = ((D.1 (40 + b)).toNat : Int) := by
    rw [show (mEnd b D).1 (40 + b) = D.1 (40 + b) from uN_o (by omega)]
    exact (Int.toNat_of_nonneg hc.1).symm
  rw [mChecks_F]
  exact mDrop_c (fun r hr => pF_end hb (he.1 0 (by decide) r hr) e40 (by omega)) (fun r hr => pF_end hb (he.2.1 r hr) e40 (by omega))
theorem cFin_0 {b : Nat} (h : Jok D) (hb : b < 3) (h0 : D.1 (40 + b) = 0) : cFin b D = mEnd b D := by
  have he : Jok (mEnd b D) := Jok_end h hb
  have e40 : (mEnd b D).1 (40 + b) = 0 := (uN_o (by omega)).trans h0
  have e : ∀ r : Rw, jR (mEnd b D).1 r → pF b 0 1 2147483647 r = false := fun r hr => decide_eq_false (fun q => by
    have := hr.1 b hb q.1 (q.2.1.resolve_left (by decide))
    rw [e40] at this
    have := q.2.2.1
    omega)
  exact mDrop_0 (fun r hr => e r (he.1 0 (by decide) r hr)) (fun r hr => e r (he.2.1 r hr))
/-- pieces put out, in the class's way -/
def cPc (rel : Bool) (b : Nat) : List (Nat × Nat) → Dy → Dy
  | [], D => D
  | q :: [], D => if rel = true then mPut 0 (rwM 0 b (D.1 (40 + b) + 1) q.1 q.2 0 0) (mS (40 + b) (D.1 (40 + b) + 1) D) else mPut 0 (rwM 0 b 0 q.1 q.2 0 0) D
  | q :: q2 :: t, D => cPc rel b (q2 :: t) (mPut 0 (rwM 0 b 0 q.1 q.2 0 0) D)
theorem mPut_S {s k : Nat} {r : Rw} {v : Int} : mPut s r (mS k v D) = mS k v (mPut s r D) := by
  by_cases h : (D.2.1 s).length = 24
  · unfold mPut
    rw [if_pos h, if_pos (show ((mS k v D).2.1 s).length = 24 from h)]
  · unfold mPut
    rw [if_neg h, if_neg (show ¬ ((mS k v D).2.1 s).length = 24 from h)]
    rfl
theorem cPc_f {b : Nat} : ∀ (L : List (Nat × Nat)) (D : Dy), cPc false b L D = mPieces b 0 L D
  | [], D => rfl
  | q :: [], D => rfl
  | q :: q2 :: t, D => cPc_f (q2 :: t) _
theorem cPc_t {b : Nat} : ∀ (L : List (Nat × Nat)) (D : Dy), ¬ L = [] → cPc true b L D = mPieces b (D.1 (40 + b) + 1) L (mS (40 + b) (D.1 (40 + b) + 1) D)
  | [], D, h => absurd rfl h
  | q :: [], D, _ => rfl
  | q :: q2 :: t, D, _ => by
    show cPc true b (q2 :: t) (mPut 0 (rwM 0 b 0 q.1 q.2 0 0) D) = mPieces b (D.1 (40 + b) + 1) (q2 :: t) (mPut 0 (rwM 0 b 0 q.1 q.2 0 0) (mS (40 + b) (D.1 (40 + b) + 1) D))
    rw [cPc_t (q2 :: t) _ (by simp), mPut_1, mPut_S]
theorem cPc_red {b bits : Nat} : cPc true b (bPs bits (a0 7).toNat) D = mRed a0 b bits D := by
  unfold mRed
  by_cases h : bPs bits (a0 7).toNat = []
  · rw [if_pos h, h]; rfl
  · rw [if_neg h, cPc_t _ _ h]
/-- the flight anew -/
def sFl (L : List Rw) (D : Dy) : Dy := (D.1, D.2.1, L, D.2.2.2)
section QFL
variable {L : List Rw} {s k b : Nat} {r : Rw} {v : Int} {p : Rw → Bool}
theorem f_put : mPut s r (sFl L D) = sFl L (mPut s r D) := by
  by_cases h : (D.2.1 s).length = 24
  · unfold mPut
    rw [if_pos h, if_pos (show ((sFl L D).2.1 s).length = 24 from h)]
  · unfold mPut
    rw [if_neg h, if_neg (show ¬ ((sFl L D).2.1 s).length = 24 from h)]
    rfl
theorem f_pieces {ck : Int} : ∀ (Q : List (Nat × Nat)) (D : Dy), mPieces b ck Q (sFl L D) = sFl L (mPieces b ck Q D)
  | [], D => rfl
  | q :: [], D => f_put
  | q :: q2 :: t, D => by
    show mPieces b ck (q2 :: t) (mPut 0 _ (sFl L D)) = _
    rw [f_put, f_pieces (q2 :: t)]
    rfl
theorem f_red {bits : Nat} : mRed a0 b bits (sFl L D) = sFl L (mRed a0 b bits D) := by
  by_cases h : bPs bits (a0 7).toNat = []
  · exact (if_pos h).trans (congrArg (sFl L) (if_pos h).symm)
  · exact (if_neg h).trans ((f_pieces (D := mS (40 + b) (D.1 (40 + b) + 1) D) _).trans (congrArg (sFl L) (if_neg h).symm))
theorem f_checks : ∀ (m : Nat) (D : Dy), mChecks b m (sFl L D) = sFl L (mChecks b m D)
  | 0, D => rfl
  | m + 1, D => by
    show mDrop 0 _ (mChecks b m (sFl L D)) = _
    rw [f_checks m]
    rfl
theorem f_gotData {f t : Nat} {serial : Int} : mGotData a0 b serial f t (sFl L D) = sFl L (mGotData a0 b serial f t D) := by
  by_cases h : D.1 (31 + b) = 3
  · rw [mGotData_a h, mGotData_a (D := sFl L D) h]
  · by_cases h2 : serial = 0
    · rw [mGotData_b h h2, mGotData_b (D := sFl L D) h h2]; rfl
    · rw [mGotData_c h h2, mGotData_c (D := sFl L D) h h2]
      exact f_put (D := mS (43 + b) (D.1 (43 + b) + 1) (mS (37 + b) _ D))
theorem f_gr1 {serial check : Int} : gr1 b serial check (sFl L D) = sFl L (gr1 b serial check D) := by
  unfold gr1
  rw [f_put]
  rfl
theorem f_gotReport {claims : Nat} {serial check : Int} : mGotReport a0 b serial check claims (sFl L D) = sFl L (mGotReport a0 b serial check claims D) := by
  have e1 : ∀ v : Int, mS (34 + b) v (gr1 b serial check (sFl L D)) = sFl L (mS (34 + b) v (gr1 b serial check D)) := fun v => by rw [f_gr1]; rfl
  by_cases h : D.1 (28 + b) = 1
  · by_cases h2 : mMiss a0 b ((D.1 (34 + b)).toNat ||| claims) = 0
    · rw [mGotReport_b h h2, mGotReport_b (D := sFl L D) h h2]
      show mChecks b _ (mEnd b (mS (34 + b) _ (gr1 b serial check (sFl L D)))) = _
      rw [e1]
      exact f_checks (D.1 (40 + b)).toNat (mEnd b (mS (34 + b) (((D.1 (34 + b)).toNat ||| claims : Nat) : Int) (gr1 b serial check D)))
    · by_cases h3 : check = D.1 (40 + b)
      · rw [mGotReport_c h h2 h3, mGotReport_c (D := sFl L D) h h2 h3]
        show mRed a0 b _ (mS (34 + b) _ (gr1 b serial check (sFl L D))) = _
        rw [e1]
        exact f_red
      · rw [mGotReport_d h h2 h3, mGotReport_d (D := sFl L D) h h2 h3]
        exact e1 _
  · rw [mGotReport_a h, mGotReport_a (D := sFl L D) h, f_gr1]
theorem f_gotCancel : mGotCancel s b (sFl L D) = sFl L (mGotCancel s b D) := by
  by_cases h : s = 1 ∨ D.1 (28 + b) = 1
  · unfold mGotCancel
    rw [if_pos h, if_pos (show s = 1 ∨ (sFl L D).1 (28 + b) = 1 from h)]
    exact f_put (D := mDrop s (pKS b (-1) 0) (mS (28 + 3 * s + b) 3 D))
  · unfold mGotCancel
    rw [if_neg h, if_neg (show ¬ (s = 1 ∨ (sFl L D).1 (28 + b) = 1) from h)]
    exact f_put
/-- what a message does, still in flight -/
def mGotB (a0 : Nat → Int) (r : Rw) (D : Dy) : Dy :=
  if r 0 = 0 then mGotData a0 (r 1).toNat (r 2) (r 3).toNat (r 4).toNat D
  else if r 0 = 1 then mGotReport a0 (r 1).toNat (r 2) (r 4) (r 5).toNat D
  else if r 0 = 2 then mDrop (r 8).toNat (pKS (((r 1).toNat : Nat) : Int) 1 (r 2)) D
  else if r 0 = 3 then mGotCancel (r 8).toNat (r 1).toNat D
  else mDrop (r 8).toNat (pKS (((r 1).toNat : Nat) : Int) 3 0) D
theorem f_gotB : mGotB a0 r (sFl L D) = sFl L (mGotB a0 r D) := by
  unfold mGotB
  by_cases e0 : r 0 = 0
  · rw [if_pos e0, if_pos e0]; exact f_gotData
  rw [if_neg e0, if_neg e0]
  by_cases e1 : r 0 = 1
  · rw [if_pos e1, if_pos e1]; exact f_gotReport
  rw [if_neg e1, if_neg e1]
  by_cases e2 : r 0 = 2
  · rw [if_pos e2, if_pos e2]; rfl
  rw [if_neg e2, if_neg e2]
  by_cases e3 : r 0 = 3
  · rw [if_pos e3, if_pos e3]; exact f_gotCancel
  rw [if_neg e3, if_neg e3]; rfl
theorem mGot_B {i : Nat} : mGot a0 i D = mGotB a0 (gR D.2.2.1 i) (mF1 i D) := rfl
theorem mGot_C {i : Nat} : mF1 i (mGotB a0 (gR D.2.2.1 i) D) = mGot a0 i D ∧ (mGotB a0 (gR D.2.2.1 i) D).2.2.1 = D.2.2.1 := by
  have e1 : mGot a0 i D = sFl (D.2.2.1.eraseIdx i) (mGotB a0 (gR D.2.2.1 i) D) := mGot_B.trans (f_gotB (L := D.2.2.1.eraseIdx i) (D := D))
  have e2 : mGotB a0 (gR D.2.2.1 i) D = sFl D.2.2.1 (mGotB a0 (gR D.2.2.1 i) D) := f_gotB (L := D.2.2.1) (D := D)
  have e4 := congrArg (fun z : Dy => z.2.2.1) e2
  have e3 : (mGotB a0 (gR D.2.2.1 i) D).2.2.1 = D.2.2.1 := e4
  refine ⟨?_, e3⟩
  rw [e1]
  show sFl ((mGotB a0 (gR D.2.2.1 i) D).2.2.1.eraseIdx i) _ = _
  rw [e3]
end QFL
end QCL
