/-! the reference reads by a pile: its steps, and that they come to what is read part by part -/
def rkO (o : Int) : Int := if 40 ≤ o then 0 else if o = 22 then 1 else if o = 21 then 2 else if o = 20 then 3 else if 10 ≤ o then 4 else if 8 ≤ o then 6 else if 6 ≤ o then 5 else 7
/-- what is settled: the pile, how much is open, what is written -/
abbrev St3 : Type := List Int × Int × List (Int × Int)
def sTL (r : Int) : List Int → Int → List (Int × Int) → St3
  | [], op, C => ([], op, C)
  | o :: P, op, C => if r ≤ rkO o then sTL r P (if rkO o = 7 ∨ o = 20 then op - 1 else op) (C ++ [(o, 0)]) else (o :: P, op, C)
def opnw : List Int → Int
  | [] => -1
  | o :: P => if 40 ≤ o then o else opnw P
def isCm : List Int → Bool
  | [] => false
  | o :: P => if 4 < rkO o then isCm P else decide (rkO o = 4)
def askA (P : List Int) : Bool := decide (opnw P = 41) && (match P with
  | [] => false
  | o :: _ => decide (40 ≤ o) || (decide (1 ≤ rkO o) && decide (rkO o ≤ 3)))
def cmpO (s : Int) : Int := if s = 30 then 10 else if s = 41 then 11 else if s = 31 then 12 else if s = 42 then 13 else if s = 32 then 14 else if s = 33 then 15 else -1
def betM (P : List Int) (s : Int) : Int := if s = 34 then 6 else if s = 35 then 7 else if s = 36 then 8 else if s = 37 then 9 else if ¬ opnw P = 41 then -1 else if isCm P = false then cmpO s else if s = 15 then 21 else if s = 14 then 22 else -1
def prtM (P : List Int) (s : Int) : Int := if opnw P = 40 then (if s = 39 then 0 else -1) else if opnw P = 41 then (if s = 11 ∧ isCm P = true then 42 else -1) else if opnw P = 42 then (if s = 12 then 43 else -1) else if opnw P = 43 then (if s = 13 then 0 else -1) else -1
abbrev MS : Type := List Int × Int × Bool × List (Int × Int) × Nat
abbrev MR : Type := (List (Int × Int) × Nat) ⊕ (Int × Nat)
def mkS (t : St3) (b : Bool) (k : Nat) : MS := (t.1, t.2.1, b, t.2.2, k)
def opnM (o : Int) (P : List Int) (op : Int) (C : List (Int × Int)) (j : Nat) : MS ⊕ MR := if op = 8 then .inr (.inr (3, j)) else .inl (o :: P, op + 1, false, C, j + 1)
def begM (L : List (Int × Int × Int)) (ly : Int) (P : List Int) (op : Int) (C : List (Int × Int)) (j : Nat) : MS ⊕ MR :=
  if (gTk L j).1 = 50 ∧ 9999 < (gTk L j).2.1 then .inr (.inr (2, j))
  else if (17 ≤ (gTk L j).1 ∧ (gTk L j).1 ≤ 23) ∧ (gTk L j).1 = (if ly = 0 then 23 else 22) then .inr (.inr (5, j))
  else if (gTk L j).1 = 50 ∨ (17 ≤ (gTk L j).1 ∧ (gTk L j).1 ≤ 23) then .inl (mkS (sTL 7 P op (C ++ [toR ((gTk L j).1, (gTk L j).2.1)])) true (j + 1))
  else if (gTk L j).1 = 38 then opnM 40 P op C j else if (gTk L j).1 = 35 then opnM 5 P op C j else if (gTk L j).1 = 8 then opnM 2 P op C j else if (gTk L j).1 = 9 then opnM 4 P op C j else if (gTk L j).1 = 10 then opnM 41 P op C j
  else if (gTk L j).1 = 16 ∧ askA P = true then opnM 20 P op C j else .inr (.inr (1, j))
/-- a sign or word between two -/
def btwS (o : Int) (t : St3) (j : Nat) : MS := (o :: t.1, t.2.1, false, t.2.2, j + 1)
def prtS (o : Int) (t : St3) (j : Nat) : MS := (o :: t.1.tail, t.2.1, false, t.2.2, j + 1)
def shtS (b : Bool) (t : St3) (j : Nat) : MS := mkS (sTL 7 t.1.tail (t.2.1 - 1) (if b = true then t.2.2 ++ [(3, 0)] else t.2.2)) true (j + 1)
def behM (L : List (Int × Int × Int)) (P : List Int) (op : Int) (C : List (Int × Int)) (j : Nat) : MS ⊕ MR :=
  if 0 ≤ betM P (gTk L j).1 then .inl (btwS (betM P (gTk L j).1) (sTL (if rkO (betM P (gTk L j).1) = 4 then 5 else rkO (betM P (gTk L j).1)) P op C) j)
  else if prtM P (gTk L j).1 < 0 then (if 0 ≤ opnw P then .inr (.inr (1, j)) else .inr (.inl ((sTL 1 P op C).2.2, j)))
  else if 0 < prtM P (gTk L j).1 then .inl (prtS (prtM P (gTk L j).1) (sTL 1 P op C) j)
  else .inl (shtS (decide (opnw P = 43)) (sTL 1 P op C) j)
def stpM (L : List (Int × Int × Int)) (ly : Int) (S : MS) : MS ⊕ MR := if S.2.2.1 = true then behM L S.1 S.2.1 S.2.2.2.1 S.2.2.2.2 else begM L ly S.1 S.2.1 S.2.2.2.1 S.2.2.2.2
def runM (L : List (Int × Int × Int)) (ly : Int) : Nat → MS → Option MR
  | 0, _ => none
  | n + 1, S => match stpM L ly S with
    | .inl S2 => runM L ly n S2
    | .inr r => some r
def evM (L : List (Int × Int × Int)) (ly : Int) (S : MS) (r : MR) : Prop := ∃ n : Nat, runM L ly n S = some r
section QST
variable {r r2 op : Int} {P : List Int} {C : List (Int × Int)} {o : Int}
def frs (r : Int) : List Int → Prop
  | [] => True
  | o :: _ => rkO o < r
theorem sTL_f (h : frs r P) : sTL r P op C = (P, op, C) := by
  cases P with
  | nil => rfl
  | cons o P => exact if_neg (by have q : rkO o < r := h; omega)
theorem sTL_p (h : r ≤ rkO o) : sTL r (o :: P) op C = sTL r P (if rkO o = 7 ∨ o = 20 then op - 1 else op) (C ++ [(o, 0)]) := if_pos h
theorem sTL_s (h : r ≤ r2) : ∀ (P : List Int) (op : Int) (C : List (Int × Int)), sTL r (sTL r2 P op C).1 (sTL r2 P op C).2.1 (sTL r2 P op C).2.2 = sTL r P op C
  | [], op, C => rfl
  | o :: P, op, C => by
    by_cases q : r2 ≤ rkO o
    · rw [sTL_p q, sTL_p (show r ≤ rkO o by omega)]
      exact sTL_s h P _ _
    · rw [show sTL r2 (o :: P) op C = (o :: P, op, C) from if_neg q]
theorem sTL_o (h : 1 ≤ r) : ∀ (P : List Int) (op : Int) (C : List (Int × Int)), opnw (sTL r P op C).1 = opnw P
  | [], op, C => rfl
  | o :: P, op, C => by
    by_cases q : r ≤ rkO o
    · rw [sTL_p q, sTL_o h P]
      have h4 : ¬ 40 ≤ o := fun z => by
        have e : rkO o = 0 := if_pos z
        omega
      exact (if_neg h4).symm
    · rw [show sTL r (o :: P) op C = (o :: P, op, C) from if_neg q]
theorem sTL_c : ∀ (P : List Int) (op : Int) (C : List (Int × Int)), isCm (sTL 5 P op C).1 = isCm P
  | [], op, C => rfl
  | o :: P, op, C => by
    by_cases q : 5 ≤ rkO o
    · rw [sTL_p q, sTL_c P]
      exact (if_pos (show 4 < rkO o by omega)).symm
    · rw [show sTL 5 (o :: P) op C = (o :: P, op, C) from if_neg q]
theorem frs_m {r r2 : Int} (h : r ≤ r2) {P : List Int} (q : frs r P) : frs r2 P := by
  cases P with
  | nil => trivial
  | cons o P => have z : rkO o < r := q; show rkO o < r2; omega
end QST
section QEV
variable {L : List (Int × Int × Int)} {ly : Int} {S S2 : MS} {r : MR}
theorem evM_s (h : stpM L ly S = .inl S2) (h2 : evM L ly S2 r) : evM L ly S r := by
  obtain ⟨n, q⟩ := h2
  refine ⟨n + 1, ?_⟩
  show (match stpM L ly S with | .inl S2 => runM L ly n S2 | .inr r => some r) = _
  rw [h]
  exact q
theorem evM_e (h : stpM L ly S = .inr r) : evM L ly S r := by
  refine ⟨1, ?_⟩
  show (match stpM L ly S with | .inl S2 => runM L ly 0 S2 | .inr r => some r) = _
  rw [h]
end QEV
/-- the reference's orders of what is read -/
def post (e : Ex) : List (Int × Int) := e.2.2.map toR
theorem post_lf {o v : Int} : post (lfE o v) = [toR (o, v)] := rfl
theorem post_un {o : Int} {a : Ex} : post (unE o a) = post a ++ [toR (o, 0)] := by
  show (a.2.2 ++ [(o, 0)]).map toR = _
  rw [List.map_append]; rfl
theorem post_bi {o : Int} {a c : Ex} : post (biE o a c) = post a ++ (post c ++ [toR (o, 0)]) := by
  show (a.2.2 ++ (c.2.2 ++ [(o, 0)])).map toR = _
  rw [List.map_append, List.map_append]; rfl
theorem post_se {c x y : Ex} : post (seE c x y) = post c ++ (post x ++ (post y ++ [(3, 0)])) := by
  show (c.2.2 ++ (x.2.2 ++ (y.2.2 ++ [(62, 0)]))).map toR = _
  rw [List.map_append, List.map_append, List.map_append]; rfl
/-- what is read takes at least one token, and none behind the end -/
def PG (f : Nat → Pr) : Prop := ∀ (j : Nat) (e : Ex) (k : Nat), f j = .inl (e, k) → j < k ∧ k ≤ 301
/-- what it does not stop at -/
def XP (L : List (Int × Int × Int)) (X : Int → Prop) (f : Nat → Pr) : Prop := ∀ (j : Nat) (e : Ex) (k : Nat), f j = .inl (e, k) → X (gTk L k).1
section QPG
variable {L : List (Int × Int × Int)}
theorem pLoop_G {a b : Int} {f : Nat → Pr} (hf : PG f) : ∀ (n : Nat) (e0 : Ex) (j : Nat) (e : Ex) (k : Nat), j ≤ 301 → pLoop L a b f n e0 j = .inl (e, k) → j ≤ k ∧ k ≤ 301
  | 0, e0, j, e, k, _, h => by unfold pLoop at h; cases h
  | n + 1, e0, j, e, k, hj, h => by
    unfold pLoop at h
    split at h
    · split at h
      · rename_i e2 k2 h2
        have q := hf _ _ _ h2
        have q2 := pLoop_G hf n _ k2 e k q.2 h
        omega
      · cases h
    · cases h
      omega
theorem pBin_G {a b : Int} {f : Nat → Pr} (hf : PG f) : PG (pBin L a b f) := by
  intro j e k h
  unfold pBin at h
  split at h
  · rename_i e2 k2 h2
    have q := hf _ _ _ h2
    have q2 := pLoop_G hf 301 e2 k2 e k q.2 h
    omega
  · cases h
theorem pLoop_X {a b : Int} {f : Nat → Pr} {X : Int → Prop} (hf : XP L X f) : ∀ (n : Nat) (e0 : Ex) (j : Nat) (e : Ex) (k : Nat), X (gTk L j).1 → pLoop L a b f n e0 j = .inl (e, k) → X (gTk L k).1 ∧ ¬ ((gTk L k).1 = a ∨ (gTk L k).1 = b)
  | 0, e0, j, e, k, _, h => by unfold pLoop at h; cases h
  | n + 1, e0, j, e, k, hj, h => by
    unfold pLoop at h
    split at h
    · split at h
      · rename_i e2 k2 h2
        exact pLoop_X hf n _ k2 e k (hf _ _ _ h2) h
      · cases h
    · rename_i hn
      cases h
      exact ⟨hj, hn⟩
theorem pBin_X {a b : Int} {f : Nat → Pr} {X : Int → Prop} (hf : XP L X f) : XP L (fun s => X s ∧ ¬ (s = a ∨ s = b)) (pBin L a b f) := by
  intro j e k h
  unfold pBin at h
  split at h
  · rename_i e2 k2 h2
    exact pLoop_X hf 301 e2 k2 e k (hf _ _ _ h2) h
  · cases h
theorem pOne_G {ly : Int} {op : Nat} {fs fo fe : Nat → Pr} (hx51 : ∀ j : Nat, (gTk L j).1 ≠ 51 → j ≤ 300) (hs : PG fs) (ho : PG fo) (he : PG fe) : PG (pOne L ly op fs fo fe) := by
  intro j e k h
  unfold pOne at h
  split at h
  · cases h
  split at h
  · have hj := hx51 j (by omega)
    by_cases hne : (gTk L j).1 = (if ly = 0 then 23 else 22)
    · rw [if_pos hne] at h
      cases h
    · rw [if_neg hne] at h
      cases h
      omega
  split at h
  · have hj := hx51 j (by omega)
    split at h
    · cases h
      omega
    · cases h
  split at h
  · split at h
    · rename_i e2 k2 h2
      split at h
      · have q := hs _ _ _ h2
        have hj := hx51 k2 (by omega)
        cases h
        omega
      · cases h
    · cases h
  split at h
  · split at h
    · rename_i e2 k2 h2
      have q := ho _ _ _ h2
      cases h
      omega
    · cases h
  split at h
  · split at h
    · rename_i e2 k2 h2
      have q := ho _ _ _ h2
      cases h
      omega
    · cases h
  split at h
  · have q := he _ _ _ h
    omega
  · cases h
theorem pAsk_G {op : Nat} {fs fa : Nat → Pr} (hs : PG fs) (ha : PG fa) : PG (pAsk L op fs fa) := by
  intro j e k h
  unfold pAsk at h
  split at h
  · split at h
    · split at h
      · rename_i e2 k2 h2
        have q := ha _ _ _ h2
        cases h
        omega
      · cases h
    · cases h
  · split at h
    · rename_i e2 k2 h2
      split at h
      · split at h
        · rename_i e3 k3 h3
          have q := hs _ _ _ h2
          have q2 := hs _ _ _ h3
          cases h
          omega
        · cases h
      · cases h
    · cases h
theorem pCho_G {fe fs : Nat → Pr} (hx51 : ∀ j : Nat, (gTk L j).1 ≠ 51 → j ≤ 300) (he : PG fe) (hs : PG fs) : PG (pCho L fe fs) := by
  intro j e k h
  unfold pCho at h
  split at h
  · cases h
  · rename_i c k1 h1
    split at h
    · split at h
      · cases h
      · rename_i x k2 h2
        split at h
        · split at h
          · cases h
          · rename_i z k3 h3
            split at h
            · have q1 := he _ _ _ h1
              have q2 := hs _ _ _ h2
              have q3 := hs _ _ _ h3
              have q4 := hx51 k3 (by omega)
              cases h
              omega
            · cases h
        · cases h
    · cases h
end QPG
