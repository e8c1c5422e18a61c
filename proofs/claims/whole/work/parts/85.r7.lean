abbrev PF : Type := (Nat → Pr) × (Nat → Pr) × (Nat → Pr) × (Nat → Pr)
/-- what is read with that much open: one, a sum, what is asked, a choice; d: with one more open -/
def pSt (L : List (Int × Int × Int)) (ly : Int) (op : Nat) (d : PF) : PF :=
  (pOne L ly op d.2.1 d.1 d.2.2.2, pBin L 34 35 (pBin L 36 37 (pOne L ly op d.2.1 d.1 d.2.2.2)), pAsk L op (pBin L 34 35 (pBin L 36 37 (pOne L ly op d.2.1 d.1 d.2.2.2))) d.2.2.1,
    pCho L (pBin L 14 14 (pBin L 15 15 (pAsk L op (pBin L 34 35 (pBin L 36 37 (pOne L ly op d.2.1 d.1 d.2.2.2))) d.2.2.1))) (pBin L 34 35 (pBin L 36 37 (pOne L ly op d.2.1 d.1 d.2.2.2))))
def pNo : PF := (fun _ => .inr (0, 0), fun _ => .inr (0, 0), fun _ => .inr (0, 0), fun _ => .inr (0, 0))
def pLv (L : List (Int × Int × Int)) (ly : Int) : Nat → PF
  | 0 => pSt L ly 8 pNo
  | n + 1 => pSt L ly (8 - (n + 1)) (pLv L ly n)
def PCs (l : Launch) (G : GT) (o : Nat) (L : List (Int × Int × Int)) (ly : Int) (b op : Nat) (d : PF) : Prop := PC l G yX3_one cX3_one 5 b o L ly op d.1 ∧ PC l G yX3_sum cX3_sum 4 (b + 2) o L ly op d.2.1 ∧ PC l G yX3_ask cX3_ask 4 (b + 3) o L ly op d.2.2.1 ∧ PC l G yX3_choice cX3_choice 4 (b + 6) o L ly op d.2.2.2
theorem pSt_ok (l : Launch) (G : GT) (o : Nat) (L : List (Int × Int × Int)) (ly : Int) (op b : Nat) (hop : op ≤ 8) (hB : tkB L) (hx51 : ∀ j : Nat, (gTk L j).1 ≠ 51 → j ≤ 300) (hly : 0 ≤ ly ∧ ly ≤ 1) (d : PF) (h : op < 8 → PCs l G o L ly b (op + 1) d) : PCs l G o L ly (b + 7) op (pSt L ly op d) := by
  have h1 := kX3_one l G o L ly op (b + 7) (by omega) (by omega) hB hx51 (by omega) hly hop (b + 2) b (b + 6) (by omega) d.2.1 d.1 d.2.2.2 (fun z => (h z).2.1) (fun z => (h z).1) (fun z => (h z).2.2.2)
  have h2 := kX3_product l G o L ly op (b + 7) (by omega) (by omega) hB hx51 _ h1
  have h3 := kX3_sum l G o L ly op (b + 8) (by omega) (by omega) hB hx51 _ h2
  have h4 := kX3_ask l G o L ly op (b + 10) (by omega) (by omega) hB hx51 (by omega) hop (b + 9) (b + 3) (by omega) _ d.2.2.1 h3 (fun z => (h z).2.2.1)
  have h5 := kX3_both l G o L ly op (b + 10) (by omega) (by omega) hB hx51 _ h4
  have h6 := kX3_either l G o L ly op (b + 11) (by omega) (by omega) hB hx51 _ h5
  have h7 := kX3_choice l G o L ly op (b + 13) (by omega) (by omega) hB hx51 (by omega) (b + 12) (b + 9) (by omega) _ _ h6 h3
  exact ⟨h1, h3, h4, h7⟩
theorem pLv_ok (l : Launch) (G : GT) (o : Nat) (L : List (Int × Int × Int)) (ly : Int) (hB : tkB L) (hx51 : ∀ j : Nat, (gTk L j).1 ≠ 51 → j ≤ 300) (hly : 0 ≤ ly ∧ ly ≤ 1) : ∀ n : Nat, n ≤ 8 → PCs l G o L ly (7 * n + 7) (8 - n) (pLv L ly n)
  | 0, _ => pSt_ok l G o L ly 8 0 (Nat.le_refl _) hB hx51 hly pNo (fun z => absurd z (by decide))
  | n + 1, hn => by
    have h := pLv_ok l G o L ly hB hx51 hly n (by omega)
    have q := pSt_ok l G o L ly (8 - (n + 1)) (7 * n + 7) (by omega) hB hx51 hly (pLv L ly n) (fun _ => by rw [show 8 - (n + 1) + 1 = 8 - n by omega]; exact h)
    rw [show 7 * (n + 1) + 7 = 7 * n + 7 + 7 by omega]
    exact q
/-- the tokens of a text: sorts and numbers are small, the last one is the end -/
theorem tkT_B {b : Nat → Int} {e p : Nat} (hb : ∀ k : Nat, k < 300 → 0 ≤ b k ∧ b k < 256) (he : e ≤ 300) (hp : p < e) : (0 ≤ (tkT b e p).1 ∧ (tkT b e p).1 ≤ 300) ∧ (0 ≤ (tkT b e p).2.1 ∧ (tkT b e p).2.1 ≤ 10000) ∧ 0 ≤ (tkT b e p).2.2 ∧ (tkT b e p).2.2 ≤ 300 := by
  have h1 := tkE_b (b := b) hp
  unfold tkT
  split
  · have h2 := wdM_b (b := b) (p := p) (q := tkE b e p)
    exact ⟨h2, ⟨Int.le_refl 0, by show (0 : Int) ≤ 10000; decide⟩, by show 0 ≤ ((p : Nat) : Int); omega, by show ((p : Nat) : Int) ≤ 300; omega⟩
  · rename_i n1
    split
    · rename_i n2
      have h2 := fgM_b (b := b) (p := p) (tkE b e p - p) (fun j hj => (tkE_d (e := e) n1 n2 (p + j) (by omega) (by omega)).1)
      exact ⟨⟨by show (0 : Int) ≤ 50; decide, by show (50 : Int) ≤ 300; decide⟩, h2, by show 0 ≤ ((p : Nat) : Int); omega, by show ((p : Nat) : Int) ≤ 300; omega⟩
    · have h2 := sgM_b (x := b p) (n := ((tkE b e p : Nat) : Int) - ((p : Nat) : Int))
      exact ⟨⟨by show 0 ≤ sgM _ _; omega, by show sgM _ _ ≤ 300; omega⟩, ⟨Int.le_refl 0, by show (0 : Int) ≤ 10000; decide⟩, by show 0 ≤ ((p : Nat) : Int); omega, by show ((p : Nat) : Int) ≤ 300; omega⟩
theorem gTk_0 {x : Int × Int × Int} {L : List (Int × Int × Int)} : gTk (x :: L) 0 = x := rfl
theorem gTk_s {x : Int × Int × Int} {L : List (Int × Int × Int)} {j : Nat} : gTk (x :: L) (j + 1) = gTk L j := rfl
theorem cutM_B {b : Nat → Int} {e : Nat} (hb : ∀ k : Nat, k < 300 → 0 ≤ b k ∧ b k < 256) (he : e ≤ 300) : ∀ (k p nx : Nat), k + p = e → tkB (cutM b e k p nx)
  | 0, p, nx, _, 0 => ⟨⟨by show (0 : Int) ≤ 51; decide, by show (51 : Int) ≤ 300; decide⟩, ⟨Int.le_refl 0, by show (0 : Int) ≤ 10000; decide⟩, by show 0 ≤ ((e : Nat) : Int); omega, by show ((e : Nat) : Int) ≤ 300; omega⟩
  | 0, p, nx, _, j + 1 => ⟨⟨by show (0 : Int) ≤ 51; decide, by show (51 : Int) ≤ 300; decide⟩, ⟨Int.le_refl 0, by show (0 : Int) ≤ 10000; decide⟩, Int.le_refl 0, by show (0 : Int) ≤ 300; decide⟩
  | k + 1, p, nx, h, j => by
    unfold cutM
    split
    · exact cutM_B hb he k (p + 1) nx (by omega) j
    · cases j with
      | zero => exact tkT_B hb he (by omega)
      | succ j => exact cutM_B hb he k (p + 1) (tkE b e p) (by omega) j
theorem tkL_B {b : Nat → Int} {e : Nat} (hb : ∀ k : Nat, k < 300 → 0 ≤ b k ∧ b k < 256) (he : e ≤ 300) : tkB (tkL b e) := cutM_B hb he e 0 0 (by omega)
theorem tkL_51 {b : Nat → Int} {e : Nat} (he : e ≤ 300) (j : Nat) (h : (gTk (tkL b e) j).1 ≠ 51) : j ≤ 300 := by
  have h1 := cutM_len (b := b) (e := e) e 0 0
  rcases Nat.lt_or_ge 300 j with a | a
  · exact absurd (congrArg (fun x : Int × Int × Int => x.1) (gTk_o (L := tkL b e) (by show (cutM b e e 0 0).length ≤ j; omega))) h
  · exact a

