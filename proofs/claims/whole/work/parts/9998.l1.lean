/-! the law's loop: a case -/
theorem bz (p : Prop) [Decidable p] : -2147483648 ≤ (if p then (0 : Int) else 1) ∧ (if p then (0 : Int) else 1) ≤ 2147483647 := by split <;> decide
section QSAM2
variable {l : Launch} {G : GT} {y : MethodName} {cc : ByteArray} {t : Tab} {nL : Nat} {ret : Option FieldType} {d mc ms : Nat} {Qp : Option AV → Wo → Prop} {g : gF}
variable {k n : Nat} {w : Wo} {pc tgt pcE : Nat} {lv : Lo} {st : List AV} {z x off : Int}
theorem Mach.ibool (M : Mach l G y cc t nL ret d mc ms Qp g) (hq : qlk t pc = some (.ifCond .eq off, 3)) (hx : inI x) (ho : (pc : Int) + off = (tgt : Int)) (h1 : prun t 2 (pc + 3) lv st = some (pcE, lv, vi 1 :: st)) (h2 : prun t 1 tgt lv st = some (pcE, lv, vi 0 :: st)) (kk : g k n w pcE lv (vi (if x = 0 then 0 else 1) :: st)) : g k n w pc lv (vi x :: st) :=
  M.if_eq hq hx ho (fun h => M.run 1 h2 (by rw [if_pos h] at kk; exact kk)) (fun h => M.run 2 h1 (by rw [if_neg h] at kk; exact kk))
theorem lg_cmp_same (v : Int64) : lg_cmp v v = iI 0 := by
  unfold lg_cmp
  simp
  rfl
theorem Mach.lcmp_same (M : Mach l G y cc t nL ret d mc ms Qp g) (hq : qlk t pc = some (.lcmp, 1)) (kk : g k n w (pc + 1) lv (vi 0 :: st)) : g k n w pc lv (vl z :: vl z :: st) := by
  obtain ⟨p, e, s, m, args, below, meth, c, A, hx, hb, ht, hml, hr', hlk, hown, hts, hnm, hA, hAB, hB, hK, hSt, rfl⟩ := M
  intro H locs ls hP hD hS hl
  refine W.lcmp hx hb (qdec ht hq) ?_
  rw [lg_cmp_same]
  exact kk H locs ls hP hD hS hl
end QSAM2
theorem PS_all {n : Int} {tl : Nat → Int} {D : Dy} {L : List Dy} (hp : PS n (tl, D, L)) : Tok tl ∧ Dok n D ∧ Jok D ∧ Inv D ∧ D.1 18 ≤ 9999 ∧ Tz tl ∧ (-1 ≤ tl 2 ∧ tl 2 < tl 1) ∧ Sok n tl D ∧ Sdk tl ∧ Lok n L ∧ Tmo D := ⟨hp.1, hp.2.1.1.1, hp.2.1.1.2.2.2.1, hp.2.1.1.2.1, hp.2.1.1.2.2.1, hp.2.2.2.1, hp.2.2.2.2.1, hp.2.1.1, hp.2.2.2.2.2, (PS_TS hp).2.2.2.2, hp.2.1.2⟩
theorem sBlock_0 {x y : Int} {S : TS} (h : 0 ≤ S.1 0) : 0 ≤ (sBlock x y S).1 0 := by
  unfold sBlock
  split
  · show 0 ≤ uN (uN (uN S.1 (12 + (S.1 0).toNat) x) (15 + (S.1 0).toNat) y) 0 (S.1 0 + 1) 0
    rw [uN_s]; omega
  · exact h
theorem sPlay_1 {X : Nat → Int → Option Gn} {sure : Int} {f : Nat → Int} {t : Nat} : ∀ (m k : Nat) {S : TS}, 0 ≤ S.1 0 → (sPlay X sure f t m k S).2.1 1 = S.1 1
  | 0, k, S, h => rfl
  | m + 1, k, S, h => by
    have h0 : 0 ≤ (sPlay1 X sure f (681 * t + 1 + 3 * k) S).2.1 0 := by
      unfold sPlay1
      repeat' split
      · exact sBlock_0 h
      · rw [sOpen_1]; exact h
      · rw [sCancel_1]; exact h
      · rw [sDays_1]; exact h
      · exact h
    have h1 := sPlay1_12 (X := X) (sure := sure) (f := f) (q := 681 * t + 1 + 3 * k) (S := S) h (k := 1) (Or.inl rfl)
    unfold sPlay
    split
    · rw [sPlay_1 m (k + 1) h0]; exact h1
    · exact h1
theorem sSaid_1 {x y : Int} {S : TS} (h4 : 0 ≤ S.1 4) : (sSaid x y S).1 1 = S.1 1 := by
  unfold sSaid
  split
  · show uN S.1 4 0 1 = S.1 1
    exact uN_o (by decide)
  · split
    · show uN (uN (uN S.1 (986 + 2 * (S.1 4).toNat) x) (986 + 2 * (S.1 4).toNat + 1) y) 4 (S.1 4 + 1) 1 = S.1 1
      rw [uN_o (by decide), uN_o (by omega), uN_o (by omega)]
    · rfl
theorem foC_eq {tl t2 : Nat → Int} {x y z : Int} {E : Dy} {b : Nat} : (if foC tl x y z then mTold t2 E b z else -2) = (if (1 ≤ x ∧ x ≤ 60) ∧ (0 ≤ y ∧ y < tl 0) then mTold t2 E b z else -2) := by
  by_cases h : foC tl x y z
  · rw [if_pos h, if_pos ⟨h.1, h.2.1⟩]
  · rw [if_neg h]
    by_cases h2 : (1 ≤ x ∧ x ≤ 60) ∧ (0 ≤ y ∧ y < tl 0)
    · rw [if_pos h2]
      have h3 : ¬ (0 ≤ z ∧ z ≤ 8) := fun q => h ⟨h2.1, h2.2, q⟩
      unfold mTold
      rw [if_neg (by omega), if_neg (by omega), if_neg (by omega), if_neg (by omega), if_neg (by omega), if_neg (by omega), if_neg (by omega), if_neg (by omega), if_neg (by omega)]
    · rw [if_neg h2]
abbrev LVl (sb kb o i : Nat) : Lo := [some (vr sb), some (vr kb), some (vr o), some (vi ((i : Nat) : Int))]
def LSt (l : Launch) (G : GT) (pc : Nat) : Prop := ∀ (nm ds : String) (t0 : Tab) (Qp : Option AV → Wo → Prop) (sz sb Ln : Nat) (xs : Nat → Int32) (g : gF) (kb o : Nat) (n : Int) (wc wm : Wo) (k ns i : Nat),
  MachX l G ⟨RL, nm, ds⟩ cL_law t0 4 (some .boolean) 1312 600000 7302250 Qp sz sb Ln xs g → Ln ≤ 3072 → i + 6 ≤ Ln → (0 ≤ n ∧ n ≤ 600000000) → LI G kb o n wc wm → k + 5 ≤ 600000 → ns + 1881 ≤ 7302250 → kb ≤ gB G →
  (∀ wc' wm' : Wo, LI G kb o (n + 100000) wc' wm' → g (k + 5) (ns + 1881) (wc' ++ wm') 1934 [some (vr sb), some (vr kb), some (vr o), some (vi ((i : Nat) : Int))] []) → g k ns (wc ++ wm) pc [some (vr sb), some (vr kb), some (vr o), some (vi ((i : Nat) : Int))] []
section QLF
variable {G : GT} {kb o : Nat} {n : Int} {tl fx fx2 : Nat → Int} {X : Nat → Int → Option Gn} {D : Dy} {L : List Dy} {tl2 : Nat → Int} {D2 : Dy} {L2 : List Dy} {t : Nat} {u : Nat → Int} {b0 b1 : Nat → Nat → Int} {wc wm wc1 wm1 : Wo}
theorem LI_F {t' : Nat} {u' : Nat → Int} (h : LC G kb o n tl fx fx2 X D L tl2 D2 L2 t u b0 wc wm) (hE : isEn G (kb + 850) (aA kb) (tz (kb + 1)) tl fx X (b0 2) 1 D wc1) (hK : isKr kb fx fx2 L tl2 D2 L2 (b1 3) ((t' : Nat) : Int) (u' 5) (u' 6) wc1) (hM : isT o (aI o) u' tl b1 D L wm1) (e1 : b1 1 = b0 1) (e2 : b1 2 = b0 2) (h3 : ∀ k : Nat, k < 300 → 0 ≤ b1 3 k ∧ b1 3 k < 256) (h4 : u' 4 = ((t' : Nat) : Int)) (ht : t' ≤ 300) (h23 : u' 23 = 0) : LI G kb o (n + 100000) wc1 wm1 := by
  obtain ⟨g1, g2, g3, g4, g5, g6, g7, g8, g9, g10⟩ := h
  refine ⟨tl, fx, fx2, X, D, L, tl2, D2, L2, t', u', b1, PS_mono (by omega) g1, PS_mono (by omega) g2, g3, ?_, hK, hM, ?_, ?_, h3, h4, ht, h23⟩
  · rw [e2]; exact hE
  · unfold Im; rw [e1]; exact g7
  · rw [e2]; exact g8
theorem fo4_b {f : Nat → Int} {q : Nat} {x : Int} (h : ∀ k : Nat, k < 300 → 0 ≤ f k ∧ f k < 256) : ∀ k : Nat, k < 300 → 0 ≤ fo4 f q x k ∧ fo4 f q x k < 256 := by
  have key : ∀ (f : Nat → Int) (j : Nat) (v : Int), (∀ k : Nat, k < 300 → 0 ≤ f k ∧ f k < 256) → ∀ k : Nat, k < 300 → 0 ≤ uN f j (v % 256) k ∧ uN f j (v % 256) k < 256 := fun f j v hf k hk => by
    by_cases e : k = j
    · subst e; rw [uN_s]; omega
    · rw [uN_o e]; exact hf k hk
  exact key _ _ _ (key _ _ _ (key _ _ _ (key _ _ _ h)))
theorem fd5_b {f : Nat → Int} {q : Nat} {x1 x2 x3 x4 x5 : Int} (h : ∀ k : Nat, k < 300 → 0 ≤ f k ∧ f k < 256) : ∀ k : Nat, k < 300 → 0 ≤ fd5 f q x1 x2 x3 x4 x5 k ∧ fd5 f q x1 x2 x3 x4 x5 k < 256 := fo4_b (fo4_b (fo4_b (fo4_b (fo4_b h))))
end QLF
