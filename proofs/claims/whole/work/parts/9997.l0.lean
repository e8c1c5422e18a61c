/-! the law's loop: what stands between two calls -/
theorem i32b (v : Int32) : -2147483648 ≤ v.toInt ∧ v.toInt ≤ 2147483647 := ⟨Int.le_trans (by decide) (Int32.le_toInt v), Int.le_of_lt_add_one (Int.lt_of_lt_of_le (Int32.toInt_lt v) (by decide))⟩
section QSAME
variable {l : Launch} {G : GT} {y : MethodName} {cc : ByteArray} {t : Tab} {nL : Nat} {ret : Option FieldType} {d mc ms : Nat} {Qp : Option AV → Wo → Prop} {g : gF}
variable {k n : Nat} {w : Wo} {pc tgt : Nat} {lv : Lo} {st : List AV} {z off : Int}
theorem Mach.icmp_same (M : Mach l G y cc t nL ret d mc ms Qp g) (hq : qlk t pc = some (.if_icmp .eq off, 3)) (ho : (pc : Int) + off = (tgt : Int)) (kt : g k n w tgt lv st) : g k n w pc lv (vi z :: vi z :: st) := by
  obtain ⟨p, e, s, m, args, below, meth, c, A, hx, hb, ht, hml, hr', hlk, hown, hts, hnm, hA, hAB, hB, hK, hSt, rfl⟩ := M
  intro H locs ls hP hD hS hl
  exact lv_icmp_eq hx hb (qdec ht hq) ho (fun q => kt H locs ls hP hD hS hl) (fun q => absurd rfl q)
theorem lp_z {x : Int} (h : x = -1) : x = -1 := h
end QSAME
def LC (G : GT) (kb o : Nat) (n : Int) (tl fx fx2 : Nat → Int) (X : Nat → Int → Option Gn) (D : Dy) (L : List Dy) (tl2 : Nat → Int) (D2 : Dy) (L2 : List Dy) (t : Nat) (u : Nat → Int) (b0 : Nat → Nat → Int) (wc wm : Wo) : Prop :=
  PS n (tl, D, L) ∧ PS n (tl2, D2, L2) ∧ tl2 1 ≤ tl 1 ∧ isEn G (kb + 850) (aA kb) (tz (kb + 1)) tl fx X (b0 2) 1 D wc ∧ isKr kb fx fx2 L tl2 D2 L2 (b0 3) ((t : Nat) : Int) (u 5) (u 6) wc ∧ isT o (aI o) u tl b0 D L wm ∧ Im b0 tl2 D2 L2 ∧ TxOk (b0 2) X (tl 1) ∧ (∀ k : Nat, k < 300 → 0 ≤ b0 3 k ∧ b0 3 k < 256) ∧ u 4 = ((t : Nat) : Int) ∧ t ≤ 300 ∧ u 23 = 0
def LI (G : GT) (kb o : Nat) (n : Int) (wc wm : Wo) : Prop := ∃ tl fx fx2 X D L tl2 D2 L2 t u b0, LC G kb o n tl fx fx2 X D L tl2 D2 L2 t u b0 wc wm
section QLI
variable {l : Launch} {G : GT} {kb o : Nat} {n : Int} {tl fx fx2 : Nat → Int} {X : Nat → Int → Option Gn} {D : Dy} {L : List Dy} {tl2 : Nat → Int} {D2 : Dy} {L2 : List Dy} {t : Nat} {u : Nat → Int} {b0 b1 : Nat → Nat → Int} {wc wm wc1 wm1 : Wo}
theorem LI_A (h : LC G kb o n tl fx fx2 X D L tl2 D2 L2 t u b0 wc wm) : LI G kb o (n + 100000) wc wm := by
  obtain ⟨h1, h2, h3⟩ := h
  exact ⟨tl, fx, fx2, X, D, L, tl2, D2, L2, t, u, b0, PS_mono (by omega) h1, PS_mono (by omega) h2, h3⟩
theorem LI_B (h : LC G kb o n tl fx fx2 X D L tl2 D2 L2 t u b0 wc wm) (hE : isEn G (kb + 850) (aA kb) (tz (kb + 1)) tl fx X (b0 2) 1 D wc1) (hK : isKr kb fx fx2 L tl2 D2 L2 (b0 3) ((t : Nat) : Int) (u 5) (u 6) wc1) (hM : isT o (aI o) u tl b1 D L wm1) (hb : ∀ k : Nat, k ≠ 24 → b1 k = b0 k) : LI G kb o (n + 100000) wc1 wm1 := by
  obtain ⟨h1, h2, h3, h4, h5, h6, h7, h8, h9, h10⟩ := h
  have e1 := hb 1 (by decide)
  have e2 := hb 2 (by decide)
  have e3 := hb 3 (by decide)
  refine ⟨tl, fx, fx2, X, D, L, tl2, D2, L2, t, u, b1, PS_mono (by omega) h1, PS_mono (by omega) h2, h3, ?_, ?_, hM, ?_, ?_, ?_, h10⟩
  · rw [e2]; exact hE
  · rw [e3]; exact hK
  · unfold Im; rw [e1]; exact h7
  · rw [e2]; exact h8
  · rw [e3]; exact h9
theorem LI_C (S : TS) (h : LC G kb o n tl fx fx2 X D L tl2 D2 L2 t u b0 wc wm) (hP : PS (n + 100000) S) (h1 : S.1 1 = tl 1) (hK : isK G kb fx fx2 X (b0 2) S tl2 D2 L2 (b0 3) ((t : Nat) : Int) (u 5) (u 6) wc1) (hM : isTS o (aI o) u b0 S wm1) : LI G kb o (n + 100000) wc1 wm1 := by
  obtain ⟨g1, g2, g3, g4, g5, g6, g7, g8, g9, g10⟩ := h
  exact ⟨S.1, fx, fx2, X, S.2.1, S.2.2, tl2, D2, L2, t, u, b0, hP, PS_mono (by omega) g2, by rw [h1]; exact g3, hK.1, hK.2, hM, g7, by rw [h1]; exact g8, g9, g10⟩
theorem isT_in {w : Wo} (h : isT o (aI o) u tl b0 D L w) : ∃ c, lk w o = some (Ob 10 c) := by
  obtain ⟨a0, ⟨a, b, hM, h2⟩, h3⟩ := h
  exact ⟨_, isM_o hM⟩
end QLI
set_option maxHeartbeats 4000000 in
theorem vX11_feed (l : Launch) (G : GT) (o : Nat) (am : Nat → Nat) (u tl : Nat → Int) (b0 : Nat → Nat → Int) (D : Dy) (L : List Dy) (x1 x2 x3 x4 x5 : Int) (hx1 : -2147483648 ≤ x1 ∧ x1 ≤ 2147483647) (hx2 : -2147483648 ≤ x2 ∧ x2 ≤ 2147483647) (hx3 : -2147483648 ≤ x3 ∧ x3 ≤ 2147483647) (hx4 : -2147483648 ≤ x4 ∧ x4 ≤ 2147483647) (hx5 : -2147483648 ≤ x5 ∧ x5 ≤ 2147483647) (t : Nat) (hu4 : u 4 = ((t : Nat) : Int)) (ht : t ≤ 300) : Ctr l G yX11_feed cX11_feed 6 ((Option.some Jvm.ClassFile.FieldType.int)) 2 0 0 [vr o, vi x1, vi x2, vi x3, vi x4, vi x5] (fun w => isT o am u tl b0 D L w) (fun w r w' => r = some (vi (if t + 20 ≤ 300 then ((t + 20 : Nat) : Int) else -1)) ∧ isT o am (if t + 20 ≤ 300 then uN u 4 ((t + 20 : Nat) : Int) else u) tl (if t + 20 ≤ 300 then uB b0 3 (fd5 (b0 3) t x1 x2 x3 x4 x5) else b0) D L w') := by
  refine liftK (fun a0 a b h1 h2 h3 h4 h5 => kX11_feed l G o am u a b x1 x2 x3 x4 x5 hx1 hx2 hx3 hx4 hx5 t hu4 ht) (fun a0 a b w r w' h1 h2 h3 h4 h5 q => ?_)
  obtain ⟨q1, q2⟩ := q
  refine ⟨q1, a0, ⟨a, _, q2, h3, h4, ?_⟩, h1, h2⟩
  have e3 := h5 3 (by decide) (by decide) (by decide)
  split
  · intro k k1 k2 k3
    unfold uB
    split
    · rw [e3]
    · exact h5 k k1 k2 k3
  · exact h5
theorem vX11_end (l : Launch) (G : GT) (o : Nat) (am : Nat → Nat) (u tl : Nat → Int) (b0 : Nat → Nat → Int) (D : Dy) (L : List Dy) (x : Int) (hx : -2147483648 ≤ x ∧ x ≤ 2147483647) (t : Nat) (hu4 : u 4 = ((t : Nat) : Int)) (ht : t ≤ 300) : Ctr l G yX11_end cX11_end 2 ((Option.some Jvm.ClassFile.FieldType.int)) 2 0 0 [vr o, vi x] (fun w => isT o am u tl b0 D L w) (fun w r w' => r = some (vi (if 0 ≤ x ∧ x ≤ ((t : Nat) : Int) then x else -1)) ∧ isT o am (if 0 ≤ x ∧ x ≤ ((t : Nat) : Int) then uN u 4 x else u) tl b0 D L w') := by
  refine liftK (fun a0 a b h1 h2 h3 h4 h5 => kX11_end l G o am u a b x hx t hu4 ht) (fun a0 a b w r w' h1 h2 h3 h4 h5 q => ?_)
  exact ⟨q.1, a0, ⟨a, b, q.2, h3, h4, h5⟩, h1, h2⟩
/-- a text is taken, at the level of what is told -/
def QT3 (o : Nat) (am : Nat → Nat) (u tl : Nat → Int) (b0 : Nat → Nat → Int) (D : Dy) (L : List Dy) (Lt : List (Int × Int × Int)) (r : Option AV) (w' : Wo) : Rr → Prop
  | .inl (s, _) => r = some (vi (tl 1)) ∧ ∃ (v : Nat → Int) (e : Nat → Nat → Int) (C : List (Int × Int)), isT o am v (uN tl 1 (tl 1 + 1)) e D L w' ∧ (v 4 = 0 ∧ v 5 = 0 ∧ v 6 = -1 ∧ v 23 = u 23) ∧ (∀ k : Nat, k = 1 ∨ k = 3 → e k = b0 k) ∧ (∀ i : Nat, (i < 681 * (tl 1).toNat ∨ 681 * (tl 1).toNat + 681 ≤ i) → e 2 i = b0 2 i) ∧ rTs (681 * (tl 1).toNat) (e 2) C s ∧ rCl C (681 * (tl 1).toNat + 73) (e 2) ∧ C.length ≤ 301
  | .inr (f, k) => r = some (vi (-1)) ∧ ∃ (v : Nat → Int) (e : Nat → Nat → Int), isT o am v tl e D L w' ∧ (v 4 = 0 ∧ v 5 = f ∧ v 6 = (gTk Lt k).2.2 ∧ v 23 = u 23) ∧ (∀ k : Nat, k = 1 ∨ k = 3 → e k = b0 k) ∧ ∀ i : Nat, (i < 681 * (tl 1).toNat ∨ 681 * (tl 1).toNat + 681 ≤ i) → e 2 i = b0 2 i
set_option maxHeartbeats 4000000 in
theorem vX11_text (l : Launch) (G : GT) (o : Nat) (am : Nat → Nat) (u tl : Nat → Int) (b0 : Nat → Nat → Int) (D : Dy) (L : List Dy) (n : Int) (hd : Dok n D) (hT : Tok tl) (t : Nat) (hb : ∀ k : Nat, k < 300 → 0 ≤ b0 3 k ∧ b0 3 k < 256) (h4 : u 4 = ((t : Nat) : Int)) (ht : t ≤ 300) : Ctr l G yX11_text cX11_text 1 ((Option.some Jvm.ClassFile.FieldType.int)) 14 0 0 [vr o] (fun w => isT o am u tl b0 D L w) (fun w r w' => if tl 1 = 4 then r = some (vi (-1)) ∧ w' = w else QT3 o am u tl b0 D L (tkL (b0 3) t) r w' (pRea (tkL (b0 3) t) 25 ([], none, none) 0)) := by
  have h1b : 0 ≤ tl 1 ∧ tl 1 ≤ 4 := hT.1 1 (by decide)
  have e1 : tl 1 = (((tl 1).toNat : Nat) : Int) := by omega
  have key : ∀ a0 a b, TE tl a0 → Rg a0 L → Rp a D → Fr a0 a → Fb b0 b → Ctr l G yX11_text cX11_text 1 ((Option.some Jvm.ClassFile.FieldType.int)) 14 0 0 [vr o] (fun w => isM o am u a b w) (fun w r w' => if (tl 1).toNat = 4 then r = some (vi (-1)) ∧ w' = w else QT2 o am u a b (tkL (b0 3) t) (tl 1).toNat r w' (pRea (tkL (b0 3) t) 25 ([], none, none) 0)) := fun a0 a b g1 g2 g3 g4 g5 => by
    have e3 := g5 3 (by decide) (by decide) (by decide)
    have h := kX11_text l G o am u a b t (tl 1).toNat (by rw [e3]; exact hb) h4 ht (by rw [g4 1 (Or.inl (by decide)), g1.1 1 (by decide) (by decide) (by decide)]; exact e1) (by omega)
    rw [e3] at h
    exact h
  refine liftK key (fun a0 a b w r w' g1 g2 g3 g4 g5 q => ?_)
  by_cases c : tl 1 = 4
  · rw [if_pos c]
    rw [if_pos (by omega)] at q
    exact q
  · rw [if_neg c]
    rw [if_neg (by omega)] at q
    have ha : ∀ k : Nat, k < 18 → k ≠ 3 → k ≠ 5 → a k = tl k := fun k k1 k2 k3 => by rw [g4 k (Or.inl k1), g1.1 k k1 k2 k3]
    have ha2 : ∀ k : Nat, 986 ≤ k → k < 1002 → a k = tl k := fun k k1 k2 => by rw [g4 k (Or.inr k1), g1.2 k k1 k2]
    generalize pRea (tkL (b0 3) t) 25 ([], none, none) 0 = R at q ⊢
    rcases R with ⟨s, k⟩ | ⟨f, k⟩
    · obtain ⟨q1, v, e, C, q2, q3, q4, q5, q6⟩ := q
      refine ⟨by rw [q1]; congr 2; omega, v, e, C, isT_up2 (c := uN a 1 (((tl 1).toNat + 1 : Nat) : Int)) (b0 := e) (b := e) hd q2 g3 g4 (fun _ _ _ _ => rfl) g1 g2 (fun k hk => uN_o (by omega)) (fun k k1 k2 k3 => ?_) (fun k k1 k2 => ?_), q3, fun k hk => ?_, fun i hi => ?_, q6⟩
      · by_cases z : k = 1
        · subst z; rw [uN_s, uN_s]; omega
        · rw [uN_o z, uN_o z]; exact ha k k1 k2 k3
      · rw [uN_o (by omega), uN_o (by omega)]; exact ha2 k k1 k2
      · rw [q4 k (by omega) (by omega)]; exact g5 k (by omega) (by omega) (by omega)
      · rw [q5 i hi, g5 2 (by decide) (by decide) (by decide)]
    · obtain ⟨q1, v, e, q2, q3, q3b, q4, q5⟩ := q
      refine ⟨q1, v, e, isT_up2 (c := a) (b0 := e) (b := e) hd q2 g3 g4 (fun _ _ _ _ => rfl) g1 g2 (fun k hk => rfl) ha ha2, q3, fun k hk => ?_, fun i hi => ?_⟩
      · rw [q4 k (by omega) (by omega)]; exact g5 k (by omega) (by omega) (by omega)
      · rw [q5 i hi, g5 2 (by decide) (by decide) (by decide)]
