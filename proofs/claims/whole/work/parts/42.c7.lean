section QAST
variable {l : Launch} {G : GT} {y : MethodName} {cc : ByteArray} {t : Tab} {nL : Nat} {ret : Option FieldType} {d mc ms : Nat} {Qp : Option AV → Wo → Prop} {g : gF}
variable {k n a : Nat} {w : Wo} {pc : Nat} {lv : Lo} {st : List AV}
theorem ast_f (f : Nat → Int) (i : Nat) (z : Int) : va_up (fun k => if f k < 0 then none else some (f k).toNat) i (rfO z) = (fun k => if uN f i z k < 0 then none else some (uN f i z k).toNat) := by
  funext q
  unfold va_up uN rfO
  by_cases e : q = i
  · rw [if_pos e, if_pos e]
  · rw [if_neg e, if_neg e]
theorem Mach.aastQ {T N : Nat} {f : Nat → Int} {C : String} {ci : Nat} {r : vw_C} (i : Nat) (z : Int) (M : Mach l G y cc t nL ret d mc ms Qp g) (hT : (T = 3 ∧ C = "LongCarrier$Text") ∨ (T = 4 ∧ C = "LongCarrier$State")) (hq : qlk t pc = some (.aastore, 1)) (he : lk w a = some (Ar T N f)) (hv : 0 ≤ z → ∃ fs, lk w z.toNat = some (Ob ci fs)) (hc : vwCl[ci]? = some r) (hr : r.1 = C) (h1 : i < N) (hN : N < 2147483648)
    (kk : g k n (up w a (Ar T N (uN f i z))) (pc + 1) lv st) : g k n w pc lv (.inr (.inr (rfO z)) :: vi (i : Int) :: vr a :: st) := by
  obtain ⟨p, e, s, m, args, below, meth, c, A, hx, hb, ht, hml, hr', hlk, hown, hts, hnm, hA, hAB, hB, hK, hSt, rfl⟩ := M
  intro H locs ls hP hD hS hl
  obtain ⟨j, hj⟩ := lk_place he
  have ef := ast_f f i z
  rcases Int.lt_or_le z 0 with hz | hz
  · have e0 : rfO z = none := if_pos hz
    rw [e0] at ef ⊢
    rcases hT with ⟨rfl, rfl⟩ | ⟨rfl, rfl⟩
    · refine va_astqN (f := fun k => if f k < 0 then none else some (f k).toNat) (n := N) hx hb hK hP hD hS j 3 (qm_place hj) rfl (iI_inN h1 hN) (qdec ht hq) (fun H1 locs1 hP1 hD1 hS1 => ?_)
      rw [iI_clN (by omega), ef] at hP1 hD1
      have es : (w.map (qm G)).set j (a, qc G (Ar 3 N (uN f i z))) = (up w a (Ar 3 N (uN f i z))).map (qm G) := up_set hD hj
      exact kk H1 locs1 ls (es ▸ hP1) (es ▸ hD1) hS1 hl
    · refine va_astqN (f := fun k => if f k < 0 then none else some (f k).toNat) (n := N) hx hb hK hP hD hS j 4 (qm_place hj) rfl (iI_inN h1 hN) (qdec ht hq) (fun H1 locs1 hP1 hD1 hS1 => ?_)
      rw [iI_clN (by omega), ef] at hP1 hD1
      have es : (w.map (qm G)).set j (a, qc G (Ar 4 N (uN f i z))) = (up w a (Ar 4 N (uN f i z))).map (qm G) := up_set hD hj
      exact kk H1 locs1 ls (es ▸ hP1) (es ▸ hD1) hS1 hl
  · have e0 : rfO z = some z.toNat := if_neg (by omega)
    obtain ⟨fs, hv⟩ := hv hz
    obtain ⟨q, hq2⟩ := lk_place hv
    rw [e0] at ef ⊢
    rcases hT with ⟨rfl, hC⟩ | ⟨rfl, hC⟩
    · refine va_astq (f := fun k => if f k < 0 then none else some (f k).toNat) (n := N) hx hb hK hP hD hS j 3 q ci (qm_place hj) (by rw [hr, hC]; rfl) (qm_place hq2) hc (iI_inN h1 hN) (qdec ht hq) (fun H1 locs1 hP1 hD1 hS1 => ?_)
      rw [iI_clN (by omega), ef] at hP1 hD1
      have es : (w.map (qm G)).set j (a, qc G (Ar 3 N (uN f i z))) = (up w a (Ar 3 N (uN f i z))).map (qm G) := up_set hD hj
      exact kk H1 locs1 ls (es ▸ hP1) (es ▸ hD1) hS1 hl
    · refine va_astq (f := fun k => if f k < 0 then none else some (f k).toNat) (n := N) hx hb hK hP hD hS j 4 q ci (qm_place hj) (by rw [hr, hC]; rfl) (qm_place hq2) hc (iI_inN h1 hN) (qdec ht hq) (fun H1 locs1 hP1 hD1 hS1 => ?_)
      rw [iI_clN (by omega), ef] at hP1 hD1
      have es : (w.map (qm G)).set j (a, qc G (Ar 4 N (uN f i z))) = (up w a (Ar 4 N (uN f i z))).map (qm G) := up_set hD hj
      exact kk H1 locs1 ls (es ▸ hP1) (es ▸ hD1) hS1 hl
theorem rfO_n (v : Nat) : rfO ((v : Nat) : Int) = some v := if_neg (by omega)
theorem Mach.aastN {T N : Nat} {f : Nat → Int} {C : String} {ci v : Nat} {r : vw_C} {fs : List AV} (i : Nat) (M : Mach l G y cc t nL ret d mc ms Qp g) (hT : (T = 3 ∧ C = "LongCarrier$Text") ∨ (T = 4 ∧ C = "LongCarrier$State")) (hq : qlk t pc = some (.aastore, 1)) (he : lk w a = some (Ar T N f)) (hv : lk w v = some (Ob ci fs)) (hc : vwCl[ci]? = some r) (hr : r.1 = C) (h1 : i < N) (hN : N < 2147483648)
    (kk : g k n (up w a (Ar T N (uN f i ((v : Nat) : Int)))) (pc + 1) lv st) : g k n w pc lv (vr v :: vi (i : Int) :: vr a :: st) := by
  have h := M.aastQ (k := k) (n := n) (lv := lv) (st := st) (ci := ci) (r := r) i ((v : Nat) : Int) hT hq he (fun _ => ⟨fs, hv⟩) hc hr h1 hN kk
  rw [rfO_n] at h
  exact h
end QAST
def toF (T : Nat → Nat) (tl : Nat → Int) : List AV := [vi (tl 0), vr (T 1), vr (T 2), vi (tl 9), vi (tl 10), vi (tl 11), vi (tl 6), vi (tl 7), vi (tl 8), vi (tl 1), vr (T 3), vi (tl 2), vi (tl 4), vr (T 4), vr (T 5)]
theorem toF_c {T : Nat → Nat} {a b : Nat → Int} (h : ∀ k : Nat, k < 12 → a k = b k) : toF T a = toF T b := by
  unfold toF
  rw [h 0 (by decide), h 9 (by decide), h 10 (by decide), h 11 (by decide), h 6 (by decide), h 7 (by decide), h 8 (by decide), h 1 (by decide), h 2 (by decide), h 4 (by decide)]
theorem isTo_mk {T : Nat → Nat} {tl a0 t2 fx gx f1 f2 f4 f5 : Nat → Int} {w w' : Wo} (h : isTo T tl fx w) (hO : lk w' (T 0) = some (Ob 8 (toF T a0))) (e : ∀ k : Nat, k < 12 → a0 k = t2 k) (h1 : lk w' (T 1) = some (Ar 0 3 f1)) (h2 : lk w' (T 2) = some (Ar 0 3 f2)) (h3 : lk w' (T 3) = some (Ar 3 4 gx)) (h4 : lk w' (T 4) = some (Ar 0 8 f4)) (h5 : lk w' (T 5) = some (Ar 0 8 f5))
    (c1 : ∀ i : Nat, i < 3 → f1 i = t2 (12 + i)) (c2 : ∀ i : Nat, i < 3 → f2 i = t2 (15 + i)) (c4 : ∀ i : Nat, i < 8 → f4 i = t2 (986 + 2 * i)) (c5 : ∀ i : Nat, i < 8 → f5 i = t2 (986 + 2 * i + 1)) : isTo T t2 gx w' :=
  ⟨by rw [hO, toF_c e]; rfl, ⟨f1, h1, c1⟩, ⟨f2, h2, c2⟩, h3, ⟨f4, h4, c4⟩, ⟨f5, h5, c5⟩, h.2.2.2.2.2.2⟩

set_option maxHeartbeats 4000000 in
set_option maxRecDepth 100000 in
theorem kX9_addBlock (l : Launch) (G : GT) (T : Nat → Nat) (tl fx : Nat → Int) (hT : Tok tl) (x : Int) (y : Int) (hx : -2147483648 ≤ x ∧ x ≤ 2147483647) (hy : -2147483648 ≤ y ∧ y ≤ 2147483647) : Ctr l G yX9_addBlock cX9_addBlock 3 ((Option.some Jvm.ClassFile.FieldType.int)) 1 0 0 [vr (T 0), vi x, vi y] (fun w => isTo T tl fx w) (fun w r w' => (bkC tl x y → r = some (vi (tl 0)) ∧ isTo T (uN (uN (uN tl (12 + (tl 0).toNat) x) (15 + (tl 0).toNat) y) 0 (tl 0 + 1)) fx w' ∧ FrT T w w') ∧ (¬ bkC tl x y → r = some (vi (-1)) ∧ w' = w)) := by
  refine Ctr.of (t := tX9_addBlock) (lv0 := [some (vr (T 0)), some (vi x), some (vi y)]) (by decide +kernel) tX9_addBlock_ok rfl rfl (fun w g hP M => ?_)
  have hP0 := hP
  obtain ⟨hO, ⟨fl, hl1, hc1⟩, ⟨fd, hl2, hc2⟩, hl3, ⟨fk, hl4, hc4⟩, ⟨fs, hl5, hc5⟩, hij⟩ := hP
  have hk0 : 0 ≤ tl 0 ∧ tl 0 ≤ 3 := hT.1 0 (by decide)
  obtain ⟨c, hc0⟩ : ∃ c : Nat, tl 0 = ((c : Nat) : Int) := ⟨(tl 0).toNat, by omega⟩
  refine M.run 2 (pc' := 2) (lv' := [some (vr (T 0)), some (vi x), some (vi y)]) (st' := [vi 1, vi x]) rfl ?_
  refine M.icmp_lt (tgt := 20) rfl (qI (by omega)) (qI (by decide)) (by decide) (fun h2 => ?_) (fun h2 => ?_)
  · skip
    refine M.run 1 (pc' := 21) (lv' := [some (vr (T 0)), some (vi x), some (vi y)]) (st' := [vi (-1)]) rfl ?_
    exact M.iret rfl (Nat.zero_le _) (Nat.zero_le _) ⟨fun q => absurd q (by omega), fun _ => ⟨rfl, rfl⟩⟩
  · skip
    refine M.run 2 (pc' := 8) (lv' := [some (vr (T 0)), some (vi x), some (vi y)]) (st' := [vi 30, vi x]) rfl ?_
    refine M.icmp_gt (tgt := 20) rfl (qI (by omega)) (qI (by decide)) (by decide) (fun h8 => ?_) (fun h8 => ?_)
    · skip
      refine M.run 1 (pc' := 21) (lv' := [some (vr (T 0)), some (vi x), some (vi y)]) (st' := [vi (-1)]) rfl ?_
      exact M.iret rfl (Nat.zero_le _) (Nat.zero_le _) ⟨fun q => absurd q (by omega), fun _ => ⟨rfl, rfl⟩⟩
    · skip
      refine M.run 1 (pc' := 12) (lv' := [some (vr (T 0)), some (vi x), some (vi y)]) (st' := [vi y]) rfl ?_
      refine M.if_lt (tgt := 20) rfl (qI (by omega)) (by decide) (fun h12 => ?_) (fun h12 => ?_)
      · skip
        refine M.run 1 (pc' := 21) (lv' := [some (vr (T 0)), some (vi x), some (vi y)]) (st' := [vi (-1)]) rfl ?_
        exact M.iret rfl (Nat.zero_le _) (Nat.zero_le _) ⟨fun q => absurd q (by omega), fun _ => ⟨rfl, rfl⟩⟩
      · skip
        refine M.run 2 (pc' := 17) (lv' := [some (vr (T 0)), some (vi x), some (vi y)]) (st' := [vi x, vi y]) rfl ?_
        refine M.icmp_le (tgt := 22) rfl (qI (by omega)) (qI (by omega)) (by decide) (fun h17 => ?_) (fun h17 => ?_)
        · skip
          refine M.run 1 (pc' := 23) (lv' := [some (vr (T 0)), some (vi x), some (vi y)]) (st' := [vr (T 0)]) rfl ?_
          refine M.get fl_X9_52 rfl hO (kf := 0) (v := vi (tl 0)) rfl ?_
          refine M.if_lt (tgt := 53) rfl (qI (by omega)) (by decide) (fun h26 => ?_) (fun h26 => ?_)
          · skip
            omega
          · skip
            refine M.run 1 (pc' := 30) (lv' := [some (vr (T 0)), some (vi x), some (vi y)]) (st' := [vr (T 0)]) rfl ?_
            refine M.get fl_X9_52 rfl hO (kf := 0) (v := vi (tl 0)) rfl ?_
            refine M.run 1 (pc' := 34) (lv' := [some (vr (T 0)), some (vi x), some (vi y)]) (st' := [vr (T 0), vi (tl 0)]) rfl ?_
            refine M.get fl_X9_9 rfl hO (kf := 1) (v := vr (T 1)) rfl ?_
            refine M.alen rfl hl1 (by decide) ?_
            refine M.icmp_ge (tgt := 53) rfl (qI (by omega)) (qI (by omega)) (by decide) (fun h38 => ?_) (fun h38 => ?_)
            · skip
              refine M.run 1 (pc' := 54) (lv' := [some (vr (T 0)), some (vi x), some (vi y)]) (st' := [vi (-1)]) rfl ?_
              exact M.iret rfl (Nat.zero_le _) (Nat.zero_le _) ⟨fun q => absurd q.2.2 (by omega), fun _ => ⟨rfl, rfl⟩⟩
            · skip
              refine M.run 1 (pc' := 42) (lv' := [some (vr (T 0)), some (vi x), some (vi y)]) (st' := [vr (T 0)]) rfl ?_
              refine M.get fl_X9_52 rfl hO (kf := 0) (v := vi (tl 0)) rfl ?_
              refine M.run 1 (pc' := 46) (lv' := [some (vr (T 0)), some (vi x), some (vi y)]) (st' := [vr (T 0), vi (tl 0)]) rfl ?_
              refine M.get fl_X9_15 rfl hO (kf := 2) (v := vr (T 2)) rfl ?_
              refine M.alen rfl hl2 (by decide) ?_
              refine M.icmp_lt (tgt := 55) rfl (qI (by omega)) (qI (by omega)) (by decide) (fun h50 => ?_) (fun h50 => ?_)
              · skip
                refine M.run 1 (pc' := 56) (lv' := [some (vr (T 0)), some (vi x), some (vi y)]) (st' := [vr (T 0)]) rfl ?_
                refine M.get fl_X9_9 rfl hO (kf := 1) (v := vr (T 1)) rfl ?_
                refine M.run 1 (pc' := 60) (lv' := [some (vr (T 0)), some (vi x), some (vi y)]) (st' := [vr (T 0), vr (T 1)]) rfl ?_
                refine M.get fl_X9_52 rfl hO (kf := 0) (v := vi (tl 0)) rfl ?_
                refine M.run 1 (pc' := 64) (lv' := [some (vr (T 0)), some (vi x), some (vi y)]) (st' := [vi x, vi (tl 0), vr (T 1)]) rfl ?_
                rw [show tl 0 = ((c : Nat) : Int) from hc0]
                refine M.iastN (c) rfl hl1 (by omega) (by decide) ?_
                have f2 : lk (up w (T 1) (Ar 0 3 (uN fl c x))) (T 0) = some (Ob 8 [vi (tl 0), vr (T 1), vr (T 2), vi (tl 9), vi (tl 10), vi (tl 11), vi (tl 6), vi (tl 7), vi (tl 8), vi (tl 1), vr (T 3), vi (tl 2), vi (tl 4), vr (T 4), vr (T 5)]) := (lk_up_n (fun e => absurd (hij 0 1 (by decide) (by decide) e) (by decide))).trans hO
                have f3 : lk (up w (T 1) (Ar 0 3 (uN fl c x))) (T 1) = some (Ar 0 3 (uN fl c x)) := lk_up_s hl1
                have f4 : lk (up w (T 1) (Ar 0 3 (uN fl c x))) (T 2) = some (Ar 0 3 fd) := (lk_up_n (fun e => absurd (hij 2 1 (by decide) (by decide) e) (by decide))).trans hl2
                have f5 : lk (up w (T 1) (Ar 0 3 (uN fl c x))) (T 3) = some (Ar 3 4 fx) := (lk_up_n (fun e => absurd (hij 3 1 (by decide) (by decide) e) (by decide))).trans hl3
                have f6 : lk (up w (T 1) (Ar 0 3 (uN fl c x))) (T 4) = some (Ar 0 8 fk) := (lk_up_n (fun e => absurd (hij 4 1 (by decide) (by decide) e) (by decide))).trans hl4
                have f7 : lk (up w (T 1) (Ar 0 3 (uN fl c x))) (T 5) = some (Ar 0 8 fs) := (lk_up_n (fun e => absurd (hij 5 1 (by decide) (by decide) e) (by decide))).trans hl5
                have fr8 : FrT T w (up w (T 1) (Ar 0 3 (uN fl c x))) := FrT.u 1 (by decide) FrT.rf
                generalize up w (T 1) (Ar 0 3 (uN fl c x)) = w1 at f2 f3 f4 f5 f6 f7 fr8 ⊢
                refine M.run 1 (pc' := 66) (lv' := [some (vr (T 0)), some (vi x), some (vi y)]) (st' := [vr (T 0)]) rfl ?_
                refine M.get fl_X9_15 rfl f2 (kf := 2) (v := vr (T 2)) rfl ?_
                refine M.run 1 (pc' := 70) (lv' := [some (vr (T 0)), some (vi x), some (vi y)]) (st' := [vr (T 0), vr (T 2)]) rfl ?_
                refine M.get fl_X9_52 rfl f2 (kf := 0) (v := vi (tl 0)) rfl ?_
                refine M.run 1 (pc' := 74) (lv' := [some (vr (T 0)), some (vi x), some (vi y)]) (st' := [vi y, vi (tl 0), vr (T 2)]) rfl ?_
                rw [show tl 0 = ((c : Nat) : Int) from hc0]
                refine M.iastN (c) rfl f4 (by omega) (by decide) ?_
                have f10 : lk (up w1 (T 2) (Ar 0 3 (uN fd c y))) (T 0) = some (Ob 8 [vi (tl 0), vr (T 1), vr (T 2), vi (tl 9), vi (tl 10), vi (tl 11), vi (tl 6), vi (tl 7), vi (tl 8), vi (tl 1), vr (T 3), vi (tl 2), vi (tl 4), vr (T 4), vr (T 5)]) := (lk_up_n (fun e => absurd (hij 0 2 (by decide) (by decide) e) (by decide))).trans f2
                have f11 : lk (up w1 (T 2) (Ar 0 3 (uN fd c y))) (T 1) = some (Ar 0 3 (uN fl c x)) := (lk_up_n (fun e => absurd (hij 1 2 (by decide) (by decide) e) (by decide))).trans f3
                have f12 : lk (up w1 (T 2) (Ar 0 3 (uN fd c y))) (T 2) = some (Ar 0 3 (uN fd c y)) := lk_up_s f4
                have f13 : lk (up w1 (T 2) (Ar 0 3 (uN fd c y))) (T 3) = some (Ar 3 4 fx) := (lk_up_n (fun e => absurd (hij 3 2 (by decide) (by decide) e) (by decide))).trans f5
                have f14 : lk (up w1 (T 2) (Ar 0 3 (uN fd c y))) (T 4) = some (Ar 0 8 fk) := (lk_up_n (fun e => absurd (hij 4 2 (by decide) (by decide) e) (by decide))).trans f6
                have f15 : lk (up w1 (T 2) (Ar 0 3 (uN fd c y))) (T 5) = some (Ar 0 8 fs) := (lk_up_n (fun e => absurd (hij 5 2 (by decide) (by decide) e) (by decide))).trans f7
                have fr16 : FrT T w (up w1 (T 2) (Ar 0 3 (uN fd c y))) := FrT.u 2 (by decide) fr8
                generalize up w1 (T 2) (Ar 0 3 (uN fd c y)) = w9 at f10 f11 f12 f13 f14 f15 fr16 ⊢
                refine M.run 2 (pc' := 77) (lv' := [some (vr (T 0)), some (vi x), some (vi y)]) (st' := [vr (T 0), vr (T 0)]) rfl ?_
                refine M.get fl_X9_52 rfl f10 (kf := 0) (v := vi (tl 0)) rfl ?_
                refine M.run 2 (pc' := 82) (lv' := [some (vr (T 0)), some (vi x), some (vi y)]) (st' := [vi ((tl 0) + 1), vr (T 0)]) rfl ?_
                refine M.put fl_X9_52 rfl f10 rfl rfl (Nat.le_of_ble_eq_true rfl) ?_
                have f18 : lk (up w9 (T 0) (Ob 8 ([vi (tl 0), vr (T 1), vr (T 2), vi (tl 9), vi (tl 10), vi (tl 11), vi (tl 6), vi (tl 7), vi (tl 8), vi (tl 1), vr (T 3), vi (tl 2), vi (tl 4), vr (T 4), vr (T 5)].set 0 (vi ((tl 0) + 1))))) (T 0) = some (Ob 8 [vi ((tl 0) + 1), vr (T 1), vr (T 2), vi (tl 9), vi (tl 10), vi (tl 11), vi (tl 6), vi (tl 7), vi (tl 8), vi (tl 1), vr (T 3), vi (tl 2), vi (tl 4), vr (T 4), vr (T 5)]) := lk_up_s f10
                have f19 : lk (up w9 (T 0) (Ob 8 ([vi (tl 0), vr (T 1), vr (T 2), vi (tl 9), vi (tl 10), vi (tl 11), vi (tl 6), vi (tl 7), vi (tl 8), vi (tl 1), vr (T 3), vi (tl 2), vi (tl 4), vr (T 4), vr (T 5)].set 0 (vi ((tl 0) + 1))))) (T 1) = some (Ar 0 3 (uN fl c x)) := (lk_up_n (fun e => absurd (hij 1 0 (by decide) (by decide) e) (by decide))).trans f11
                have f20 : lk (up w9 (T 0) (Ob 8 ([vi (tl 0), vr (T 1), vr (T 2), vi (tl 9), vi (tl 10), vi (tl 11), vi (tl 6), vi (tl 7), vi (tl 8), vi (tl 1), vr (T 3), vi (tl 2), vi (tl 4), vr (T 4), vr (T 5)].set 0 (vi ((tl 0) + 1))))) (T 2) = some (Ar 0 3 (uN fd c y)) := (lk_up_n (fun e => absurd (hij 2 0 (by decide) (by decide) e) (by decide))).trans f12
                have f21 : lk (up w9 (T 0) (Ob 8 ([vi (tl 0), vr (T 1), vr (T 2), vi (tl 9), vi (tl 10), vi (tl 11), vi (tl 6), vi (tl 7), vi (tl 8), vi (tl 1), vr (T 3), vi (tl 2), vi (tl 4), vr (T 4), vr (T 5)].set 0 (vi ((tl 0) + 1))))) (T 3) = some (Ar 3 4 fx) := (lk_up_n (fun e => absurd (hij 3 0 (by decide) (by decide) e) (by decide))).trans f13
                have f22 : lk (up w9 (T 0) (Ob 8 ([vi (tl 0), vr (T 1), vr (T 2), vi (tl 9), vi (tl 10), vi (tl 11), vi (tl 6), vi (tl 7), vi (tl 8), vi (tl 1), vr (T 3), vi (tl 2), vi (tl 4), vr (T 4), vr (T 5)].set 0 (vi ((tl 0) + 1))))) (T 4) = some (Ar 0 8 fk) := (lk_up_n (fun e => absurd (hij 4 0 (by decide) (by decide) e) (by decide))).trans f14
                have f23 : lk (up w9 (T 0) (Ob 8 ([vi (tl 0), vr (T 1), vr (T 2), vi (tl 9), vi (tl 10), vi (tl 11), vi (tl 6), vi (tl 7), vi (tl 8), vi (tl 1), vr (T 3), vi (tl 2), vi (tl 4), vr (T 4), vr (T 5)].set 0 (vi ((tl 0) + 1))))) (T 5) = some (Ar 0 8 fs) := (lk_up_n (fun e => absurd (hij 5 0 (by decide) (by decide) e) (by decide))).trans f15
                have fr24 : FrT T w (up w9 (T 0) (Ob 8 ([vi (tl 0), vr (T 1), vr (T 2), vi (tl 9), vi (tl 10), vi (tl 11), vi (tl 6), vi (tl 7), vi (tl 8), vi (tl 1), vr (T 3), vi (tl 2), vi (tl 4), vr (T 4), vr (T 5)].set 0 (vi ((tl 0) + 1))))) := FrT.u 0 (by decide) fr16
                generalize up w9 (T 0) (Ob 8 ([vi (tl 0), vr (T 1), vr (T 2), vi (tl 9), vi (tl 10), vi (tl 11), vi (tl 6), vi (tl 7), vi (tl 8), vi (tl 1), vr (T 3), vi (tl 2), vi (tl 4), vr (T 4), vr (T 5)].set 0 (vi ((tl 0) + 1)))) = w17 at f18 f19 f20 f21 f22 f23 fr24 ⊢
                refine M.run 1 (pc' := 86) (lv' := [some (vr (T 0)), some (vi x), some (vi y)]) (st' := [vr (T 0)]) rfl ?_
                refine M.get fl_X9_52 rfl f18 (kf := 0) (v := vi ((tl 0) + 1)) rfl ?_
                refine M.run 2 (pc' := 91) (lv' := [some (vr (T 0)), some (vi x), some (vi y)]) (st' := [vi (((tl 0) + 1) - 1)]) rfl ?_
                exact M.iret rfl (Nat.zero_le _) (Nat.zero_le _) ⟨fun _ => ⟨reI (by omega), isTo_mk (a0 := uN tl 0 (tl 0 + 1)) hP0 f18 (fun k hk => by
                      by_cases e : k = 0
                      · subst e; rfl
                      · rw [uN_o e, uN_o e, uN_o (by omega), uN_o (by omega)]) f19 f20 f21 f22 f23
                      (fun i hi => by
                        rw [hc0, Int.toNat_natCast, uN_o (show 12 + i ≠ 0 by omega), uN_o (show 12 + i ≠ 15 + c by omega)]
                        by_cases e : i = c
                        · subst e; rw [uN_s, uN_s]
                        · rw [uN_o e, uN_o (show 12 + i ≠ 12 + c by omega), hc1 i hi])
                      (fun i hi => by
                        rw [hc0, Int.toNat_natCast, uN_o (show 15 + i ≠ 0 by omega)]
                        by_cases e : i = c
                        · subst e; rw [uN_s, uN_s]
                        · rw [uN_o e, uN_o (show 15 + i ≠ 15 + c by omega), uN_o (show 15 + i ≠ 12 + c by omega), hc2 i hi])
                      (fun i hi => by rw [hc4 i hi, uN_o (by omega), uN_o (by omega), uN_o (by omega)]) (fun i hi => by rw [hc5 i hi, uN_o (by omega), uN_o (by omega), uN_o (by omega)]), fr24⟩, fun q => absurd (show bkC tl x y from by omega) q⟩
              · skip
                refine M.run 1 (pc' := 54) (lv' := [some (vr (T 0)), some (vi x), some (vi y)]) (st' := [vi (-1)]) rfl ?_
                exact M.iret rfl (Nat.zero_le _) (Nat.zero_le _) ⟨fun q => absurd q.2.2 (by omega), fun _ => ⟨rfl, rfl⟩⟩
        · skip
          refine M.run 1 (pc' := 21) (lv' := [some (vr (T 0)), some (vi x), some (vi y)]) (st' := [vi (-1)]) rfl ?_
          exact M.iret rfl (Nat.zero_le _) (Nat.zero_le _) ⟨fun q => absurd q (by omega), fun _ => ⟨rfl, rfl⟩⟩
set_option maxHeartbeats 4000000 in
set_option maxRecDepth 100000 in
theorem kX9_addSaid (l : Launch) (G : GT) (T : Nat → Nat) (tl fx : Nat → Int) (hT : Tok tl) (x : Int) (y : Int) (hx : -2147483648 ≤ x ∧ x ≤ 2147483647) (hy : -2147483648 ≤ y ∧ y ≤ 2147483647) : Ctr l G yX9_addSaid cX9_addSaid 3 ((Option.some Jvm.ClassFile.FieldType.int)) 1 0 0 [vr (T 0), vi x, vi y] (fun w => isTo T tl fx w) (fun w r w' => (¬ tl 4 = 8 → r = some (vi (tl 4 + 1)) ∧ isTo T (uN (uN (uN tl (986 + 2 * (tl 4).toNat) x) (986 + 2 * (tl 4).toNat + 1) y) 4 (tl 4 + 1)) fx w' ∧ FrT T w w') ∧ (tl 4 = 8 → r = some (vi (-2)) ∧ w' = w)) := by
  refine Ctr.of (t := tX9_addSaid) (lv0 := [some (vr (T 0)), some (vi x), some (vi y)]) (by decide +kernel) tX9_addSaid_ok rfl rfl (fun w g hP M => ?_)
  have hP0 := hP
  obtain ⟨hO, ⟨fl, hl1, hc1⟩, ⟨fd, hl2, hc2⟩, hl3, ⟨fk, hl4, hc4⟩, ⟨fs, hl5, hc5⟩, hij⟩ := hP
  have hk4 : 0 ≤ tl 4 ∧ tl 4 ≤ 8 := hT.1 4 (by decide)
  obtain ⟨c, hc0⟩ : ∃ c : Nat, tl 4 = ((c : Nat) : Int) := ⟨(tl 4).toNat, by omega⟩
  refine M.run 1 (pc' := 1) (lv' := [some (vr (T 0)), some (vi x), some (vi y)]) (st' := [vr (T 0)]) rfl ?_
  refine M.get fl_X9_66 rfl hO (kf := 12) (v := vi (tl 4)) rfl ?_
  refine M.if_lt (tgt := 31) rfl (qI (by omega)) (by decide) (fun h4 => ?_) (fun h4 => ?_)
  · skip
    omega
  · skip
    refine M.run 1 (pc' := 8) (lv' := [some (vr (T 0)), some (vi x), some (vi y)]) (st' := [vr (T 0)]) rfl ?_
    refine M.get fl_X9_66 rfl hO (kf := 12) (v := vi (tl 4)) rfl ?_
    refine M.run 1 (pc' := 12) (lv' := [some (vr (T 0)), some (vi x), some (vi y)]) (st' := [vr (T 0), vi (tl 4)]) rfl ?_
    refine M.get fl_X9_46 rfl hO (kf := 13) (v := vr (T 4)) rfl ?_
    refine M.alen rfl hl4 (by decide) ?_
    refine M.icmp_ge (tgt := 31) rfl (qI (by omega)) (qI (by omega)) (by decide) (fun h16 => ?_) (fun h16 => ?_)
    · skip
      refine M.run 1 (pc' := 33) (lv' := [some (vr (T 0)), some (vi x), some (vi y)]) (st' := [vi (-2)]) rfl ?_
      exact M.iret rfl (Nat.zero_le _) (Nat.zero_le _) ⟨fun q => absurd (show tl 4 = 8 by omega) q, fun _ => ⟨rfl, rfl⟩⟩
    · skip
      refine M.run 1 (pc' := 20) (lv' := [some (vr (T 0)), some (vi x), some (vi y)]) (st' := [vr (T 0)]) rfl ?_
      refine M.get fl_X9_66 rfl hO (kf := 12) (v := vi (tl 4)) rfl ?_
      refine M.run 1 (pc' := 24) (lv' := [some (vr (T 0)), some (vi x), some (vi y)]) (st' := [vr (T 0), vi (tl 4)]) rfl ?_
      refine M.get fl_X9_49 rfl hO (kf := 14) (v := vr (T 5)) rfl ?_
      refine M.alen rfl hl5 (by decide) ?_
      refine M.icmp_lt (tgt := 34) rfl (qI (by omega)) (qI (by omega)) (by decide) (fun h28 => ?_) (fun h28 => ?_)
      · skip
        refine M.run 1 (pc' := 35) (lv' := [some (vr (T 0)), some (vi x), some (vi y)]) (st' := [vr (T 0)]) rfl ?_
        refine M.get fl_X9_46 rfl hO (kf := 13) (v := vr (T 4)) rfl ?_
        refine M.run 1 (pc' := 39) (lv' := [some (vr (T 0)), some (vi x), some (vi y)]) (st' := [vr (T 0), vr (T 4)]) rfl ?_
        refine M.get fl_X9_66 rfl hO (kf := 12) (v := vi (tl 4)) rfl ?_
        refine M.run 1 (pc' := 43) (lv' := [some (vr (T 0)), some (vi x), some (vi y)]) (st' := [vi x, vi (tl 4), vr (T 4)]) rfl ?_
        rw [show tl 4 = ((c : Nat) : Int) from hc0]
        refine M.iastN (c) rfl hl4 (by omega) (by decide) ?_
        have f2 : lk (up w (T 4) (Ar 0 8 (uN fk c x))) (T 0) = some (Ob 8 [vi (tl 0), vr (T 1), vr (T 2), vi (tl 9), vi (tl 10), vi (tl 11), vi (tl 6), vi (tl 7), vi (tl 8), vi (tl 1), vr (T 3), vi (tl 2), vi (tl 4), vr (T 4), vr (T 5)]) := (lk_up_n (fun e => absurd (hij 0 4 (by decide) (by decide) e) (by decide))).trans hO
        have f3 : lk (up w (T 4) (Ar 0 8 (uN fk c x))) (T 1) = some (Ar 0 3 fl) := (lk_up_n (fun e => absurd (hij 1 4 (by decide) (by decide) e) (by decide))).trans hl1
        have f4 : lk (up w (T 4) (Ar 0 8 (uN fk c x))) (T 2) = some (Ar 0 3 fd) := (lk_up_n (fun e => absurd (hij 2 4 (by decide) (by decide) e) (by decide))).trans hl2
        have f5 : lk (up w (T 4) (Ar 0 8 (uN fk c x))) (T 3) = some (Ar 3 4 fx) := (lk_up_n (fun e => absurd (hij 3 4 (by decide) (by decide) e) (by decide))).trans hl3
        have f6 : lk (up w (T 4) (Ar 0 8 (uN fk c x))) (T 4) = some (Ar 0 8 (uN fk c x)) := lk_up_s hl4
        have f7 : lk (up w (T 4) (Ar 0 8 (uN fk c x))) (T 5) = some (Ar 0 8 fs) := (lk_up_n (fun e => absurd (hij 5 4 (by decide) (by decide) e) (by decide))).trans hl5
        have fr8 : FrT T w (up w (T 4) (Ar 0 8 (uN fk c x))) := FrT.u 4 (by decide) FrT.rf
        generalize up w (T 4) (Ar 0 8 (uN fk c x)) = w1 at f2 f3 f4 f5 f6 f7 fr8 ⊢
        refine M.run 1 (pc' := 45) (lv' := [some (vr (T 0)), some (vi x), some (vi y)]) (st' := [vr (T 0)]) rfl ?_
        refine M.get fl_X9_49 rfl f2 (kf := 14) (v := vr (T 5)) rfl ?_
        refine M.run 1 (pc' := 49) (lv' := [some (vr (T 0)), some (vi x), some (vi y)]) (st' := [vr (T 0), vr (T 5)]) rfl ?_
        refine M.get fl_X9_66 rfl f2 (kf := 12) (v := vi (tl 4)) rfl ?_
        refine M.run 1 (pc' := 53) (lv' := [some (vr (T 0)), some (vi x), some (vi y)]) (st' := [vi y, vi (tl 4), vr (T 5)]) rfl ?_
        rw [show tl 4 = ((c : Nat) : Int) from hc0]
        refine M.iastN (c) rfl f7 (by omega) (by decide) ?_
        have f10 : lk (up w1 (T 5) (Ar 0 8 (uN fs c y))) (T 0) = some (Ob 8 [vi (tl 0), vr (T 1), vr (T 2), vi (tl 9), vi (tl 10), vi (tl 11), vi (tl 6), vi (tl 7), vi (tl 8), vi (tl 1), vr (T 3), vi (tl 2), vi (tl 4), vr (T 4), vr (T 5)]) := (lk_up_n (fun e => absurd (hij 0 5 (by decide) (by decide) e) (by decide))).trans f2
        have f11 : lk (up w1 (T 5) (Ar 0 8 (uN fs c y))) (T 1) = some (Ar 0 3 fl) := (lk_up_n (fun e => absurd (hij 1 5 (by decide) (by decide) e) (by decide))).trans f3
        have f12 : lk (up w1 (T 5) (Ar 0 8 (uN fs c y))) (T 2) = some (Ar 0 3 fd) := (lk_up_n (fun e => absurd (hij 2 5 (by decide) (by decide) e) (by decide))).trans f4
        have f13 : lk (up w1 (T 5) (Ar 0 8 (uN fs c y))) (T 3) = some (Ar 3 4 fx) := (lk_up_n (fun e => absurd (hij 3 5 (by decide) (by decide) e) (by decide))).trans f5
        have f14 : lk (up w1 (T 5) (Ar 0 8 (uN fs c y))) (T 4) = some (Ar 0 8 (uN fk c x)) := (lk_up_n (fun e => absurd (hij 4 5 (by decide) (by decide) e) (by decide))).trans f6
        have f15 : lk (up w1 (T 5) (Ar 0 8 (uN fs c y))) (T 5) = some (Ar 0 8 (uN fs c y)) := lk_up_s f7
        have fr16 : FrT T w (up w1 (T 5) (Ar 0 8 (uN fs c y))) := FrT.u 5 (by decide) fr8
        generalize up w1 (T 5) (Ar 0 8 (uN fs c y)) = w9 at f10 f11 f12 f13 f14 f15 fr16 ⊢
        refine M.run 2 (pc' := 56) (lv' := [some (vr (T 0)), some (vi x), some (vi y)]) (st' := [vr (T 0), vr (T 0)]) rfl ?_
        refine M.get fl_X9_66 rfl f10 (kf := 12) (v := vi (tl 4)) rfl ?_
        refine M.run 2 (pc' := 61) (lv' := [some (vr (T 0)), some (vi x), some (vi y)]) (st' := [vi ((tl 4) + 1), vr (T 0)]) rfl ?_
        refine M.put fl_X9_66 rfl f10 rfl rfl (Nat.le_of_ble_eq_true rfl) ?_
        have f18 : lk (up w9 (T 0) (Ob 8 ([vi (tl 0), vr (T 1), vr (T 2), vi (tl 9), vi (tl 10), vi (tl 11), vi (tl 6), vi (tl 7), vi (tl 8), vi (tl 1), vr (T 3), vi (tl 2), vi (tl 4), vr (T 4), vr (T 5)].set 12 (vi ((tl 4) + 1))))) (T 0) = some (Ob 8 [vi (tl 0), vr (T 1), vr (T 2), vi (tl 9), vi (tl 10), vi (tl 11), vi (tl 6), vi (tl 7), vi (tl 8), vi (tl 1), vr (T 3), vi (tl 2), vi ((tl 4) + 1), vr (T 4), vr (T 5)]) := lk_up_s f10
        have f19 : lk (up w9 (T 0) (Ob 8 ([vi (tl 0), vr (T 1), vr (T 2), vi (tl 9), vi (tl 10), vi (tl 11), vi (tl 6), vi (tl 7), vi (tl 8), vi (tl 1), vr (T 3), vi (tl 2), vi (tl 4), vr (T 4), vr (T 5)].set 12 (vi ((tl 4) + 1))))) (T 1) = some (Ar 0 3 fl) := (lk_up_n (fun e => absurd (hij 1 0 (by decide) (by decide) e) (by decide))).trans f11
        have f20 : lk (up w9 (T 0) (Ob 8 ([vi (tl 0), vr (T 1), vr (T 2), vi (tl 9), vi (tl 10), vi (tl 11), vi (tl 6), vi (tl 7), vi (tl 8), vi (tl 1), vr (T 3), vi (tl 2), vi (tl 4), vr (T 4), vr (T 5)].set 12 (vi ((tl 4) + 1))))) (T 2) = some (Ar 0 3 fd) := (lk_up_n (fun e => absurd (hij 2 0 (by decide) (by decide) e) (by decide))).trans f12
        have f21 : lk (up w9 (T 0) (Ob 8 ([vi (tl 0), vr (T 1), vr (T 2), vi (tl 9), vi (tl 10), vi (tl 11), vi (tl 6), vi (tl 7), vi (tl 8), vi (tl 1), vr (T 3), vi (tl 2), vi (tl 4), vr (T 4), vr (T 5)].set 12 (vi ((tl 4) + 1))))) (T 3) = some (Ar 3 4 fx) := (lk_up_n (fun e => absurd (hij 3 0 (by decide) (by decide) e) (by decide))).trans f13
        have f22 : lk (up w9 (T 0) (Ob 8 ([vi (tl 0), vr (T 1), vr (T 2), vi (tl 9), vi (tl 10), vi (tl 11), vi (tl 6), vi (tl 7), vi (tl 8), vi (tl 1), vr (T 3), vi (tl 2), vi (tl 4), vr (T 4), vr (T 5)].set 12 (vi ((tl 4) + 1))))) (T 4) = some (Ar 0 8 (uN fk c x)) := (lk_up_n (fun e => absurd (hij 4 0 (by decide) (by decide) e) (by decide))).trans f14
        have f23 : lk (up w9 (T 0) (Ob 8 ([vi (tl 0), vr (T 1), vr (T 2), vi (tl 9), vi (tl 10), vi (tl 11), vi (tl 6), vi (tl 7), vi (tl 8), vi (tl 1), vr (T 3), vi (tl 2), vi (tl 4), vr (T 4), vr (T 5)].set 12 (vi ((tl 4) + 1))))) (T 5) = some (Ar 0 8 (uN fs c y)) := (lk_up_n (fun e => absurd (hij 5 0 (by decide) (by decide) e) (by decide))).trans f15
        have fr24 : FrT T w (up w9 (T 0) (Ob 8 ([vi (tl 0), vr (T 1), vr (T 2), vi (tl 9), vi (tl 10), vi (tl 11), vi (tl 6), vi (tl 7), vi (tl 8), vi (tl 1), vr (T 3), vi (tl 2), vi (tl 4), vr (T 4), vr (T 5)].set 12 (vi ((tl 4) + 1))))) := FrT.u 0 (by decide) fr16
        generalize up w9 (T 0) (Ob 8 ([vi (tl 0), vr (T 1), vr (T 2), vi (tl 9), vi (tl 10), vi (tl 11), vi (tl 6), vi (tl 7), vi (tl 8), vi (tl 1), vr (T 3), vi (tl 2), vi (tl 4), vr (T 4), vr (T 5)].set 12 (vi ((tl 4) + 1)))) = w17 at f18 f19 f20 f21 f22 f23 fr24 ⊢
        refine M.run 1 (pc' := 65) (lv' := [some (vr (T 0)), some (vi x), some (vi y)]) (st' := [vr (T 0)]) rfl ?_
        refine M.get fl_X9_66 rfl f18 (kf := 12) (v := vi ((tl 4) + 1)) rfl ?_
        exact M.iret rfl (Nat.zero_le _) (Nat.zero_le _) ⟨fun _ => ⟨rfl, isTo_mk (a0 := uN tl 4 (tl 4 + 1)) hP0 f18 (fun k hk => by
              by_cases e : k = 4
              · subst e; rfl
              · rw [uN_o e, uN_o e, uN_o (by omega), uN_o (by omega)]) f19 f20 f21 f22 f23
              (fun i hi => by rw [hc1 i hi, uN_o (by omega), uN_o (by omega), uN_o (by omega)]) (fun i hi => by rw [hc2 i hi, uN_o (by omega), uN_o (by omega), uN_o (by omega)])
              (fun i hi => by
                rw [hc0, Int.toNat_natCast, uN_o (show 986 + 2 * i ≠ 4 by omega), uN_o (show 986 + 2 * i ≠ 986 + 2 * c + 1 by omega)]
                by_cases e : i = c
                · subst e; rw [uN_s, uN_s]
                · rw [uN_o e, uN_o (show 986 + 2 * i ≠ 986 + 2 * c by omega), hc4 i hi])
              (fun i hi => by
                rw [hc0, Int.toNat_natCast, uN_o (show 986 + 2 * i + 1 ≠ 4 by omega)]
                by_cases e : i = c
                · subst e; rw [uN_s, uN_s]
                · rw [uN_o e, uN_o (show 986 + 2 * i + 1 ≠ 986 + 2 * c + 1 by omega), uN_o (show 986 + 2 * i + 1 ≠ 986 + 2 * c by omega), hc5 i hi]), fr24⟩, fun q => absurd q (by omega)⟩
      · skip
        refine M.run 1 (pc' := 33) (lv' := [some (vr (T 0)), some (vi x), some (vi y)]) (st' := [vi (-2)]) rfl ?_
        exact M.iret rfl (Nat.zero_le _) (Nat.zero_le _) ⟨fun q => absurd (show tl 4 = 8 by omega) q, fun _ => ⟨rfl, rfl⟩⟩
set_option maxHeartbeats 4000000 in
set_option maxRecDepth 100000 in
theorem kX9_addText (l : Launch) (G : GT) (T : Nat → Nat) (tl fx : Nat → Int) (hT : Tok tl) (z : Nat) : Ctr l G yX9_addText cX9_addText 2 ((Option.some Jvm.ClassFile.FieldType.int)) 1 0 0 [vr (T 0), vr z] (fun w => isTo T tl fx w ∧ ∃ zf, lk w z = some (Ob 6 zf)) (fun w r w' => (¬ tl 1 = 4 → r = some (vi (tl 1)) ∧ isTo T (uN tl 1 (tl 1 + 1)) (uN fx (tl 1).toNat ((z : Nat) : Int)) w' ∧ FrT T w w') ∧ (tl 1 = 4 → r = some (vi (-1)) ∧ w' = w)) := by
  refine Ctr.of (t := tX9_addText) (lv0 := [some (vr (T 0)), some (vr z)]) (by decide +kernel) tX9_addText_ok rfl rfl (fun w g hP M => ?_)
  obtain ⟨hP, hZ⟩ := hP
  have hP0 := hP
  obtain ⟨hO, ⟨fl, hl1, hc1⟩, ⟨fd, hl2, hc2⟩, hl3, ⟨fk, hl4, hc4⟩, ⟨fs, hl5, hc5⟩, hij⟩ := hP
  have hk1 : 0 ≤ tl 1 ∧ tl 1 ≤ 4 := hT.1 1 (by decide)
  obtain ⟨c, hc0⟩ : ∃ c : Nat, tl 1 = ((c : Nat) : Int) := ⟨(tl 1).toNat, by omega⟩
  obtain ⟨zf, hz⟩ := hZ
  refine M.run 1 (pc' := 1) (lv' := [some (vr (T 0)), some (vr z)]) (st' := [vr (T 0)]) rfl ?_
  refine M.get fl_X9_59 rfl hO (kf := 9) (v := vi (tl 1)) rfl ?_
  refine M.if_lt (tgt := 19) rfl (qI (by omega)) (by decide) (fun h4 => ?_) (fun h4 => ?_)
  · skip
    omega
  · skip
    refine M.run 1 (pc' := 8) (lv' := [some (vr (T 0)), some (vr z)]) (st' := [vr (T 0)]) rfl ?_
    refine M.get fl_X9_59 rfl hO (kf := 9) (v := vi (tl 1)) rfl ?_
    refine M.run 1 (pc' := 12) (lv' := [some (vr (T 0)), some (vr z)]) (st' := [vr (T 0), vi (tl 1)]) rfl ?_
    refine M.get fl_X9_39 rfl hO (kf := 10) (v := vr (T 3)) rfl ?_
    refine M.alen rfl hl3 (by decide) ?_
    refine M.icmp_lt (tgt := 21) rfl (qI (by omega)) (qI (by omega)) (by decide) (fun h16 => ?_) (fun h16 => ?_)
    · skip
      refine M.run 1 (pc' := 22) (lv' := [some (vr (T 0)), some (vr z)]) (st' := [vr (T 0)]) rfl ?_
      refine M.get fl_X9_39 rfl hO (kf := 10) (v := vr (T 3)) rfl ?_
      refine M.run 1 (pc' := 26) (lv' := [some (vr (T 0)), some (vr z)]) (st' := [vr (T 0), vr (T 3)]) rfl ?_
      refine M.get fl_X9_59 rfl hO (kf := 9) (v := vi (tl 1)) rfl ?_
      refine M.run 1 (pc' := 30) (lv' := [some (vr (T 0)), some (vr z)]) (st' := [vr z, vi (tl 1), vr (T 3)]) rfl ?_
      rw [show tl 1 = ((c : Nat) : Int) from hc0]
      refine M.aastN (C := "LongCarrier$Text") (ci := 6) (c) (Or.inl ⟨rfl, rfl⟩) rfl hl3 hz rfl rfl (by omega) (by omega) ?_
      have f2 : lk (up w (T 3) (Ar 3 4 (uN fx c ((z : Nat) : Int)))) (T 0) = some (Ob 8 [vi (tl 0), vr (T 1), vr (T 2), vi (tl 9), vi (tl 10), vi (tl 11), vi (tl 6), vi (tl 7), vi (tl 8), vi (tl 1), vr (T 3), vi (tl 2), vi (tl 4), vr (T 4), vr (T 5)]) := (lk_up_n (fun e => absurd (hij 0 3 (by decide) (by decide) e) (by decide))).trans hO
      have f3 : lk (up w (T 3) (Ar 3 4 (uN fx c ((z : Nat) : Int)))) (T 1) = some (Ar 0 3 fl) := (lk_up_n (fun e => absurd (hij 1 3 (by decide) (by decide) e) (by decide))).trans hl1
      have f4 : lk (up w (T 3) (Ar 3 4 (uN fx c ((z : Nat) : Int)))) (T 2) = some (Ar 0 3 fd) := (lk_up_n (fun e => absurd (hij 2 3 (by decide) (by decide) e) (by decide))).trans hl2
      have f5 : lk (up w (T 3) (Ar 3 4 (uN fx c ((z : Nat) : Int)))) (T 3) = some (Ar 3 4 (uN fx c ((z : Nat) : Int))) := lk_up_s hl3
      have f6 : lk (up w (T 3) (Ar 3 4 (uN fx c ((z : Nat) : Int)))) (T 4) = some (Ar 0 8 fk) := (lk_up_n (fun e => absurd (hij 4 3 (by decide) (by decide) e) (by decide))).trans hl4
      have f7 : lk (up w (T 3) (Ar 3 4 (uN fx c ((z : Nat) : Int)))) (T 5) = some (Ar 0 8 fs) := (lk_up_n (fun e => absurd (hij 5 3 (by decide) (by decide) e) (by decide))).trans hl5
      have fr8 : FrT T w (up w (T 3) (Ar 3 4 (uN fx c ((z : Nat) : Int)))) := FrT.u 3 (by decide) FrT.rf
      generalize up w (T 3) (Ar 3 4 (uN fx c ((z : Nat) : Int))) = w1 at f2 f3 f4 f5 f6 f7 fr8 ⊢
      refine M.run 2 (pc' := 33) (lv' := [some (vr (T 0)), some (vr z)]) (st' := [vr (T 0), vr (T 0)]) rfl ?_
      refine M.get fl_X9_59 rfl f2 (kf := 9) (v := vi (tl 1)) rfl ?_
      refine M.run 2 (pc' := 38) (lv' := [some (vr (T 0)), some (vr z)]) (st' := [vi ((tl 1) + 1), vr (T 0)]) rfl ?_
      refine M.put fl_X9_59 rfl f2 rfl rfl (Nat.le_of_ble_eq_true rfl) ?_
      have f10 : lk (up w1 (T 0) (Ob 8 ([vi (tl 0), vr (T 1), vr (T 2), vi (tl 9), vi (tl 10), vi (tl 11), vi (tl 6), vi (tl 7), vi (tl 8), vi (tl 1), vr (T 3), vi (tl 2), vi (tl 4), vr (T 4), vr (T 5)].set 9 (vi ((tl 1) + 1))))) (T 0) = some (Ob 8 [vi (tl 0), vr (T 1), vr (T 2), vi (tl 9), vi (tl 10), vi (tl 11), vi (tl 6), vi (tl 7), vi (tl 8), vi ((tl 1) + 1), vr (T 3), vi (tl 2), vi (tl 4), vr (T 4), vr (T 5)]) := lk_up_s f2
      have f11 : lk (up w1 (T 0) (Ob 8 ([vi (tl 0), vr (T 1), vr (T 2), vi (tl 9), vi (tl 10), vi (tl 11), vi (tl 6), vi (tl 7), vi (tl 8), vi (tl 1), vr (T 3), vi (tl 2), vi (tl 4), vr (T 4), vr (T 5)].set 9 (vi ((tl 1) + 1))))) (T 1) = some (Ar 0 3 fl) := (lk_up_n (fun e => absurd (hij 1 0 (by decide) (by decide) e) (by decide))).trans f3
      have f12 : lk (up w1 (T 0) (Ob 8 ([vi (tl 0), vr (T 1), vr (T 2), vi (tl 9), vi (tl 10), vi (tl 11), vi (tl 6), vi (tl 7), vi (tl 8), vi (tl 1), vr (T 3), vi (tl 2), vi (tl 4), vr (T 4), vr (T 5)].set 9 (vi ((tl 1) + 1))))) (T 2) = some (Ar 0 3 fd) := (lk_up_n (fun e => absurd (hij 2 0 (by decide) (by decide) e) (by decide))).trans f4
      have f13 : lk (up w1 (T 0) (Ob 8 ([vi (tl 0), vr (T 1), vr (T 2), vi (tl 9), vi (tl 10), vi (tl 11), vi (tl 6), vi (tl 7), vi (tl 8), vi (tl 1), vr (T 3), vi (tl 2), vi (tl 4), vr (T 4), vr (T 5)].set 9 (vi ((tl 1) + 1))))) (T 3) = some (Ar 3 4 (uN fx c ((z : Nat) : Int))) := (lk_up_n (fun e => absurd (hij 3 0 (by decide) (by decide) e) (by decide))).trans f5
      have f14 : lk (up w1 (T 0) (Ob 8 ([vi (tl 0), vr (T 1), vr (T 2), vi (tl 9), vi (tl 10), vi (tl 11), vi (tl 6), vi (tl 7), vi (tl 8), vi (tl 1), vr (T 3), vi (tl 2), vi (tl 4), vr (T 4), vr (T 5)].set 9 (vi ((tl 1) + 1))))) (T 4) = some (Ar 0 8 fk) := (lk_up_n (fun e => absurd (hij 4 0 (by decide) (by decide) e) (by decide))).trans f6
      have f15 : lk (up w1 (T 0) (Ob 8 ([vi (tl 0), vr (T 1), vr (T 2), vi (tl 9), vi (tl 10), vi (tl 11), vi (tl 6), vi (tl 7), vi (tl 8), vi (tl 1), vr (T 3), vi (tl 2), vi (tl 4), vr (T 4), vr (T 5)].set 9 (vi ((tl 1) + 1))))) (T 5) = some (Ar 0 8 fs) := (lk_up_n (fun e => absurd (hij 5 0 (by decide) (by decide) e) (by decide))).trans f7
      have fr16 : FrT T w (up w1 (T 0) (Ob 8 ([vi (tl 0), vr (T 1), vr (T 2), vi (tl 9), vi (tl 10), vi (tl 11), vi (tl 6), vi (tl 7), vi (tl 8), vi (tl 1), vr (T 3), vi (tl 2), vi (tl 4), vr (T 4), vr (T 5)].set 9 (vi ((tl 1) + 1))))) := FrT.u 0 (by decide) fr8
      generalize up w1 (T 0) (Ob 8 ([vi (tl 0), vr (T 1), vr (T 2), vi (tl 9), vi (tl 10), vi (tl 11), vi (tl 6), vi (tl 7), vi (tl 8), vi (tl 1), vr (T 3), vi (tl 2), vi (tl 4), vr (T 4), vr (T 5)].set 9 (vi ((tl 1) + 1)))) = w9 at f10 f11 f12 f13 f14 f15 fr16 ⊢
      refine M.run 1 (pc' := 42) (lv' := [some (vr (T 0)), some (vr z)]) (st' := [vr (T 0)]) rfl ?_
      refine M.get fl_X9_59 rfl f10 (kf := 9) (v := vi ((tl 1) + 1)) rfl ?_
      refine M.run 2 (pc' := 47) (lv' := [some (vr (T 0)), some (vr z)]) (st' := [vi (((tl 1) + 1) - 1)]) rfl ?_
      exact M.iret rfl (Nat.zero_le _) (Nat.zero_le _) ⟨fun _ => ⟨reI (by omega), by
            have e3 := f13
            rw [show c = (tl 1).toNat by omega] at e3
            exact isTo_mk (a0 := uN tl 1 (tl 1 + 1)) hP0 f10 (fun k hk => rfl) f11 f12 e3 f14 f15
              (fun i hi => by rw [hc1 i hi, uN_o (by omega)]) (fun i hi => by rw [hc2 i hi, uN_o (by omega)]) (fun i hi => by rw [hc4 i hi, uN_o (by omega)]) (fun i hi => by rw [hc5 i hi, uN_o (by omega)]), fr16⟩, fun q => absurd q (by omega)⟩
    · skip
      refine M.run 1 (pc' := 20) (lv' := [some (vr (T 0)), some (vr z)]) (st' := [vi (-1)]) rfl ?_
      exact M.iret rfl (Nat.zero_le _) (Nat.zero_le _) ⟨fun q => absurd (show tl 1 = 4 by omega) q, fun _ => ⟨rfl, rfl⟩⟩
