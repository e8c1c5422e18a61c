/-! the class reads a law and a clause -/
theorem isRe_nw {o : Nat} {L : List (Int × Int × Int)} {c1 c2 j : Nat} {ly : Int} {m1 m2 : Nat} {f1 f2 : Int} {fc fq : Nat → Int} {w : Wo} {q : Nat} {c : Ce} (h : isRe o L c1 c2 j ly m1 m2 f1 f2 fc fq w) : isRe o L c1 c2 j ly m1 m2 f1 f2 fc fq (nw w q c) := by
  obtain ⟨h1, h2, h3, fs, fv, fz, h4, h5, h6, h7, h8⟩ := h
  exact ⟨lk_nw_o h1, lk_nw_o h2, lk_nw_o h3, fs, fv, fz, lk_nw_o h4, lk_nw_o h5, lk_nw_o h6, lk_nw_o h7, h8⟩
theorem tkA_on {o : Nat} {L : List (Int × Int × Int)} {w : Wo} (h : tkA (o + 1) (o + 2) (o + 3) (o + 4) L w) (a : Nat) (ha : o + 1 ≤ a ∧ a ≤ o + 4) : lk w a ≠ none := by
  obtain ⟨fs, fv, fz, h4, h5, h6, h7, h8⟩ := h
  rcases (show a = o + 1 ∨ a = o + 2 ∨ a = o + 3 ∨ a = o + 4 by omega) with rfl | rfl | rfl | rfl
  · rw [h4]; exact Option.some_ne_none _
  · rw [h5]; exact Option.some_ne_none _
  · rw [h6]; exact Option.some_ne_none _
  · rw [h7]; exact Option.some_ne_none _
theorem isRe_on {o : Nat} {L : List (Int × Int × Int)} {c1 c2 j : Nat} {ly : Int} {m1 m2 : Nat} {f1 f2 : Int} {fc fq : Nat → Int} {w : Wo} {q : Nat} (h : isRe o L c1 c2 j ly m1 m2 f1 f2 fc fq w) (hq : lk w q = none) : q < o ∨ o + 6 < q := by
  obtain ⟨h1, h2, h3, h4⟩ := h
  rcases Nat.lt_or_ge q o with a | a
  · exact Or.inl a
  rcases Nat.lt_or_ge (o + 6) q with b | b
  · exact Or.inr b
  rcases (show q = o ∨ (o + 1 ≤ q ∧ q ≤ o + 4) ∨ q = o + 5 ∨ q = o + 6 by omega) with rfl | c | rfl | rfl
  · rw [h1] at hq; cases hq
  · exact absurd hq (tkA_on h4 q c)
  · rw [h2] at hq; cases hq
  · rw [h3] at hq; cases hq
def QL (G : GT) (o : Nat) (L : List (Int × Int × Int)) (c2 j m1 m2 : Nat) (f1 f2 : Int) (fq : Nat → Int) (x : Int) (w : Wo) (r : Option AV) (w' : Wo) : Pr → Prop
  | .inl (e, k) => if (gTk L k).1 = 40 then ∃ q h gc, r = some (vi 1) ∧ gB G ≤ q ∧ lk w q = none ∧ okE e ∧ (szE e + j ≤ k ∧ k ≤ 300) ∧ lk w' q = some (Ar 0 (2 * szE e) h) ∧ cdAt h 0 (cdE e 0) ∧ isRe o L (2 * szE e) (c2 + 1) (k + 1) x (if x = 0 then q else m1) (if x = 0 then m2 else q) f1 f2 gc (uN (uN (uN fq (3 * c2) x) (3 * c2 + 1) 0) (3 * c2 + 2) 0) w' ∧ ∀ a : Nat, (a < o ∨ o + 6 < a) → a ≠ q → lk w' a = lk w a
      else r = some (vi 0) ∧ k ≤ 301 ∧ (∃ d1 gc, isRe o L d1 c2 k x m1 m2 1 (gTk L k).2.2 gc fq w') ∧ FrR o w w'
  | .inr (s, k) => r = some (vi 0) ∧ k ≤ 301 ∧ (∃ d1 gc, isRe o L d1 c2 k x m1 m2 s (gTk L k).2.2 gc fq w') ∧ FrR o w w'
set_option maxHeartbeats 4000000 in
set_option maxRecDepth 100000 in
theorem kX3_lawClause (l : Launch) (G : GT) (o : Nat) (L : List (Int × Int × Int)) (c1 c2 j : Nat) (ly : Int) (m1 m2 : Nat) (f1 f2 : Int) (fc fq : Nat → Int) (hj : j ≤ 301) (hB : tkB L) (hx51 : ∀ j : Nat, (gTk L j).1 ≠ 51 → j ≤ 300) (hc2 : c2 < 24) (x : Int) (hx : x = 0 ∨ x = 1) : Ctr l G yX3_lawClause cX3_lawClause 3 ((Option.some Jvm.ClassFile.FieldType.boolean)) 66 1 602 [vr o, vi x] (fun w => isRe o L c1 c2 j ly m1 m2 f1 f2 fc fq w) (fun w r w' => QL G o L c2 j m1 m2 f1 f2 fq x w r w' ((pLv L x 8).2.1 j)) := by
  refine Ctr.of (t := tX3_lawClause) (lv0 := [some (vr o), some (vi x), none]) (by decide +kernel) tX3_lawClause_ok rfl rfl (fun w g hP M => ?_)
  refine M.run 2 (pc' := 2) (lv' := [some (vr o), some (vi x), none]) (st' := [vi x, vr o]) rfl ?_
  refine M.put fl_X3_83 rfl (hP.1) rfl rfl (Nat.le_of_ble_eq_true rfl) ?_
  change g 0 0 (up w o (Ob 2 [vr (o + 1), vr (o + 5), vr (o + 6), vi ((c1 : Nat) : Int), vi ((c2 : Nat) : Int), vi ((j : Nat) : Int), vi x, vr m1, vr m2, vi f1, vi f2])) 5 [some (vr o), some (vi x), none] []
  have hRa1 : isRe o L c1 c2 j x m1 m2 f1 f2 fc fq (up w o (Ob 2 [vr (o + 1), vr (o + 5), vr (o + 6), vi ((c1 : Nat) : Int), vi ((c2 : Nat) : Int), vi ((j : Nat) : Int), vi x, vr m1, vr m2, vi f1, vi f2])) := isRe_1 hP
  have hFa1 : FrR o w (up w o (Ob 2 [vr (o + 1), vr (o + 5), vr (o + 6), vi ((c1 : Nat) : Int), vi ((c2 : Nat) : Int), vi ((j : Nat) : Int), vi x, vr m1, vr m2, vi f1, vi f2])) := FrR.u FrR.rf o (by omega)
  generalize up w o (Ob 2 [vr (o + 1), vr (o + 5), vr (o + 6), vi ((c1 : Nat) : Int), vi ((c2 : Nat) : Int), vi ((j : Nat) : Int), vi x, vr m1, vr m2, vi f1, vi f2]) = wa1 at hRa1 hFa1 ⊢
  refine M.run 2 (pc' := 7) (lv' := [some (vr o), some (vi x), none]) (st' := [vi 0, vr o]) rfl ?_
  refine M.put fl_X3_86 rfl (hRa1.1) rfl rfl (Nat.le_of_ble_eq_true rfl) ?_
  change g 0 0 (up wa1 o (Ob 2 [vr (o + 1), vr (o + 5), vr (o + 6), vi ((0 : Nat) : Int), vi ((c2 : Nat) : Int), vi ((j : Nat) : Int), vi x, vr m1, vr m2, vi f1, vi f2])) 10 [some (vr o), some (vi x), none] []
  have hRa2 : isRe o L 0 c2 j x m1 m2 f1 f2 fc fq (up wa1 o (Ob 2 [vr (o + 1), vr (o + 5), vr (o + 6), vi ((0 : Nat) : Int), vi ((c2 : Nat) : Int), vi ((j : Nat) : Int), vi x, vr m1, vr m2, vi f1, vi f2])) := isRe_1 hRa1
  have hFa2 : FrR o w (up wa1 o (Ob 2 [vr (o + 1), vr (o + 5), vr (o + 6), vi ((0 : Nat) : Int), vi ((c2 : Nat) : Int), vi ((j : Nat) : Int), vi x, vr m1, vr m2, vi f1, vi f2])) := FrR.u hFa1 o (by omega)
  generalize up wa1 o (Ob 2 [vr (o + 1), vr (o + 5), vr (o + 6), vi ((0 : Nat) : Int), vi ((c2 : Nat) : Int), vi ((j : Nat) : Int), vi x, vr m1, vr m2, vi f1, vi f2]) = wa2 at hRa2 hFa2 ⊢
  refine M.run 2 (pc' := 12) (lv' := [some (vr o), some (vi x), none]) (st' := [vi 0, vr o]) rfl ?_
  have hS := (pLv_ok l G o L x hB hx51 (by omega) 8 (by omega)).2.1
  refine M.callV (hS 0 c2 j m1 m2 f1 f2 fc fq (by omega) (by omega)) cv_X3_89 cd_X3_sum rfl (st := []) rfl (hRa2.1) (by omega) (by decide) rfl (by omega) (by omega) hRa2 (fun r1 w1 q1 => ?_)
  rcases hE : (pLv L x 8).2.1 j with ⟨e, k⟩ | ⟨s, k⟩
  · rw [hE] at q1
    obtain ⟨hr1, hg1, ⟨hz1, hy1⟩, hK1, gc, hS1, hC1, hU1⟩ := q1
    rw [Nat.zero_add] at hS1
    rw [hr1]
    have hG1 := FrR.tr hFa2 hg1
    refine M.if_eq (tgt := 27) rfl (qI (by decide)) rfl (fun q => absurd q (by decide)) (fun _ => ?_)
    refine M.run 2 (pc' := 21) (lv' := [some (vr o), some (vi x), none]) (st' := [vi 40, vr o]) rfl ?_
    refine M.callV (kX3_take l G o L (2 * szE e) c2 k x m1 m2 f1 f2 gc fq (by omega) hB 40 (by omega)) cv_X3_92 cd_X3_take rfl (st := []) rfl (hS1.1) (by omega) (by decide) rfl (by omega) (by omega) hS1 (fun r2 w2 q2 => ?_)
    by_cases h40 : (gTk L k).1 = 40
    · rw [if_pos h40] at q2
      have hk3 := hx51 k (by omega)
      obtain ⟨hr2, hS2, hg2⟩ := q2
      rw [hr2]
      have hG2 := FrR.tr hG1 hg2
      refine M.if_ne (tgt := 29) rfl (qI (by decide)) rfl (fun _ => ?_) (fun q => absurd q (by decide))
      refine M.run 1 (pc' := 30) (lv' := [some (vr o), some (vi x), none]) (st' := [vr o]) rfl ?_
      refine M.get fl_X3_86 rfl hS2.1 (kf := 3) (v := vi ((2 * szE e : Nat) : Int)) rfl ?_
      refine M.if_lt (tgt := 48) rfl (qI (by omega)) rfl (fun q => absurd q (by omega)) (fun _ => ?_)
      refine M.run 1 (pc' := 37) (lv' := [some (vr o), some (vi x), none]) (st' := [vr o]) rfl ?_
      refine M.get fl_X3_86 rfl hS2.1 (kf := 3) (v := vi ((2 * szE e : Nat) : Int)) rfl ?_
      refine M.run 1 (pc' := 41) (lv' := [some (vr o), some (vi x), none]) (st' := [vr o, vi ((2 * szE e : Nat) : Int)]) rfl ?_
      refine M.get fl_X3_18 rfl hS2.1 (kf := 1) (v := vr (o + 5)) rfl ?_
      refine M.alen rfl hS2.2.1 (by decide) ?_
      refine M.icmp_le (tgt := 50) rfl (qI (by omega)) (qI (by omega)) rfl (fun _ => ?_) (fun q => absurd q (by omega))
      refine M.run 1 (pc' := 51) (lv' := [some (vr o), some (vi x), none]) (st' := [vr o]) rfl ?_
      refine M.get fl_X3_18 rfl hS2.1 (kf := 1) (v := vr (o + 5)) rfl ?_
      refine M.run 1 (pc' := 55) (lv' := [some (vr o), some (vi x), none]) (st' := [vr o, vr (o + 5)]) rfl ?_
      refine M.get fl_X3_86 rfl hS2.1 (kf := 3) (v := vi ((2 * szE e : Nat) : Int)) rfl ?_
      refine M.callS (kJ7_copyOf l G (o + 5) 602 (2 * szE e) gc (by omega) (by omega)) cs_X3_61 cd_J7_copyOf_59c91 rfl (st := []) rfl (by omega) (by decide) rfl (by omega) (by omega) hS2.2.1 (fun r3 w3 q3 => ?_)
      obtain ⟨q, hc, hr3, hq1, hq2, hw3, hh⟩ := q3
      subst hw3
      rw [hr3]
      have hq5 := isRe_on hS2 hq2
      have hS3 := isRe_nw (q := q) (c := Ar 0 (2 * szE e) hc) hS2
      have hq6 : lk w q = none := (hG2 q hq5).symm.trans hq2
      have hL3 : lk (nw w2 q (Ar 0 (2 * szE e) hc)) q = some (Ar 0 (2 * szE e) hc) := lk_nw_s hq2
      have hG3 : ∀ a : Nat, (a < o ∨ o + 6 < a) → a ≠ q → lk (nw w2 q (Ar 0 (2 * szE e) hc)) a = lk w a := fun a ha hb => (lk_nw_n hb).trans (hG2 a ha)
      have hC3 : cdAt hc 0 (cdE e 0) := cdAt_eq _ hC1 (fun i h4 h5 => hh i (by rw [hK1] at h5; omega))
      generalize nw w2 q (Ar 0 (2 * szE e) hc) = w4 at hS3 hL3 hG3 ⊢
      refine M.run 2 (pc' := 63) (lv' := [some (vr o), some (vi x), some (vr q)]) (st' := [vi x]) rfl ?_
      refine M.if_ne (tgt := 74) rfl (qI (by omega)) rfl (fun hne => ?_) (fun heq => ?_)
      · skip
        refine M.run 2 (pc' := 76) (lv' := [some (vr o), some (vi x), some (vr q)]) (st' := [vr q, vr o]) rfl ?_
        refine M.put fl_X3_31 rfl (hS3.1) rfl rfl (Nat.le_of_ble_eq_true rfl) ?_
        have hS4 : isRe o L (2 * szE e) c2 (k + 1) x m1 q f1 f2 gc fq (up w4 o (Ob 2 [vr (o + 1), vr (o + 5), vr (o + 6), vi ((2 * szE e : Nat) : Int), vi ((c2 : Nat) : Int), vi ((k + 1 : Nat) : Int), vi x, vr m1, vr q, vi f1, vi f2])) := isRe_1 hS3
        have hG4 : FrR o w4 (up w4 o (Ob 2 [vr (o + 1), vr (o + 5), vr (o + 6), vi ((2 * szE e : Nat) : Int), vi ((c2 : Nat) : Int), vi ((k + 1 : Nat) : Int), vi x, vr m1, vr q, vi f1, vi f2])) := FrR.u FrR.rf o (by omega)
        refine M.run 4 (pc' := 83) (lv' := [some (vr o), some (vi x), some (vr q)]) (st' := [vi 0, vi 0, vi x, vr o]) rfl ?_
        refine M.callV (kX3_addClause l G o L (2 * szE e) c2 (k + 1) x m1 q f1 f2 gc fq hc2 x 0 0 (by omega) (by omega) (by omega)) cv_X3_95 cd_X3_addClause rfl (st := []) rfl (hS4.1) (by omega) (by decide) rfl (by omega) (by omega) hS4 (fun r5 w5 q5 => ?_)
        obtain ⟨hr5, hS5, hg5⟩ := q5
        rw [hr5]
        refine M.run 1 (pc' := 87) (lv' := [some (vr o), some (vi x), some (vr q)]) (st' := [vi 1]) rfl ?_
        refine M.zret rfl (Or.inr rfl) (by omega) (by omega) ?_
        show QL G o L c2 j m1 m2 f1 f2 fq x w _ _ ((pLv L x 8).2.1 j)
        rw [hE]
        show if _ then _ else _
        rw [if_pos h40]
        refine ⟨q, hc, gc, rfl, hq1, hq6, hK1, ⟨by omega, by omega⟩, ((hg5 q hq5).trans (hG4 q hq5)).trans hL3, hC3, ?_, fun a ha hb => ((hg5 a ha).trans (hG4 a ha)).trans (hG3 a ha hb)⟩
        rw [if_neg (by omega), if_neg (by omega)]
        exact hS5
      · skip
        refine M.run 2 (pc' := 68) (lv' := [some (vr o), some (vi x), some (vr q)]) (st' := [vr q, vr o]) rfl ?_
        refine M.put fl_X3_28 rfl (hS3.1) rfl rfl (Nat.le_of_ble_eq_true rfl) ?_
        have hS4 : isRe o L (2 * szE e) c2 (k + 1) x q m2 f1 f2 gc fq (up w4 o (Ob 2 [vr (o + 1), vr (o + 5), vr (o + 6), vi ((2 * szE e : Nat) : Int), vi ((c2 : Nat) : Int), vi ((k + 1 : Nat) : Int), vi x, vr q, vr m2, vi f1, vi f2])) := isRe_1 hS3
        have hG4 : FrR o w4 (up w4 o (Ob 2 [vr (o + 1), vr (o + 5), vr (o + 6), vi ((2 * szE e : Nat) : Int), vi ((c2 : Nat) : Int), vi ((k + 1 : Nat) : Int), vi x, vr q, vr m2, vi f1, vi f2])) := FrR.u FrR.rf o (by omega)
        refine M.run 5 (pc' := 83) (lv' := [some (vr o), some (vi x), some (vr q)]) (st' := [vi 0, vi 0, vi x, vr o]) rfl ?_
        refine M.callV (kX3_addClause l G o L (2 * szE e) c2 (k + 1) x q m2 f1 f2 gc fq hc2 x 0 0 (by omega) (by omega) (by omega)) cv_X3_95 cd_X3_addClause rfl (st := []) rfl (hS4.1) (by omega) (by decide) rfl (by omega) (by omega) hS4 (fun r5 w5 q5 => ?_)
        obtain ⟨hr5, hS5, hg5⟩ := q5
        rw [hr5]
        refine M.run 1 (pc' := 87) (lv' := [some (vr o), some (vi x), some (vr q)]) (st' := [vi 1]) rfl ?_
        refine M.zret rfl (Or.inr rfl) (by omega) (by omega) ?_
        show QL G o L c2 j m1 m2 f1 f2 fq x w _ _ ((pLv L x 8).2.1 j)
        rw [hE]
        show if _ then _ else _
        rw [if_pos h40]
        refine ⟨q, hc, gc, rfl, hq1, hq6, hK1, ⟨by omega, by omega⟩, ((hg5 q hq5).trans (hG4 q hq5)).trans hL3, hC3, ?_, fun a ha hb => ((hg5 a ha).trans (hG4 a ha)).trans (hG3 a ha hb)⟩
        rw [if_pos (by omega), if_pos (by omega)]
        exact hS5
    · rw [if_neg h40] at q2
      obtain ⟨hr2, hS2, hg2⟩ := q2
      rw [hr2]
      refine M.if_ne (tgt := 29) rfl (qI (by decide)) rfl (fun q => absurd rfl q) (fun _ => ?_)
      refine M.run 1 (pc' := 28) (lv' := [some (vr o), some (vi x), none]) (st' := [vi 0]) rfl ?_
      refine M.zret rfl (Or.inl rfl) (by omega) (by omega) ?_
      show QL G o L c2 j m1 m2 f1 f2 fq x w _ _ ((pLv L x 8).2.1 j)
      rw [hE]
      show if _ then _ else _
      rw [if_neg h40]
      exact ⟨rfl, by omega, ⟨_, _, hS2⟩, FrR.tr hG1 hg2⟩
  · rw [hE] at q1
    obtain ⟨hr1, hg1, hy1, d1, gc, hS1⟩ := q1
    rw [hr1]
    refine M.if_eq (tgt := 27) rfl (qI (by decide)) rfl (fun _ => ?_) (fun q => absurd rfl q)
    refine M.run 1 (pc' := 28) (lv' := [some (vr o), some (vi x), none]) (st' := [vi 0]) rfl ?_
    refine M.zret rfl (Or.inl rfl) (by omega) (by omega) ?_
    show QL G o L c2 j m1 m2 f1 f2 fq x w _ _ ((pLv L x 8).2.1 j)
    rw [hE]
    exact ⟨rfl, hy1, ⟨_, _, hS1⟩, FrR.tr hFa2 hg1⟩
