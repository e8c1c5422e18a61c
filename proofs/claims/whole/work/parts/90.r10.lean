/-! the class reads all clauses -/
/-- what has been read: the clauses, what loses, what waits -/
abbrev Rs : Type := List (Int × Int × Int) × Option Ex × Option Ex
abbrev Rr : Type := (Rs × Nat) ⊕ (Int × Nat)
def pLaC (L : List (Int × Int × Int)) (s : Rs) (x : Int) : Pr → Rr
  | .inl (e, k) => if (gTk L k).1 = 40 then .inl ((s.1 ++ [(x, 0, 0)], if x = 0 then some e else s.2.1, if x = 0 then s.2.2 else some e), k + 1) else .inr (1, k)
  | .inr e => .inr e
def pDeC (s : Rs) (x : Int) : Dr → Rr
  | .inl (v, k) => .inl ((s.1 ++ [(x, v.1, v.2)], s.2.1, s.2.2), k)
  | .inr e => .inr e
abbrev agn (s : Rs) (x : Int) : Prop := (x = 0 ∧ s.2.1.isSome = true) ∨ (x = 1 ∧ s.2.2.isSome = true)
def pCla (L : List (Int × Int × Int)) (s : Rs) (j : Nat) : Rr :=
  if 5 < (gTk L j).1 then .inr (1, j)
  else if agn s (gTk L j).1 then .inr (4, j)
  else if 24 ≤ s.1.length then .inr (6, j)
  else if (gTk L j).1 = 0 ∨ (gTk L j).1 = 1 then pLaC L s (gTk L j).1 ((pLv L (gTk L j).1 8).2.1 (j + 1))
  else pDeC s (gTk L j).1 (pDee L (gTk L j).1 (j + 1))
def pRea (L : List (Int × Int × Int)) : Nat → Rs → Nat → Rr
  | 0, s, j => .inl (s, j)
  | n + 1, s, j => if (gTk L j).1 = 51 then .inl (s, j) else match pCla L s j with
    | .inl (s2, k) => pRea L n s2 k
    | .inr e => .inr e
def cRel (fq : Nat → Int) (Lc : List (Int × Int × Int)) : Prop := ∀ k : Nat, k < Lc.length → fq (3 * k) = (gTk Lc k).1 ∧ fq (3 * k + 1) = (gTk Lc k).2.1 ∧ fq (3 * k + 2) = (gTk Lc k).2.2
theorem gTk_l {A : List (Int × Int × Int)} {x : Int × Int × Int} {k : Nat} (h : k < A.length) : gTk (A ++ [x]) k = gTk A k := by
  unfold gTk
  rw [List.getD_eq_getElem?_getD, List.getD_eq_getElem?_getD, List.getElem?_append_left h]
theorem gTk_e {A : List (Int × Int × Int)} {x : Int × Int × Int} : gTk (A ++ [x]) A.length = x := by
  unfold gTk
  rw [List.getD_eq_getElem?_getD, List.getElem?_append_right (Nat.le_refl _), Nat.sub_self]
  rfl
theorem cRel_app {fq : Nat → Int} {Lc : List (Int × Int × Int)} {x a b : Int} (h : cRel fq Lc) : cRel (uN (uN (uN fq (3 * Lc.length) x) (3 * Lc.length + 1) a) (3 * Lc.length + 2) b) (Lc ++ [(x, a, b)]) := by
  intro k hk
  rw [List.length_append] at hk
  have hk2 : k < Lc.length + 1 := hk
  by_cases e : k = Lc.length
  · subst e
    rw [gTk_e]
    refine ⟨?_, ?_, ?_⟩
    · rw [uN_o (by omega), uN_o (by omega), uN_s]
    · rw [uN_o (by omega), uN_s]
    · rw [uN_s]
  · rw [gTk_l (by omega)]
    obtain ⟨h1, h2, h3⟩ := h k (by omega)
    refine ⟨?_, ?_, ?_⟩
    · rw [uN_o (by omega), uN_o (by omega), uN_o (by omega)]; exact h1
    · rw [uN_o (by omega), uN_o (by omega), uN_o (by omega)]; exact h2
    · rw [uN_o (by omega), uN_o (by omega), uN_o (by omega)]; exact h3
/-- a law's orders in a row of their own, made since w0 -/
def cEx (G : GT) (o : Nat) (w0 : Wo) (m : Nat) (w : Wo) : Option Ex → Prop
  | none => m = gN G
  | some e => okE e ∧ (0 < szE e ∧ szE e ≤ 300) ∧ gB G ≤ m ∧ lk w0 m = none ∧ (m < o ∨ o + 6 < m) ∧ ∃ h, lk w m = some (Ar 0 (2 * szE e) h) ∧ cdAt h 0 (cdE e 0)
/-- what was there stands but for the reader's own cells -/
def FrN (o : Nat) (w0 w : Wo) : Prop := ∀ a : Nat, (a < o ∨ o + 6 < a) → lk w0 a ≠ none → lk w a = lk w0 a
def isRS (G : GT) (o : Nat) (L : List (Int × Int × Int)) (w0 : Wo) (s : Rs) (j : Nat) (w : Wo) : Prop := ∃ c1 ly m1 m2 fc fq, isRe o L c1 s.1.length j ly m1 m2 0 (-1) fc fq w ∧ s.1.length ≤ 24 ∧ cRel fq s.1 ∧ cEx G o w0 m1 w s.2.1 ∧ cEx G o w0 m2 w s.2.2 ∧ FrN o w0 w
def QC (G : GT) (o : Nat) (L : List (Int × Int × Int)) (w0 : Wo) (r : Option AV) (w' : Wo) : Rr → Prop
  | .inl (s, k) => r = some (vi 1) ∧ k ≤ 301 ∧ isRS G o L w0 s k w'
  | .inr (f, k) => r = some (vi 0) ∧ k ≤ 301 ∧ (∃ c1 c2 ly m1 m2 fc fq, isRe o L c1 c2 k ly m1 m2 f (gTk L k).2.2 fc fq w') ∧ FrN o w0 w'
theorem FrN.fr {o : Nat} {w0 w w' : Wo} (h : FrN o w0 w) (h2 : FrR o w w') : FrN o w0 w' := fun a ha hn => (h2 a ha).trans (h a ha hn)
theorem FrN.nq {o q : Nat} {w0 w w' : Wo} (h : FrN o w0 w) (hq : lk w q = none) (h2 : ∀ a : Nat, (a < o ∨ o + 6 < a) → a ≠ q → lk w' a = lk w a) : FrN o w0 w' := fun a ha hn => (h2 a ha (fun z => hn (by rw [← h a ha hn, z, hq]))).trans (h a ha hn)
theorem FrN.no {o q : Nat} {w0 w : Wo} (h : FrN o w0 w) (hq : lk w q = none) (hq2 : q < o ∨ o + 6 < q) : lk w0 q = none := by
  cases e : lk w0 q with
  | none => rfl
  | some c => rw [h q hq2 (by rw [e]; exact Option.some_ne_none c), e] at hq; cases hq
theorem cEx_fr {G : GT} {o m : Nat} {w0 w w' : Wo} {z : Option Ex} (h : cEx G o w0 m w z) (h2 : ∀ a : Nat, (a < o ∨ o + 6 < a) → lk w a ≠ none → lk w' a = lk w a) : cEx G o w0 m w' z := by
  cases z with
  | none => exact h
  | some e =>
    obtain ⟨h3, h4, h5, h6, h7, hh, h8, h9⟩ := h
    exact ⟨h3, h4, h5, h6, h7, hh, (h2 m h7 (by rw [h8]; exact Option.some_ne_none _)).trans h8, h9⟩
/-- how many ints such a row has -/
def cLn : Option Ex → Int
  | none => 0
  | some e => ((2 * szE e : Nat) : Int)
section QCEX
variable {l : Launch} {G : GT} {y : MethodName} {cc : ByteArray} {t : Tab} {nL : Nat} {ret : Option FieldType} {d mc ms : Nat} {Qp : Option AV → Wo → Prop} {g : gF}
variable {k n : Nat} {w : Wo} {pc : Nat} {lv : Lo} {st : List AV}
theorem Mach.alenE {o m : Nat} {w0 : Wo} {z : Option Ex} (M : Mach l G y cc t nL ret d mc ms Qp g) (hq : qlk t pc = some (.arraylength, 1)) (h : cEx G o w0 m w z) (kk : g k n w (pc + 1) lv (vi (cLn z) :: st)) : g k n w pc lv (vr m :: st) := by
  cases z with
  | none =>
    have e : m = gN G := h
    subst e
    exact M.alenN hq kk
  | some e =>
    obtain ⟨h3, h4, h5, h6, h7, hh, h8, h9⟩ := h
    exact M.alen hq h8 (by decide) kk
end QCEX
theorem cLn_b {G : GT} {o m : Nat} {w0 w : Wo} {z : Option Ex} (h : cEx G o w0 m w z) : (0 ≤ cLn z ∧ cLn z ≤ 600) ∧ (0 < cLn z ↔ z.isSome = true) := by
  cases z with
  | none => exact ⟨⟨Int.le_refl 0, by decide⟩, ⟨fun q => absurd q (by decide), fun q => by cases q⟩⟩
  | some e =>
    obtain ⟨h3, h4, _⟩ := h
    show (0 ≤ ((2 * szE e : Nat) : Int) ∧ ((2 * szE e : Nat) : Int) ≤ 600) ∧ (0 < ((2 * szE e : Nat) : Int) ↔ true = true)
    exact ⟨⟨by omega, by omega⟩, ⟨fun _ => rfl, fun _ => by omega⟩⟩
def cM (x : Int) : Nat := if x ≤ 1 then 1 else 0
set_option maxHeartbeats 4000000 in
set_option maxRecDepth 100000 in
theorem kX3_clause (l : Launch) (G : GT) (o : Nat) (L : List (Int × Int × Int)) (hB : tkB L) (hx51 : ∀ j : Nat, (gTk L j).1 ≠ 51 → j ≤ 300) (w0 : Wo) (s : Rs) (j : Nat) (hj : j ≤ 300) : Ctr l G yX3_clause cX3_clause 3 ((Option.some Jvm.ClassFile.FieldType.boolean)) 67 (cM (gTk L j).1) (602 * cM (gTk L j).1) [vr o] (fun w => isRS G o L w0 s j w) (fun w r w' => QC G o L w0 r w' (pCla L s j)) := by
  refine Ctr.of (t := tX3_clause) (lv0 := [some (vr o), none, none]) (by decide +kernel) tX3_clause_ok rfl rfl (fun w g hP M => ?_)
  obtain ⟨⟨ht1, ht2⟩, _⟩ := hB j
  obtain ⟨c1, ly, m1, m2, fc, fq, hR, h24, hcr, hx1, hx2, hF⟩ := hP
  have hn1 := cLn_b hx1
  have hn2 := cLn_b hx2
  refine M.run 1 (pc' := 1) (lv' := [some (vr o), none, none]) (st' := [vr o]) rfl ?_
  refine M.get fl_X3_12 rfl hR.1 (kf := 0) (v := vr (o + 1)) rfl ?_
  refine M.run 1 (pc' := 5) (lv' := [some (vr o), none, none]) (st' := [vr o, vr (o + 1)]) rfl ?_
  refine M.get fl_X3_38 rfl hR.1 (kf := 5) (v := vi ((j : Nat) : Int)) rfl ?_
  obtain ⟨_, _, _, hKo, _⟩ := id hR.2.2.2
  refine M.callV (kX8_sort l G (o + 1) (o + 2) (o + 3) (o + 4) (ap4_o o) L j (by omega)) cv_X3_51 cd_X8_sort rfl (st := []) rfl hKo (by omega) (by decide) rfl (Nat.zero_le _) (Nat.zero_le _) hR.2.2.2 (fun r1 w2 q3 => ?_)
  rw [q3.1, q3.2]
  refine M.run 2 (pc' := 13) (lv' := [some (vr o), some (vi (gTk L j).1), none]) (st' := [vi (gTk L j).1]) rfl ?_
  refine M.run 1 (pc' := 14) (lv' := [some (vr o), some (vi (gTk L j).1), none]) (st' := [vi 5, vi (gTk L j).1]) rfl ?_
  refine M.icmp_le (tgt := 23) rfl (qI (by omega)) (qI (by decide)) rfl (fun h5 => ?_) (fun h5 => ?_)
  · have hT : ∀ v : Int, (v = 1 ∧ agn s (gTk L j).1) ∨ (v = 0 ∧ ¬ agn s (gTk L j).1) → g 0 0 w 53 [some (vr o), some (vi (gTk L j).1), none] [vi v] := by
      intro v hv
      refine M.run 2 (pc' := 55) (lv' := [some (vr o), some (vi (gTk L j).1), some (vi v)]) (st' := [vi v]) rfl ?_
      refine M.if_eq (tgt := 64) rfl (qI (by omega)) rfl (fun hv0 => ?_) (fun hv0 => ?_)
      · have hag : ¬ agn s (gTk L j).1 := by
          rcases hv with hv | hv
          · omega
          · exact hv.2
        refine M.run 1 (pc' := 65) (lv' := [some (vr o), some (vi (gTk L j).1), some (vi v)]) (st' := [vr o]) rfl ?_
        refine M.get fl_X3_42 rfl hR.1 (kf := 4) (v := vi ((s.1.length : Nat) : Int)) rfl ?_
        refine M.run 1 (pc' := 70) (lv' := [some (vr o), some (vi (gTk L j).1), some (vi v)]) (st' := [vi 24, vi ((s.1.length : Nat) : Int)]) rfl ?_
        refine M.icmp_lt (tgt := 80) rfl (qI (by omega)) (qI (by decide)) rfl (fun hl => ?_) (fun hl => ?_)
        · have hlt : s.1.length < 24 := by omega
          refine M.run 2 (pc' := 82) (lv' := [some (vr o), some (vi (gTk L j).1), some (vi v)]) (st' := [vr o, vr o]) rfl ?_
          refine M.get fl_X3_38 rfl hR.1 (kf := 5) (v := vi ((j : Nat) : Int)) rfl ?_
          refine M.run 2 (pc' := 87) (lv' := [some (vr o), some (vi (gTk L j).1), some (vi v)]) (st' := [vi (((j + 1 : Nat) : Int)), vr o]) rfl ?_
          refine M.put fl_X3_38 rfl (hR.1) rfl rfl (Nat.le_of_ble_eq_true rfl) ?_
          change g 0 0 (up w o (Ob 2 [vr (o + 1), vr (o + 5), vr (o + 6), vi ((c1 : Nat) : Int), vi ((s.1.length : Nat) : Int), vi ((j + 1 : Nat) : Int), vi ly, vr m1, vr m2, vi 0, vi ((-1))])) 90 [some (vr o), some (vi (gTk L j).1), some (vi v)] []
          have hRa1 : isRe o L c1 s.1.length (j + 1) ly m1 m2 0 ((-1)) fc fq (up w o (Ob 2 [vr (o + 1), vr (o + 5), vr (o + 6), vi ((c1 : Nat) : Int), vi ((s.1.length : Nat) : Int), vi ((j + 1 : Nat) : Int), vi ly, vr m1, vr m2, vi 0, vi ((-1))])) := isRe_1 hR
          have hFa1 : FrR o w (up w o (Ob 2 [vr (o + 1), vr (o + 5), vr (o + 6), vi ((c1 : Nat) : Int), vi ((s.1.length : Nat) : Int), vi ((j + 1 : Nat) : Int), vi ly, vr m1, vr m2, vi 0, vi ((-1))])) := FrR.u FrR.rf o (by omega)
          generalize up w o (Ob 2 [vr (o + 1), vr (o + 5), vr (o + 6), vi ((c1 : Nat) : Int), vi ((s.1.length : Nat) : Int), vi ((j + 1 : Nat) : Int), vi ly, vr m1, vr m2, vi 0, vi ((-1))]) = wa1 at hRa1 hFa1 ⊢
          have hx1b := cEx_fr hx1 (fun a ha _ => hFa1 a ha)
          have hx2b := cEx_fr hx2 (fun a ha _ => hFa1 a ha)
          have hFb := hF.fr hFa1
          by_cases hle : (gTk L j).1 ≤ 1
          · have hcm : cM (gTk L j).1 = 1 := if_pos hle
            have hA : g 0 0 wa1 99 [some (vr o), some (vi (gTk L j).1), some (vi v)] [] := by
              refine M.run 2 (pc' := 101) (lv' := [some (vr o), some (vi (gTk L j).1), some (vi v)]) (st' := [vi (gTk L j).1, vr o]) rfl ?_
              refine M.callV (kX3_lawClause l G o L c1 s.1.length (j + 1) ly m1 m2 0 (-1) fc fq (by omega) hB hx51 hlt (gTk L j).1 (by omega)) cv_X3_77 cd_X3_lawClause rfl (st := []) rfl (hRa1.1) (by omega) (by decide) rfl (by omega) (by omega) hRa1 (fun r5 w5 q5 => ?_)
              rcases hE : (pLv L (gTk L j).1 8).2.1 (j + 1) with ⟨e, k⟩ | ⟨f, k⟩
              · rw [hE] at q5
                by_cases h40 : (gTk L k).1 = 40
                · change (if _ then _ else _) at q5
                  rw [if_pos h40] at q5
                  obtain ⟨q, hh, gc, hr, hq1, hq2, hok, hsz, hL, hC, hS, hfr⟩ := q5
                  rw [hr]
                  refine M.zret rfl (Or.inr rfl) (by omega) (by omega) ?_
                  show QC G o L w0 _ _ (pCla L s j)
                  rw [show pCla L s j = _ from (if_neg (by omega)).trans ((if_neg hag).trans ((if_neg (by omega)).trans (if_pos (by omega))))]
                  rw [hE]
                  show QC G o L w0 _ _ (if _ then _ else _)
                  rw [if_pos h40]
                  have hon := isRe_on hRa1 hq2
                  have hfr2 : ∀ a : Nat, (a < o ∨ o + 6 < a) → lk wa1 a ≠ none → lk w5 a = lk wa1 a := fun a ha hn => hfr a ha (fun z => hn (by rw [z]; exact hq2))
                  have hnew : cEx G o w0 q w5 (some e) := ⟨hok, ⟨pLv_sz hB 8 _ _ _ hE, by omega⟩, hq1, FrN.no hFb hq2 hon, hon, hh, hL, hC⟩
                  refine ⟨rfl, by omega, 2 * szE e, (gTk L j).1, if (gTk L j).1 = 0 then q else m1, if (gTk L j).1 = 0 then m2 else q, gc, _, ?_, ?_, cRel_app hcr, ?_, ?_, hFb.nq hq2 hfr⟩
                  · rw [List.length_append]; exact hS
                  · rw [List.length_append]; exact hlt
                  · show cEx G o w0 (if (gTk L j).1 = 0 then q else m1) w5 (if (gTk L j).1 = 0 then some e else s.2.1)
                    by_cases h0 : (gTk L j).1 = 0
                    · rw [if_pos h0, if_pos h0]; exact hnew
                    · rw [if_neg h0, if_neg h0]; exact cEx_fr hx1b hfr2
                  · show cEx G o w0 (if (gTk L j).1 = 0 then m2 else q) w5 (if (gTk L j).1 = 0 then s.2.2 else some e)
                    by_cases h0 : (gTk L j).1 = 0
                    · rw [if_pos h0, if_pos h0]; exact cEx_fr hx2b hfr2
                    · rw [if_neg h0, if_neg h0]; exact hnew
                · change (if _ then _ else _) at q5
                  rw [if_neg h40] at q5
                  obtain ⟨hr, hk, ⟨d1, gc, hS⟩, hg⟩ := q5
                  rw [hr]
                  refine M.zret rfl (Or.inl rfl) (by omega) (by omega) ?_
                  show QC G o L w0 _ _ (pCla L s j)
                  rw [show pCla L s j = _ from (if_neg (by omega)).trans ((if_neg hag).trans ((if_neg (by omega)).trans (if_pos (by omega))))]
                  rw [hE]
                  show QC G o L w0 _ _ (if _ then _ else _)
                  rw [if_neg h40]
                  exact ⟨rfl, hk, ⟨_, _, _, _, _, _, _, hS⟩, hFb.fr hg⟩
              · rw [hE] at q5
                obtain ⟨hr, hk, ⟨d1, gc, hS⟩, hg⟩ := q5
                rw [hr]
                refine M.zret rfl (Or.inl rfl) (by omega) (by omega) ?_
                show QC G o L w0 _ _ (pCla L s j)
                rw [show pCla L s j = _ from (if_neg (by omega)).trans ((if_neg hag).trans ((if_neg (by omega)).trans (if_pos (by omega))))]
                rw [hE]
                exact ⟨rfl, hk, ⟨_, _, _, _, _, _, _, hS⟩, hFb.fr hg⟩
            refine M.run 1 (pc' := 91) (lv' := [some (vr o), some (vi (gTk L j).1), some (vi v)]) (st' := [vi (gTk L j).1]) rfl ?_
            refine M.if_eq (tgt := 99) rfl (qI (by omega)) rfl (fun _ => hA) (fun h0 => ?_)
            refine M.run 2 (pc' := 96) (lv' := [some (vr o), some (vi (gTk L j).1), some (vi v)]) (st' := [vi 1, vi (gTk L j).1]) rfl ?_
            exact M.icmp_ne (tgt := 105) rfl (qI (by omega)) (qI (by decide)) rfl (fun h1 => absurd h1 (by omega)) (fun _ => hA)
          · refine M.run 1 (pc' := 91) (lv' := [some (vr o), some (vi (gTk L j).1), some (vi v)]) (st' := [vi (gTk L j).1]) rfl ?_
            refine M.if_eq (tgt := 99) rfl (qI (by omega)) rfl (fun h0 => absurd h0 (by omega)) (fun h0 => ?_)
            refine M.run 2 (pc' := 96) (lv' := [some (vr o), some (vi (gTk L j).1), some (vi v)]) (st' := [vi 1, vi (gTk L j).1]) rfl ?_
            refine M.icmp_ne (tgt := 105) rfl (qI (by omega)) (qI (by decide)) rfl (fun h1 => ?_) (fun h1 => absurd h1 (by omega))
            refine M.run 2 (pc' := 107) (lv' := [some (vr o), some (vi (gTk L j).1), some (vi v)]) (st' := [vi (gTk L j).1, vr o]) rfl ?_
            refine M.callV (kX3_deedClause l G o L c1 s.1.length (j + 1) ly m1 m2 0 (-1) fc fq (by omega) hB hx51 hlt (gTk L j).1 (by omega)) cv_X3_80 cd_X3_deedClause rfl (st := []) rfl (hRa1.1) (by omega) (by decide) rfl (Nat.zero_le _) (Nat.zero_le _) hRa1 (fun r5 w5 q5 => ?_)
            have hpc : pCla L s j = pDeC s (gTk L j).1 (pDee L (gTk L j).1 (j + 1)) := (if_neg (by omega)).trans ((if_neg hag).trans ((if_neg (by omega)).trans (if_neg (by omega))))
            rcases hE : pDee L (gTk L j).1 (j + 1) with ⟨v5, k⟩ | ⟨f, k⟩
            · rw [hE] at q5 hpc
              obtain ⟨hr, hg, hk, hS⟩ := q5
              rw [hr]
              refine M.zret rfl (Or.inr rfl) (Nat.zero_le _) (Nat.zero_le _) ?_
              show QC G o L w0 _ _ (pCla L s j)
              rw [hpc]
              refine ⟨rfl, hk, c1, ly, m1, m2, fc, _, ?_, ?_, cRel_app hcr, cEx_fr hx1b (fun a ha _ => hg a ha), cEx_fr hx2b (fun a ha _ => hg a ha), hFb.fr hg⟩
              · rw [List.length_append]; exact hS
              · rw [List.length_append]; exact hlt
            · rw [hE] at q5 hpc
              obtain ⟨hr, hg, hk, hS⟩ := q5
              rw [hr]
              refine M.zret rfl (Or.inl rfl) (Nat.zero_le _) (Nat.zero_le _) ?_
              show QC G o L w0 _ _ (pCla L s j)
              rw [hpc]
              exact ⟨rfl, hk, ⟨_, _, _, _, _, _, _, hS⟩, hFb.fr hg⟩
        · skip
          refine M.run 2 (pc' := 76) (lv' := [some (vr o), some (vi (gTk L j).1), some (vi v)]) (st' := [vi 6, vr o]) rfl ?_
          refine M.callV (kX3_refuse l G o L c1 s.1.length j ly m1 m2 0 (-1) fc fq (by omega) hB 6 (by decide)) cv_X3_73 cd_X3_refuse rfl (st := []) rfl (hR.1) (by omega) (by decide) rfl (Nat.zero_le _) (Nat.zero_le _) hR (fun r5 w5 q5 => ?_)
          obtain ⟨hr5, hS5, hg5⟩ := q5
          rw [hr5]
          refine M.zret rfl (Or.inl rfl) (Nat.zero_le _) (Nat.zero_le _) ?_
          show QC G o L w0 _ _ (pCla L s j)
          rw [show pCla L s j = .inr (6, j) from (if_neg (by omega)).trans ((if_neg hag).trans (if_pos (by omega)))]
          exact ⟨rfl, by omega, ⟨_, _, _, _, _, _, _, hS5⟩, hF.fr hg5⟩
      · have hag : agn s (gTk L j).1 := by
          rcases hv with hv | hv
          · exact hv.2
          · omega
        refine M.run 2 (pc' := 60) (lv' := [some (vr o), some (vi (gTk L j).1), some (vi v)]) (st' := [vi 4, vr o]) rfl ?_
        refine M.callV (kX3_refuse l G o L c1 s.1.length j ly m1 m2 0 (-1) fc fq (by omega) hB 4 (by decide)) cv_X3_73 cd_X3_refuse rfl (st := []) rfl (hR.1) (by omega) (by decide) rfl (Nat.zero_le _) (Nat.zero_le _) hR (fun r5 w5 q5 => ?_)
        obtain ⟨hr5, hS5, hg5⟩ := q5
        rw [hr5]
        refine M.zret rfl (Or.inl rfl) (Nat.zero_le _) (Nat.zero_le _) ?_
        show QC G o L w0 _ _ (pCla L s j)
        rw [show pCla L s j = .inr (4, j) from (if_neg (by omega)).trans (if_pos hag)]
        exact ⟨rfl, by omega, ⟨_, _, _, _, _, _, _, hS5⟩, hF.fr hg5⟩
    refine M.run 1 (pc' := 24) (lv' := [some (vr o), some (vi (gTk L j).1), none]) (st' := [vi (gTk L j).1]) rfl ?_
    have h52 : ¬ agn s (gTk L j).1 → g 0 0 w 52 [some (vr o), some (vi (gTk L j).1), none] [] := fun hag => M.run 1 (pc' := 53) (lv' := [some (vr o), some (vi (gTk L j).1), none]) (st' := [vi 0]) rfl (hT 0 (Or.inr ⟨rfl, hag⟩))
    have h48 : agn s (gTk L j).1 → g 0 0 w 48 [some (vr o), some (vi (gTk L j).1), none] [] := fun hag => M.run 2 (pc' := 53) (lv' := [some (vr o), some (vi (gTk L j).1), none]) (st' := [vi 1]) rfl (hT 1 (Or.inl ⟨rfl, hag⟩))
    have h35 : ¬ ((gTk L j).1 = 0 ∧ s.2.1.isSome = true) → g 0 0 w 35 [some (vr o), some (vi (gTk L j).1), none] [] := by
      intro ha0
      refine M.run 2 (pc' := 37) (lv' := [some (vr o), some (vi (gTk L j).1), none]) (st' := [vi 1, vi (gTk L j).1]) rfl ?_
      refine M.icmp_ne (tgt := 52) rfl (qI (by omega)) (qI (by decide)) rfl (fun h1 => ?_) (fun h1 => ?_)
      · exact h52 (fun q => q.elim ha0 (fun z => h1 z.1))
      · refine M.run 1 (pc' := 41) (lv' := [some (vr o), some (vi (gTk L j).1), none]) (st' := [vr o]) rfl ?_
        refine M.get fl_X3_31 rfl hR.1 (kf := 8) (v := vr m2) rfl ?_
        refine M.alenE rfl hx2 ?_
        refine M.if_le (tgt := 52) rfl (qI (by omega)) rfl (fun h2 => h52 (fun q => q.elim ha0 (fun z => absurd (hn2.2.mpr z.2) (by omega)))) (fun h2 => h48 (Or.inr ⟨h1, hn2.2.mp (by omega)⟩))
    refine M.if_ne (tgt := 35) rfl (qI (by omega)) rfl (fun h0 => h35 (fun q => h0 q.1)) (fun h0 => ?_)
    refine M.run 1 (pc' := 28) (lv' := [some (vr o), some (vi (gTk L j).1), none]) (st' := [vr o]) rfl ?_
    refine M.get fl_X3_28 rfl hR.1 (kf := 7) (v := vr m1) rfl ?_
    refine M.alenE rfl hx1 ?_
    exact M.if_gt (tgt := 48) rfl (qI (by omega)) rfl (fun h2 => h48 (Or.inl ⟨h0, hn1.2.mp h2⟩)) (fun h2 => h35 (fun q => h2 (hn1.2.mpr q.2)))
  · skip
    refine M.run 2 (pc' := 19) (lv' := [some (vr o), some (vi (gTk L j).1), none]) (st' := [vi 1, vr o]) rfl ?_
    refine M.callV (kX3_refuse l G o L c1 s.1.length j ly m1 m2 0 (-1) fc fq (by omega) hB 1 (by decide)) cv_X3_73 cd_X3_refuse rfl (st := []) rfl (hR.1) (by omega) (by decide) rfl (Nat.zero_le _) (Nat.zero_le _) hR (fun r5 w5 q5 => ?_)
    obtain ⟨hr5, hS5, hg5⟩ := q5
    rw [hr5]
    refine M.zret rfl (Or.inl rfl) (Nat.zero_le _) (Nat.zero_le _) ?_
    show QC G o L w0 _ _ (pCla L s j)
    rw [show pCla L s j = .inr (1, j) from if_pos (by omega)]
    exact ⟨rfl, by omega, ⟨_, _, _, _, _, _, _, hS5⟩, hF.fr hg5⟩
