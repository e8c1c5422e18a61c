/-- what is written: how many orders, the class's orders by the cell of the first, the orders one behind another -/
abbrev Ex : Type := Nat × (Nat → List (Int × Int)) × List (Int × Int)
/-- what comes of reading: what is written and the place behind it, or a fault's sort and its place -/
abbrev Pr : Type := (Ex × Nat) ⊕ (Int × Nat)
abbrev szE (e : Ex) : Nat := e.1
abbrev cdE (e : Ex) (b : Nat) : List (Int × Int) := e.2.1 b
def lfE (o v : Int) : Ex := (1, fun _ => [(o, v)], [(o, v)])
def unE (o : Int) (a : Ex) : Ex := (szE a + 1, fun b => cdE a b ++ [(o, 0)], a.2.2 ++ [(o, 0)])
def biE (o : Int) (a c : Ex) : Ex := (szE a + szE c + 1, fun b => cdE a b ++ (cdE c (b + 2 * szE a) ++ [(o, 0)]), a.2.2 ++ (c.2.2 ++ [(o, 0)]))
def seE (c x z : Ex) : Ex := (szE c + szE x + szE z + 2, fun b => cdE c b ++ ((61, ((b + 2 * (szE c + szE x + 2) : Nat) : Int)) :: (cdE x (b + 2 * (szE c + 1)) ++ ((62, ((b + 2 * (szE c + szE x + szE z + 2) : Nat) : Int)) :: cdE z (b + 2 * (szE c + szE x + 2))))), c.2.2 ++ (x.2.2 ++ (z.2.2 ++ [(62, 0)])))
def okE (e : Ex) : Prop := ∀ b : Nat, (cdE e b).length = szE e
theorem okE_lf {o v : Int} : okE (lfE o v) := fun _ => rfl
theorem okE_un {o : Int} {a : Ex} (h : okE a) : okE (unE o a) := fun b => by
  show (cdE a b ++ [(o, 0)]).length = szE a + 1
  rw [List.length_append, h b]; rfl
theorem okE_bi {o : Int} {a c : Ex} (h : okE a) (h2 : okE c) : okE (biE o a c) := fun b => by
  show (cdE a b ++ (cdE c (b + 2 * szE a) ++ [(o, 0)])).length = szE a + szE c + 1
  rw [List.length_append, List.length_append, h b, h2]
  show szE a + (szE c + 1) = _
  omega
theorem okE_se {c x z : Ex} (h : okE c) (h2 : okE x) (h3 : okE z) : okE (seE c x z) := fun b => by
  show (cdE c b ++ ((61, ((b + 2 * (szE c + szE x + 2) : Nat) : Int)) :: (cdE x (b + 2 * (szE c + 1)) ++ ((62, ((b + 2 * (szE c + szE x + szE z + 2) : Nat) : Int)) :: cdE z (b + 2 * (szE c + szE x + 2)))))).length = szE c + szE x + szE z + 2
  rw [List.length_append, List.length_cons, List.length_append, List.length_cons, h b, h2, h3]
  omega
/-- these orders lie at b -/
def cdAt (g : Nat → Int) : Nat → List (Int × Int) → Prop
  | _, [] => True
  | b, x :: t => (g b = x.1 ∧ g (b + 1) = x.2) ∧ cdAt g (b + 2) t
theorem cdAt_app {g : Nat → Int} : ∀ (A : List (Int × Int)) {B : List (Int × Int)} {b : Nat}, cdAt g b A → cdAt g (b + 2 * A.length) B → cdAt g b (A ++ B)
  | [], B, b, _, h2 => h2
  | x :: A, B, b, h1, h2 => ⟨h1.1, cdAt_app A h1.2 (by rw [List.length_cons] at h2; rw [show b + 2 + 2 * A.length = b + 2 * (A.length + 1) by omega]; exact h2)⟩
theorem cdAt_eq {g g2 : Nat → Int} : ∀ (A : List (Int × Int)) {b : Nat}, cdAt g b A → (∀ i : Nat, b ≤ i → i < b + 2 * A.length → g2 i = g i) → cdAt g2 b A
  | [], b, _, _ => trivial
  | x :: A, b, h1, h2 => by
    rw [List.length_cons] at h2
    exact ⟨⟨(h2 b (by omega) (by omega)).trans h1.1.1, (h2 (b + 1) (by omega) (by omega)).trans h1.1.2⟩, cdAt_eq A h1.2 (fun i h3 h4 => h2 i (by omega) (by omega))⟩
/-- a call of a reading method -/
def PQ (o : Nat) (L : List (Int × Int × Int)) (c1 c2 j : Nat) (ly : Int) (m1 m2 : Nat) (f1 f2 : Int) (fc fq : Nat → Int) (w : Wo) (r : Option AV) (w' : Wo) : Pr → Prop
  | .inl (e, k) => r = some (vi 1) ∧ FrR o w w' ∧ (szE e + j ≤ k ∧ k ≤ 301) ∧ okE e ∧ ∃ gc, isRe o L (c1 + 2 * szE e) c2 k ly m1 m2 f1 f2 gc fq w' ∧ cdAt gc c1 (cdE e c1) ∧ ∀ i : Nat, i < c1 → gc i = fc i
  | .inr (s, k) => r = some (vi 0) ∧ FrR o w w' ∧ k ≤ 301 ∧ ∃ d1 gc, isRe o L d1 c2 k ly m1 m2 s (gTk L k).2.2 gc fq w'
def PC (l : Launch) (G : GT) (y : MethodName) (cc : ByteArray) (mL d : Nat) (o : Nat) (L : List (Int × Int × Int)) (ly : Int) (op : Nat) (f : Nat → Pr) : Prop := ∀ (c1 c2 j m1 m2 : Nat) (f1 f2 : Int) (fc fq : Nat → Int), c1 ≤ 2 * j → j ≤ 301 → Ctr l G y cc mL (Option.some Jvm.ClassFile.FieldType.boolean) d 0 0 [vr o, vi ((op : Nat) : Int)] (fun w => isRe o L c1 c2 j ly m1 m2 f1 f2 fc fq w) (fun w r w' => PQ o L c1 c2 j ly m1 m2 f1 f2 fc fq w r w' (f j))
/-- more of the same rank -/
def pLoop (L : List (Int × Int × Int)) (a b : Int) (f : Nat → Pr) : Nat → Ex → Nat → Pr
  | 0, _, j => .inr (1, j)
  | n + 1, e, j => if (gTk L j).1 = a ∨ (gTk L j).1 = b then (match f (j + 1) with
    | .inl (e2, k) => pLoop L a b f n (biE (gTk L j).1 e e2) k
    | .inr (s, k) => .inr (s, k)) else .inl (e, j)
def pBin (L : List (Int × Int × Int)) (a b : Int) (f : Nat → Pr) (j : Nat) : Pr := match f j with
  | .inl (e, k) => pLoop L a b f 301 e k
  | .inr (s, k) => .inr (s, k)
section QPLP
variable {L : List (Int × Int × Int)} {a b : Int} {f : Nat → Pr} {n j k : Nat} {e e2 : Ex} {s : Int}
theorem pLoop_e (hn : 0 < n) (h : ¬ ((gTk L j).1 = a ∨ (gTk L j).1 = b)) : pLoop L a b f n e j = .inl (e, j) := by
  cases n with
  | zero => omega
  | succ n => exact if_neg h
theorem pLoop_y (hn : 0 < n) (h : (gTk L j).1 = a ∨ (gTk L j).1 = b) (h2 : f (j + 1) = .inl (e2, k)) : pLoop L a b f n e j = pLoop L a b f (n - 1) (biE (gTk L j).1 e e2) k := by
  cases n with
  | zero => omega
  | succ n => refine (if_pos h).trans ?_; rw [h2]; rfl
theorem pLoop_n (hn : 0 < n) (h : (gTk L j).1 = a ∨ (gTk L j).1 = b) (h2 : f (j + 1) = .inr (s, k)) : pLoop L a b f n e j = .inr (s, k) := by
  cases n with
  | zero => omega
  | succ n => refine (if_pos h).trans ?_; rw [h2]
theorem pBin_y (h : f j = .inl (e, k)) : pBin L a b f j = pLoop L a b f 301 e k := by unfold pBin; rw [h]
theorem pBin_n (h : f j = .inr (s, k)) : pBin L a b f j = .inr (s, k) := by unfold pBin; rw [h]
end QPLP
theorem bi_at {g g2 : Nat → Int} {c1 : Nat} {e e2 : Ex} {x : Int} (ho : okE e) (ho2 : okE e2) (h1 : cdAt g c1 (cdE e c1)) (h2 : cdAt g2 (c1 + 2 * szE e) (cdE e2 (c1 + 2 * szE e))) (h3 : ∀ i : Nat, i < c1 + 2 * szE e → g2 i = g i) : cdAt (uN (uN g2 (c1 + 2 * szE e + 2 * szE e2) x) (c1 + 2 * szE e + 2 * szE e2 + 1) 0) c1 (cdE (biE x e e2) c1) := by
  show cdAt _ c1 (cdE e c1 ++ (cdE e2 (c1 + 2 * szE e) ++ [(x, 0)]))
  refine cdAt_app _ (cdAt_eq _ h1 (fun i h4 h5 => ?_)) ?_
  · rw [ho] at h5
    rw [uN_o (by omega), uN_o (by omega)]
    exact h3 i (by omega)
  · rw [ho]
    refine cdAt_app _ (cdAt_eq _ h2 (fun i h4 h5 => ?_)) ?_
    · rw [ho2] at h5
      rw [uN_o (by omega), uN_o (by omega)]
    · rw [ho2]
      exact ⟨⟨by rw [uN_o (by omega), uN_s], by rw [uN_s]⟩, trivial⟩

set_option maxHeartbeats 4000000 in
set_option maxRecDepth 100000 in
theorem kX3_sum (l : Launch) (G : GT) (o : Nat) (L : List (Int × Int × Int)) (ly : Int) (op d : Nat) (hd : 3 ≤ d) (hop : op ≤ 100) (hB : tkB L) (hx51 : ∀ j : Nat, (gTk L j).1 ≠ 51 → j ≤ 300) (f : Nat → Pr) (hsub : PC l G yX3_product cX3_product 4 d o L ly op f) : PC l G yX3_sum cX3_sum 4 (d + 1) o L ly op (pBin L 34 35 f) := by
  intro c1 c2 j m1 m2 f1 f2 fc fq hc hj
  refine Ctr.of (t := tX3_sum) (lv0 := [some (vr o), some (vi ((op : Nat) : Int)), none, none]) (by decide +kernel) tX3_sum_ok rfl rfl (fun w g hP M => ?_)
  refine M.run 2 (pc' := 2) (lv' := [some (vr o), some (vi ((op : Nat) : Int)), none, none]) (st' := [vi ((op : Nat) : Int), vr o]) rfl ?_
  refine M.callV (hsub c1 c2 j m1 m2 f1 f2 fc fq (by omega) (by omega)) cv_X3_111 cd_X3_product rfl (st := []) rfl (hP.1) (by omega) (by decide) rfl (Nat.zero_le _) (Nat.zero_le _) hP (fun r1 w1 q1 => ?_)
  rcases hR1 : f j with ⟨e1, k1⟩ | ⟨s1, k1⟩
  · skip
    rw [hR1] at q1
    obtain ⟨hr1, hg1, ⟨hz1, hy1⟩, hK1, gc1, hS1, hC1, hU1⟩ := q1
    rw [hr1]
    have hG1 := FrR.tr FrR.rf hg1
    refine M.if_ne (tgt := 10) rfl (qI (by decide)) (by decide) (fun _ => ?_) (fun q => absurd q (by decide))
    refine M.run 2 (pc' := 12) (lv' := [some (vr o), some (vi ((op : Nat) : Int)), some (vi 0), none]) (st' := []) rfl ?_
    have Lp12 : ∀ (N : Nat) (n : Nat) (k : Nat) (e : Ex) (gc : Nat → Int) (wa : Wo), (isRe o L (c1 + 2 * szE e) c2 k ly m1 m2 f1 f2 gc fq wa) → (FrR o w wa) → (szE e + j ≤ k) → (k ≤ 301) → (okE e) → (cdAt gc c1 (cdE e c1)) → (∀ i : Nat, i < c1 → gc i = fc i) → ((pBin L 34 35 f) j = pLoop L 34 35 f (301 - n) e k) → (n ≤ 301) → 301 - n < N → g 0 0 wa 12 [some (vr o), some (vi ((op : Nat) : Int)), some (vi ((n : Nat) : Int)), none] [] := by
      intro N
      induction N with
      | zero => intro n k e gc wa _ _ _ _ _ _ _ _ _ hN; exact absurd hN (Nat.not_lt_zero _)
      | succ N ih12 =>
        intro n k e gc wa hRa hFa hz hy hK hC hU hI hn hN
        refine M.run 2 (pc' := 16) (lv' := [some (vr o), some (vi ((op : Nat) : Int)), some (vi ((n : Nat) : Int)), none]) (st' := [vi 300, vi ((n : Nat) : Int)]) rfl ?_
        refine M.icmp_gt (tgt := 80) rfl (qI (by omega)) (qI (by decide)) (by decide) (fun h16 => ?_) (fun h16 => ?_)
        · skip
          refine M.run 2 (pc' := 82) (lv' := [some (vr o), some (vi ((op : Nat) : Int)), some (vi ((n : Nat) : Int)), none]) (st' := [vi 1, vr o]) rfl ?_
          refine M.callV (kX3_refuse l G o L (c1 + 2 * szE e) c2 k ly m1 m2 f1 f2 gc fq (by omega) hB 1 (by omega)) cv_X3_73 cd_X3_refuse rfl (st := []) rfl hRa.1 (by omega) (by decide) rfl (Nat.zero_le _) (Nat.zero_le _) hRa (fun r3 w4 q5 => ?_)
          obtain ⟨q5r, hR2, q5f⟩ := q5
          rw [q5r]
          have hF2 : FrR o w w4 := FrR.tr hFa q5f
          exact M.zret rfl (Or.inl rfl) (Nat.zero_le _) (Nat.zero_le _) (by show PQ o L c1 c2 j ly m1 m2 f1 f2 fc fq w _ _ ((pBin L 34 35 f) j); rw [hI, show 301 - n = 0 by omega]; exact ⟨rfl, hF2, hy, _, _, hR2⟩)
        · skip
          refine M.run 1 (pc' := 20) (lv' := [some (vr o), some (vi ((op : Nat) : Int)), some (vi ((n : Nat) : Int)), none]) (st' := [vr o]) rfl ?_
          refine M.get fl_X3_12 rfl hRa.1 (kf := 0) (v := vr (o + 1)) rfl ?_
          refine M.run 1 (pc' := 24) (lv' := [some (vr o), some (vi ((op : Nat) : Int)), some (vi ((n : Nat) : Int)), none]) (st' := [vr o, vr (o + 1)]) rfl ?_
          refine M.get fl_X3_38 rfl hRa.1 (kf := 5) (v := vi ((k : Nat) : Int)) rfl ?_
          obtain ⟨_, _, _, hKo, _⟩ := id hRa.2.2.2
          refine M.callV (kX8_sort l G (o + 1) (o + 2) (o + 3) (o + 4) (ap4_o o) L k (by omega)) cv_X3_51 cd_X8_sort rfl (st := []) rfl hKo (by omega) (by decide) rfl (Nat.zero_le _) (Nat.zero_le _) hRa.2.2.2 (fun r7 w8 q9 => ?_)
          rw [q9.1, q9.2]
          refine M.run 1 (pc' := 31) (lv' := [some (vr o), some (vi ((op : Nat) : Int)), some (vi ((n : Nat) : Int)), some (vi ((gTk L k).1))]) (st' := []) rfl ?_
          obtain ⟨⟨ht5, ht6⟩, _⟩ := hB k
          refine M.run 2 (pc' := 34) (lv' := [some (vr o), some (vi ((op : Nat) : Int)), some (vi ((n : Nat) : Int)), some (vi ((gTk L k).1))]) (st' := [vi 34, vi ((gTk L k).1)]) rfl ?_
          refine M.icmp_eq (tgt := 45) rfl (qI (by omega)) (qI (by decide)) (by decide) (fun h34 => ?_) (fun h34 => ?_)
          · skip
            have hk300 := hx51 k (by omega)
            have hop2 : (gTk L k).1 = 34 ∨ (gTk L k).1 = 35 := by omega
            obtain ⟨⟨ht1, ht2⟩, _⟩ := hB k
            refine M.run 2 (pc' := 47) (lv' := [some (vr o), some (vi ((op : Nat) : Int)), some (vi ((n : Nat) : Int)), some (vi ((gTk L k).1))]) (st' := [vr o, vr o]) rfl ?_
            refine M.get fl_X3_38 rfl hRa.1 (kf := 5) (v := vi ((k : Nat) : Int)) rfl ?_
            refine M.run 2 (pc' := 52) (lv' := [some (vr o), some (vi ((op : Nat) : Int)), some (vi ((n : Nat) : Int)), some (vi ((gTk L k).1))]) (st' := [vi (((k : Nat) : Int) + 1), vr o]) rfl ?_
            rw [show ((k : Nat) : Int) + 1 = ((k + 1 : Nat) : Int) from by omega]
            refine M.put fl_X3_38 rfl (hRa.1) rfl rfl (Nat.le_of_ble_eq_true rfl) ?_
            change g 0 0 (up wa o (Ob 2 [vr (o + 1), vr (o + 5), vr (o + 6), vi ((c1 + 2 * szE e : Nat) : Int), vi ((c2 : Nat) : Int), vi ((k + 1 : Nat) : Int), vi ly, vr m1, vr m2, vi f1, vi f2])) 55 [some (vr o), some (vi ((op : Nat) : Int)), some (vi ((n : Nat) : Int)), some (vi ((gTk L k).1))] []
            have hR11 : isRe o L (c1 + 2 * szE e) c2 (k + 1) ly m1 m2 f1 f2 gc fq (up wa o (Ob 2 [vr (o + 1), vr (o + 5), vr (o + 6), vi ((c1 + 2 * szE e : Nat) : Int), vi ((c2 : Nat) : Int), vi ((k + 1 : Nat) : Int), vi ly, vr m1, vr m2, vi f1, vi f2])) := isRe_1 hRa
            have hF11 : FrR o w (up wa o (Ob 2 [vr (o + 1), vr (o + 5), vr (o + 6), vi ((c1 + 2 * szE e : Nat) : Int), vi ((c2 : Nat) : Int), vi ((k + 1 : Nat) : Int), vi ly, vr m1, vr m2, vi f1, vi f2])) := FrR.u hFa o (by omega)
            generalize up wa o (Ob 2 [vr (o + 1), vr (o + 5), vr (o + 6), vi ((c1 + 2 * szE e : Nat) : Int), vi ((c2 : Nat) : Int), vi ((k + 1 : Nat) : Int), vi ly, vr m1, vr m2, vi f1, vi f2]) = w11 at hR11 hF11 ⊢
            refine M.run 2 (pc' := 57) (lv' := [some (vr o), some (vi ((op : Nat) : Int)), some (vi ((n : Nat) : Int)), some (vi ((gTk L k).1))]) (st' := [vi ((op : Nat) : Int), vr o]) rfl ?_
            refine M.callV (hsub (c1 + 2 * szE e) c2 (k + 1) m1 m2 f1 f2 gc fq (by omega) (by omega)) cv_X3_111 cd_X3_product rfl (st := []) rfl (hR11.1) (by omega) (by decide) rfl (Nat.zero_le _) (Nat.zero_le _) hR11 (fun r12 w12 q12 => ?_)
            rcases hR2 : f (k + 1) with ⟨e2, k2⟩ | ⟨s2, k2⟩
            · skip
              rw [hR2] at q12
              obtain ⟨hr2, hg2, ⟨hz2, hy2⟩, hK2, gc2, hS2, hC2, hU2⟩ := q12
              rw [hr2]
              have hG2 := FrR.tr hF11 hg2
              refine M.if_eq (tgt := 72) rfl (qI (by decide)) (by decide) (fun q => absurd q (by decide)) (fun _ => ?_)
              refine M.run 3 (pc' := 66) (lv' := [some (vr o), some (vi ((op : Nat) : Int)), some (vi ((n : Nat) : Int)), some (vi ((gTk L k).1))]) (st' := [vi 0, vi ((gTk L k).1), vr o]) rfl ?_
              refine M.callV (kX3_emit l G o L (c1 + 2 * szE e + 2 * szE e2) c2 k2 ly m1 m2 f1 f2 gc2 fq (by omega) ((gTk L k).1) 0 (by omega) (by omega)) cv_X3_114 cd_X3_emit rfl (st := []) rfl hS2.1 (by omega) (by decide) rfl (Nat.zero_le _) (Nat.zero_le _) hS2 (fun r14 w15 q16 => ?_)
              obtain ⟨q16r, hR13, q16f⟩ := q16
              rw [q16r]
              have hF13 : FrR o w w15 := FrR.tr hG2 q16f
              refine M.if_ne (tgt := 74) rfl (qI (by decide)) (by decide) (fun _ => ?_) (fun q => absurd q (by decide))
              refine M.run 2 (pc' := 12) (lv' := [some (vr o), some (vi ((op : Nat) : Int)), some (vi (((n : Nat) : Int) + 1)), some (vi ((gTk L k).1))]) (st' := []) rfl ?_
              refine M.fgt [false, false, false, true] ?_
              exact ih12 (n + 1) k2 (biE (gTk L k).1 e e2) (uN (uN gc2 (c1 + 2 * szE e + 2 * szE e2) ((gTk L k).1)) (c1 + 2 * szE e + 2 * szE e2 + 1) 0) w15 (by have hq9 := hR13; rw [show c1 + 2 * szE e + 2 * szE e2 + 2 = c1 + 2 * szE (biE (gTk L k).1 e e2) from by show _ = c1 + 2 * (szE e + szE e2 + 1); omega] at hq9; exact hq9) hF13 (by show szE e + szE e2 + 1 + j ≤ k2; omega) hy2 (okE_bi hK hK2) (bi_at hK hK2 hC hC2 hU2) (fun i hi => by rw [uN_o (by omega), uN_o (by omega)]; exact (hU2 i (by omega)).trans (hU i hi)) (by rw [hI, pLoop_y (by omega) hop2 hR2, show 301 - n - 1 = 301 - (n + 1) by omega]) (by omega) (by omega)
            · skip
              rw [hR2] at q12
              obtain ⟨hr2, hg2, hy2, dd2, gc2, hS2⟩ := q12
              rw [hr2]
              have hG2 := FrR.tr hF11 hg2
              refine M.if_eq (tgt := 72) rfl (qI (by decide)) (by decide) (fun _ => ?_) (fun q => absurd q (by decide))
              refine M.run 1 (pc' := 73) (lv' := [some (vr o), some (vi ((op : Nat) : Int)), some (vi ((n : Nat) : Int)), some (vi ((gTk L k).1))]) (st' := [vi 0]) rfl ?_
              exact M.zret rfl (Or.inl rfl) (Nat.zero_le _) (Nat.zero_le _) (by show PQ o L c1 c2 j ly m1 m2 f1 f2 fc fq w _ _ ((pBin L 34 35 f) j); rw [hI, pLoop_n (by omega) hop2 hR2]; exact ⟨rfl, hG2, hy2, _, _, hS2⟩)
          · skip
            refine M.run 2 (pc' := 40) (lv' := [some (vr o), some (vi ((op : Nat) : Int)), some (vi ((n : Nat) : Int)), some (vi ((gTk L k).1))]) (st' := [vi 35, vi ((gTk L k).1)]) rfl ?_
            refine M.icmp_eq (tgt := 45) rfl (qI (by omega)) (qI (by decide)) (by decide) (fun h40 => ?_) (fun h40 => ?_)
            · skip
              have hk300 := hx51 k (by omega)
              have hop2 : (gTk L k).1 = 34 ∨ (gTk L k).1 = 35 := by omega
              obtain ⟨⟨ht1, ht2⟩, _⟩ := hB k
              refine M.run 2 (pc' := 47) (lv' := [some (vr o), some (vi ((op : Nat) : Int)), some (vi ((n : Nat) : Int)), some (vi ((gTk L k).1))]) (st' := [vr o, vr o]) rfl ?_
              refine M.get fl_X3_38 rfl hRa.1 (kf := 5) (v := vi ((k : Nat) : Int)) rfl ?_
              refine M.run 2 (pc' := 52) (lv' := [some (vr o), some (vi ((op : Nat) : Int)), some (vi ((n : Nat) : Int)), some (vi ((gTk L k).1))]) (st' := [vi (((k : Nat) : Int) + 1), vr o]) rfl ?_
              rw [show ((k : Nat) : Int) + 1 = ((k + 1 : Nat) : Int) from by omega]
              refine M.put fl_X3_38 rfl (hRa.1) rfl rfl (Nat.le_of_ble_eq_true rfl) ?_
              change g 0 0 (up wa o (Ob 2 [vr (o + 1), vr (o + 5), vr (o + 6), vi ((c1 + 2 * szE e : Nat) : Int), vi ((c2 : Nat) : Int), vi ((k + 1 : Nat) : Int), vi ly, vr m1, vr m2, vi f1, vi f2])) 55 [some (vr o), some (vi ((op : Nat) : Int)), some (vi ((n : Nat) : Int)), some (vi ((gTk L k).1))] []
              have hR18 : isRe o L (c1 + 2 * szE e) c2 (k + 1) ly m1 m2 f1 f2 gc fq (up wa o (Ob 2 [vr (o + 1), vr (o + 5), vr (o + 6), vi ((c1 + 2 * szE e : Nat) : Int), vi ((c2 : Nat) : Int), vi ((k + 1 : Nat) : Int), vi ly, vr m1, vr m2, vi f1, vi f2])) := isRe_1 hRa
              have hF18 : FrR o w (up wa o (Ob 2 [vr (o + 1), vr (o + 5), vr (o + 6), vi ((c1 + 2 * szE e : Nat) : Int), vi ((c2 : Nat) : Int), vi ((k + 1 : Nat) : Int), vi ly, vr m1, vr m2, vi f1, vi f2])) := FrR.u hFa o (by omega)
              generalize up wa o (Ob 2 [vr (o + 1), vr (o + 5), vr (o + 6), vi ((c1 + 2 * szE e : Nat) : Int), vi ((c2 : Nat) : Int), vi ((k + 1 : Nat) : Int), vi ly, vr m1, vr m2, vi f1, vi f2]) = w18 at hR18 hF18 ⊢
              refine M.run 2 (pc' := 57) (lv' := [some (vr o), some (vi ((op : Nat) : Int)), some (vi ((n : Nat) : Int)), some (vi ((gTk L k).1))]) (st' := [vi ((op : Nat) : Int), vr o]) rfl ?_
              refine M.callV (hsub (c1 + 2 * szE e) c2 (k + 1) m1 m2 f1 f2 gc fq (by omega) (by omega)) cv_X3_111 cd_X3_product rfl (st := []) rfl (hR18.1) (by omega) (by decide) rfl (Nat.zero_le _) (Nat.zero_le _) hR18 (fun r19 w19 q19 => ?_)
              rcases hR2 : f (k + 1) with ⟨e2, k2⟩ | ⟨s2, k2⟩
              · skip
                rw [hR2] at q19
                obtain ⟨hr2, hg2, ⟨hz2, hy2⟩, hK2, gc2, hS2, hC2, hU2⟩ := q19
                rw [hr2]
                have hG2 := FrR.tr hF18 hg2
                refine M.if_eq (tgt := 72) rfl (qI (by decide)) (by decide) (fun q => absurd q (by decide)) (fun _ => ?_)
                refine M.run 3 (pc' := 66) (lv' := [some (vr o), some (vi ((op : Nat) : Int)), some (vi ((n : Nat) : Int)), some (vi ((gTk L k).1))]) (st' := [vi 0, vi ((gTk L k).1), vr o]) rfl ?_
                refine M.callV (kX3_emit l G o L (c1 + 2 * szE e + 2 * szE e2) c2 k2 ly m1 m2 f1 f2 gc2 fq (by omega) ((gTk L k).1) 0 (by omega) (by omega)) cv_X3_114 cd_X3_emit rfl (st := []) rfl hS2.1 (by omega) (by decide) rfl (Nat.zero_le _) (Nat.zero_le _) hS2 (fun r21 w22 q23 => ?_)
                obtain ⟨q23r, hR20, q23f⟩ := q23
                rw [q23r]
                have hF20 : FrR o w w22 := FrR.tr hG2 q23f
                refine M.if_ne (tgt := 74) rfl (qI (by decide)) (by decide) (fun _ => ?_) (fun q => absurd q (by decide))
                refine M.run 2 (pc' := 12) (lv' := [some (vr o), some (vi ((op : Nat) : Int)), some (vi (((n : Nat) : Int) + 1)), some (vi ((gTk L k).1))]) (st' := []) rfl ?_
                refine M.fgt [false, false, false, true] ?_
                exact ih12 (n + 1) k2 (biE (gTk L k).1 e e2) (uN (uN gc2 (c1 + 2 * szE e + 2 * szE e2) ((gTk L k).1)) (c1 + 2 * szE e + 2 * szE e2 + 1) 0) w22 (by have hq9 := hR20; rw [show c1 + 2 * szE e + 2 * szE e2 + 2 = c1 + 2 * szE (biE (gTk L k).1 e e2) from by show _ = c1 + 2 * (szE e + szE e2 + 1); omega] at hq9; exact hq9) hF20 (by show szE e + szE e2 + 1 + j ≤ k2; omega) hy2 (okE_bi hK hK2) (bi_at hK hK2 hC hC2 hU2) (fun i hi => by rw [uN_o (by omega), uN_o (by omega)]; exact (hU2 i (by omega)).trans (hU i hi)) (by rw [hI, pLoop_y (by omega) hop2 hR2, show 301 - n - 1 = 301 - (n + 1) by omega]) (by omega) (by omega)
              · skip
                rw [hR2] at q19
                obtain ⟨hr2, hg2, hy2, dd2, gc2, hS2⟩ := q19
                rw [hr2]
                have hG2 := FrR.tr hF18 hg2
                refine M.if_eq (tgt := 72) rfl (qI (by decide)) (by decide) (fun _ => ?_) (fun q => absurd q (by decide))
                refine M.run 1 (pc' := 73) (lv' := [some (vr o), some (vi ((op : Nat) : Int)), some (vi ((n : Nat) : Int)), some (vi ((gTk L k).1))]) (st' := [vi 0]) rfl ?_
                exact M.zret rfl (Or.inl rfl) (Nat.zero_le _) (Nat.zero_le _) (by show PQ o L c1 c2 j ly m1 m2 f1 f2 fc fq w _ _ ((pBin L 34 35 f) j); rw [hI, pLoop_n (by omega) hop2 hR2]; exact ⟨rfl, hG2, hy2, _, _, hS2⟩)
            · skip
              refine M.run 1 (pc' := 44) (lv' := [some (vr o), some (vi ((op : Nat) : Int)), some (vi ((n : Nat) : Int)), some (vi ((gTk L k).1))]) (st' := [vi 1]) rfl ?_
              exact M.zret rfl (Or.inr rfl) (Nat.zero_le _) (Nat.zero_le _) (by show PQ o L c1 c2 j ly m1 m2 f1 f2 fc fq w _ _ ((pBin L 34 35 f) j); rw [hI, pLoop_e (by omega) (by omega)]; exact ⟨rfl, hFa, ⟨hz, hy⟩, hK, _, hRa, hC, hU⟩)
    exact Lp12 _ 0 k1 e1 gc1 w1 hS1 hG1 hz1 hy1 hK1 hC1 hU1 (pBin_y hR1) (Nat.zero_le _) (Nat.lt_succ_self _)
  · skip
    rw [hR1] at q1
    obtain ⟨hr1, hg1, hy1, dd1, gc1, hS1⟩ := q1
    rw [hr1]
    have hG1 := FrR.tr FrR.rf hg1
    refine M.if_ne (tgt := 10) rfl (qI (by decide)) (by decide) (fun q => absurd q (by decide)) (fun _ => ?_)
    refine M.run 1 (pc' := 9) (lv' := [some (vr o), some (vi ((op : Nat) : Int)), none, none]) (st' := [vi 0]) rfl ?_
    exact M.zret rfl (Or.inl rfl) (Nat.zero_le _) (Nat.zero_le _) (by show PQ o L c1 c2 j ly m1 m2 f1 f2 fc fq w _ _ ((pBin L 34 35 f) j); rw [pBin_n hR1]; exact ⟨rfl, hG1, hy1, _, _, hS1⟩)
set_option maxHeartbeats 4000000 in
set_option maxRecDepth 100000 in
theorem kX3_product (l : Launch) (G : GT) (o : Nat) (L : List (Int × Int × Int)) (ly : Int) (op d : Nat) (hd : 3 ≤ d) (hop : op ≤ 100) (hB : tkB L) (hx51 : ∀ j : Nat, (gTk L j).1 ≠ 51 → j ≤ 300) (f : Nat → Pr) (hsub : PC l G yX3_one cX3_one 5 d o L ly op f) : PC l G yX3_product cX3_product 4 (d + 1) o L ly op (pBin L 36 37 f) := by
  intro c1 c2 j m1 m2 f1 f2 fc fq hc hj
  refine Ctr.of (t := tX3_product) (lv0 := [some (vr o), some (vi ((op : Nat) : Int)), none, none]) (by decide +kernel) tX3_product_ok rfl rfl (fun w g hP M => ?_)
  refine M.run 2 (pc' := 2) (lv' := [some (vr o), some (vi ((op : Nat) : Int)), none, none]) (st' := [vi ((op : Nat) : Int), vr o]) rfl ?_
  refine M.callV (hsub c1 c2 j m1 m2 f1 f2 fc fq (by omega) (by omega)) cv_X3_118 cd_X3_one rfl (st := []) rfl (hP.1) (by omega) (by decide) rfl (Nat.zero_le _) (Nat.zero_le _) hP (fun r1 w1 q1 => ?_)
  rcases hR1 : f j with ⟨e1, k1⟩ | ⟨s1, k1⟩
  · skip
    rw [hR1] at q1
    obtain ⟨hr1, hg1, ⟨hz1, hy1⟩, hK1, gc1, hS1, hC1, hU1⟩ := q1
    rw [hr1]
    have hG1 := FrR.tr FrR.rf hg1
    refine M.if_ne (tgt := 10) rfl (qI (by decide)) (by decide) (fun _ => ?_) (fun q => absurd q (by decide))
    refine M.run 2 (pc' := 12) (lv' := [some (vr o), some (vi ((op : Nat) : Int)), some (vi 0), none]) (st' := []) rfl ?_
    have Lp12 : ∀ (N : Nat) (n : Nat) (k : Nat) (e : Ex) (gc : Nat → Int) (wa : Wo), (isRe o L (c1 + 2 * szE e) c2 k ly m1 m2 f1 f2 gc fq wa) → (FrR o w wa) → (szE e + j ≤ k) → (k ≤ 301) → (okE e) → (cdAt gc c1 (cdE e c1)) → (∀ i : Nat, i < c1 → gc i = fc i) → ((pBin L 36 37 f) j = pLoop L 36 37 f (301 - n) e k) → (n ≤ 301) → 301 - n < N → g 0 0 wa 12 [some (vr o), some (vi ((op : Nat) : Int)), some (vi ((n : Nat) : Int)), none] [] := by
      intro N
      induction N with
      | zero => intro n k e gc wa _ _ _ _ _ _ _ _ _ hN; exact absurd hN (Nat.not_lt_zero _)
      | succ N ih12 =>
        intro n k e gc wa hRa hFa hz hy hK hC hU hI hn hN
        refine M.run 2 (pc' := 16) (lv' := [some (vr o), some (vi ((op : Nat) : Int)), some (vi ((n : Nat) : Int)), none]) (st' := [vi 300, vi ((n : Nat) : Int)]) rfl ?_
        refine M.icmp_gt (tgt := 80) rfl (qI (by omega)) (qI (by decide)) (by decide) (fun h16 => ?_) (fun h16 => ?_)
        · skip
          refine M.run 2 (pc' := 82) (lv' := [some (vr o), some (vi ((op : Nat) : Int)), some (vi ((n : Nat) : Int)), none]) (st' := [vi 1, vr o]) rfl ?_
          refine M.callV (kX3_refuse l G o L (c1 + 2 * szE e) c2 k ly m1 m2 f1 f2 gc fq (by omega) hB 1 (by omega)) cv_X3_73 cd_X3_refuse rfl (st := []) rfl hRa.1 (by omega) (by decide) rfl (Nat.zero_le _) (Nat.zero_le _) hRa (fun r3 w4 q5 => ?_)
          obtain ⟨q5r, hR2, q5f⟩ := q5
          rw [q5r]
          have hF2 : FrR o w w4 := FrR.tr hFa q5f
          exact M.zret rfl (Or.inl rfl) (Nat.zero_le _) (Nat.zero_le _) (by show PQ o L c1 c2 j ly m1 m2 f1 f2 fc fq w _ _ ((pBin L 36 37 f) j); rw [hI, show 301 - n = 0 by omega]; exact ⟨rfl, hF2, hy, _, _, hR2⟩)
        · skip
          refine M.run 1 (pc' := 20) (lv' := [some (vr o), some (vi ((op : Nat) : Int)), some (vi ((n : Nat) : Int)), none]) (st' := [vr o]) rfl ?_
          refine M.get fl_X3_12 rfl hRa.1 (kf := 0) (v := vr (o + 1)) rfl ?_
          refine M.run 1 (pc' := 24) (lv' := [some (vr o), some (vi ((op : Nat) : Int)), some (vi ((n : Nat) : Int)), none]) (st' := [vr o, vr (o + 1)]) rfl ?_
          refine M.get fl_X3_38 rfl hRa.1 (kf := 5) (v := vi ((k : Nat) : Int)) rfl ?_
          obtain ⟨_, _, _, hKo, _⟩ := id hRa.2.2.2
          refine M.callV (kX8_sort l G (o + 1) (o + 2) (o + 3) (o + 4) (ap4_o o) L k (by omega)) cv_X3_51 cd_X8_sort rfl (st := []) rfl hKo (by omega) (by decide) rfl (Nat.zero_le _) (Nat.zero_le _) hRa.2.2.2 (fun r7 w8 q9 => ?_)
          rw [q9.1, q9.2]
          refine M.run 1 (pc' := 31) (lv' := [some (vr o), some (vi ((op : Nat) : Int)), some (vi ((n : Nat) : Int)), some (vi ((gTk L k).1))]) (st' := []) rfl ?_
          obtain ⟨⟨ht5, ht6⟩, _⟩ := hB k
          refine M.run 2 (pc' := 34) (lv' := [some (vr o), some (vi ((op : Nat) : Int)), some (vi ((n : Nat) : Int)), some (vi ((gTk L k).1))]) (st' := [vi 36, vi ((gTk L k).1)]) rfl ?_
          refine M.icmp_eq (tgt := 45) rfl (qI (by omega)) (qI (by decide)) (by decide) (fun h34 => ?_) (fun h34 => ?_)
          · skip
            have hk300 := hx51 k (by omega)
            have hop2 : (gTk L k).1 = 36 ∨ (gTk L k).1 = 37 := by omega
            obtain ⟨⟨ht1, ht2⟩, _⟩ := hB k
            refine M.run 2 (pc' := 47) (lv' := [some (vr o), some (vi ((op : Nat) : Int)), some (vi ((n : Nat) : Int)), some (vi ((gTk L k).1))]) (st' := [vr o, vr o]) rfl ?_
            refine M.get fl_X3_38 rfl hRa.1 (kf := 5) (v := vi ((k : Nat) : Int)) rfl ?_
            refine M.run 2 (pc' := 52) (lv' := [some (vr o), some (vi ((op : Nat) : Int)), some (vi ((n : Nat) : Int)), some (vi ((gTk L k).1))]) (st' := [vi (((k : Nat) : Int) + 1), vr o]) rfl ?_
            rw [show ((k : Nat) : Int) + 1 = ((k + 1 : Nat) : Int) from by omega]
            refine M.put fl_X3_38 rfl (hRa.1) rfl rfl (Nat.le_of_ble_eq_true rfl) ?_
            change g 0 0 (up wa o (Ob 2 [vr (o + 1), vr (o + 5), vr (o + 6), vi ((c1 + 2 * szE e : Nat) : Int), vi ((c2 : Nat) : Int), vi ((k + 1 : Nat) : Int), vi ly, vr m1, vr m2, vi f1, vi f2])) 55 [some (vr o), some (vi ((op : Nat) : Int)), some (vi ((n : Nat) : Int)), some (vi ((gTk L k).1))] []
            have hR11 : isRe o L (c1 + 2 * szE e) c2 (k + 1) ly m1 m2 f1 f2 gc fq (up wa o (Ob 2 [vr (o + 1), vr (o + 5), vr (o + 6), vi ((c1 + 2 * szE e : Nat) : Int), vi ((c2 : Nat) : Int), vi ((k + 1 : Nat) : Int), vi ly, vr m1, vr m2, vi f1, vi f2])) := isRe_1 hRa
            have hF11 : FrR o w (up wa o (Ob 2 [vr (o + 1), vr (o + 5), vr (o + 6), vi ((c1 + 2 * szE e : Nat) : Int), vi ((c2 : Nat) : Int), vi ((k + 1 : Nat) : Int), vi ly, vr m1, vr m2, vi f1, vi f2])) := FrR.u hFa o (by omega)
            generalize up wa o (Ob 2 [vr (o + 1), vr (o + 5), vr (o + 6), vi ((c1 + 2 * szE e : Nat) : Int), vi ((c2 : Nat) : Int), vi ((k + 1 : Nat) : Int), vi ly, vr m1, vr m2, vi f1, vi f2]) = w11 at hR11 hF11 ⊢
            refine M.run 2 (pc' := 57) (lv' := [some (vr o), some (vi ((op : Nat) : Int)), some (vi ((n : Nat) : Int)), some (vi ((gTk L k).1))]) (st' := [vi ((op : Nat) : Int), vr o]) rfl ?_
            refine M.callV (hsub (c1 + 2 * szE e) c2 (k + 1) m1 m2 f1 f2 gc fq (by omega) (by omega)) cv_X3_118 cd_X3_one rfl (st := []) rfl (hR11.1) (by omega) (by decide) rfl (Nat.zero_le _) (Nat.zero_le _) hR11 (fun r12 w12 q12 => ?_)
            rcases hR2 : f (k + 1) with ⟨e2, k2⟩ | ⟨s2, k2⟩
            · skip
              rw [hR2] at q12
              obtain ⟨hr2, hg2, ⟨hz2, hy2⟩, hK2, gc2, hS2, hC2, hU2⟩ := q12
              rw [hr2]
              have hG2 := FrR.tr hF11 hg2
              refine M.if_eq (tgt := 72) rfl (qI (by decide)) (by decide) (fun q => absurd q (by decide)) (fun _ => ?_)
              refine M.run 3 (pc' := 66) (lv' := [some (vr o), some (vi ((op : Nat) : Int)), some (vi ((n : Nat) : Int)), some (vi ((gTk L k).1))]) (st' := [vi 0, vi ((gTk L k).1), vr o]) rfl ?_
              refine M.callV (kX3_emit l G o L (c1 + 2 * szE e + 2 * szE e2) c2 k2 ly m1 m2 f1 f2 gc2 fq (by omega) ((gTk L k).1) 0 (by omega) (by omega)) cv_X3_114 cd_X3_emit rfl (st := []) rfl hS2.1 (by omega) (by decide) rfl (Nat.zero_le _) (Nat.zero_le _) hS2 (fun r14 w15 q16 => ?_)
              obtain ⟨q16r, hR13, q16f⟩ := q16
              rw [q16r]
              have hF13 : FrR o w w15 := FrR.tr hG2 q16f
              refine M.if_ne (tgt := 74) rfl (qI (by decide)) (by decide) (fun _ => ?_) (fun q => absurd q (by decide))
              refine M.run 2 (pc' := 12) (lv' := [some (vr o), some (vi ((op : Nat) : Int)), some (vi (((n : Nat) : Int) + 1)), some (vi ((gTk L k).1))]) (st' := []) rfl ?_
              refine M.fgt [false, false, false, true] ?_
              exact ih12 (n + 1) k2 (biE (gTk L k).1 e e2) (uN (uN gc2 (c1 + 2 * szE e + 2 * szE e2) ((gTk L k).1)) (c1 + 2 * szE e + 2 * szE e2 + 1) 0) w15 (by have hq9 := hR13; rw [show c1 + 2 * szE e + 2 * szE e2 + 2 = c1 + 2 * szE (biE (gTk L k).1 e e2) from by show _ = c1 + 2 * (szE e + szE e2 + 1); omega] at hq9; exact hq9) hF13 (by show szE e + szE e2 + 1 + j ≤ k2; omega) hy2 (okE_bi hK hK2) (bi_at hK hK2 hC hC2 hU2) (fun i hi => by rw [uN_o (by omega), uN_o (by omega)]; exact (hU2 i (by omega)).trans (hU i hi)) (by rw [hI, pLoop_y (by omega) hop2 hR2, show 301 - n - 1 = 301 - (n + 1) by omega]) (by omega) (by omega)
            · skip
              rw [hR2] at q12
              obtain ⟨hr2, hg2, hy2, dd2, gc2, hS2⟩ := q12
              rw [hr2]
              have hG2 := FrR.tr hF11 hg2
              refine M.if_eq (tgt := 72) rfl (qI (by decide)) (by decide) (fun _ => ?_) (fun q => absurd q (by decide))
              refine M.run 1 (pc' := 73) (lv' := [some (vr o), some (vi ((op : Nat) : Int)), some (vi ((n : Nat) : Int)), some (vi ((gTk L k).1))]) (st' := [vi 0]) rfl ?_
              exact M.zret rfl (Or.inl rfl) (Nat.zero_le _) (Nat.zero_le _) (by show PQ o L c1 c2 j ly m1 m2 f1 f2 fc fq w _ _ ((pBin L 36 37 f) j); rw [hI, pLoop_n (by omega) hop2 hR2]; exact ⟨rfl, hG2, hy2, _, _, hS2⟩)
          · skip
            refine M.run 2 (pc' := 40) (lv' := [some (vr o), some (vi ((op : Nat) : Int)), some (vi ((n : Nat) : Int)), some (vi ((gTk L k).1))]) (st' := [vi 37, vi ((gTk L k).1)]) rfl ?_
            refine M.icmp_eq (tgt := 45) rfl (qI (by omega)) (qI (by decide)) (by decide) (fun h40 => ?_) (fun h40 => ?_)
            · skip
              have hk300 := hx51 k (by omega)
              have hop2 : (gTk L k).1 = 36 ∨ (gTk L k).1 = 37 := by omega
              obtain ⟨⟨ht1, ht2⟩, _⟩ := hB k
              refine M.run 2 (pc' := 47) (lv' := [some (vr o), some (vi ((op : Nat) : Int)), some (vi ((n : Nat) : Int)), some (vi ((gTk L k).1))]) (st' := [vr o, vr o]) rfl ?_
              refine M.get fl_X3_38 rfl hRa.1 (kf := 5) (v := vi ((k : Nat) : Int)) rfl ?_
              refine M.run 2 (pc' := 52) (lv' := [some (vr o), some (vi ((op : Nat) : Int)), some (vi ((n : Nat) : Int)), some (vi ((gTk L k).1))]) (st' := [vi (((k : Nat) : Int) + 1), vr o]) rfl ?_
              rw [show ((k : Nat) : Int) + 1 = ((k + 1 : Nat) : Int) from by omega]
              refine M.put fl_X3_38 rfl (hRa.1) rfl rfl (Nat.le_of_ble_eq_true rfl) ?_
              change g 0 0 (up wa o (Ob 2 [vr (o + 1), vr (o + 5), vr (o + 6), vi ((c1 + 2 * szE e : Nat) : Int), vi ((c2 : Nat) : Int), vi ((k + 1 : Nat) : Int), vi ly, vr m1, vr m2, vi f1, vi f2])) 55 [some (vr o), some (vi ((op : Nat) : Int)), some (vi ((n : Nat) : Int)), some (vi ((gTk L k).1))] []
              have hR18 : isRe o L (c1 + 2 * szE e) c2 (k + 1) ly m1 m2 f1 f2 gc fq (up wa o (Ob 2 [vr (o + 1), vr (o + 5), vr (o + 6), vi ((c1 + 2 * szE e : Nat) : Int), vi ((c2 : Nat) : Int), vi ((k + 1 : Nat) : Int), vi ly, vr m1, vr m2, vi f1, vi f2])) := isRe_1 hRa
              have hF18 : FrR o w (up wa o (Ob 2 [vr (o + 1), vr (o + 5), vr (o + 6), vi ((c1 + 2 * szE e : Nat) : Int), vi ((c2 : Nat) : Int), vi ((k + 1 : Nat) : Int), vi ly, vr m1, vr m2, vi f1, vi f2])) := FrR.u hFa o (by omega)
              generalize up wa o (Ob 2 [vr (o + 1), vr (o + 5), vr (o + 6), vi ((c1 + 2 * szE e : Nat) : Int), vi ((c2 : Nat) : Int), vi ((k + 1 : Nat) : Int), vi ly, vr m1, vr m2, vi f1, vi f2]) = w18 at hR18 hF18 ⊢
              refine M.run 2 (pc' := 57) (lv' := [some (vr o), some (vi ((op : Nat) : Int)), some (vi ((n : Nat) : Int)), some (vi ((gTk L k).1))]) (st' := [vi ((op : Nat) : Int), vr o]) rfl ?_
              refine M.callV (hsub (c1 + 2 * szE e) c2 (k + 1) m1 m2 f1 f2 gc fq (by omega) (by omega)) cv_X3_118 cd_X3_one rfl (st := []) rfl (hR18.1) (by omega) (by decide) rfl (Nat.zero_le _) (Nat.zero_le _) hR18 (fun r19 w19 q19 => ?_)
              rcases hR2 : f (k + 1) with ⟨e2, k2⟩ | ⟨s2, k2⟩
              · skip
                rw [hR2] at q19
                obtain ⟨hr2, hg2, ⟨hz2, hy2⟩, hK2, gc2, hS2, hC2, hU2⟩ := q19
                rw [hr2]
                have hG2 := FrR.tr hF18 hg2
                refine M.if_eq (tgt := 72) rfl (qI (by decide)) (by decide) (fun q => absurd q (by decide)) (fun _ => ?_)
                refine M.run 3 (pc' := 66) (lv' := [some (vr o), some (vi ((op : Nat) : Int)), some (vi ((n : Nat) : Int)), some (vi ((gTk L k).1))]) (st' := [vi 0, vi ((gTk L k).1), vr o]) rfl ?_
                refine M.callV (kX3_emit l G o L (c1 + 2 * szE e + 2 * szE e2) c2 k2 ly m1 m2 f1 f2 gc2 fq (by omega) ((gTk L k).1) 0 (by omega) (by omega)) cv_X3_114 cd_X3_emit rfl (st := []) rfl hS2.1 (by omega) (by decide) rfl (Nat.zero_le _) (Nat.zero_le _) hS2 (fun r21 w22 q23 => ?_)
                obtain ⟨q23r, hR20, q23f⟩ := q23
                rw [q23r]
                have hF20 : FrR o w w22 := FrR.tr hG2 q23f
                refine M.if_ne (tgt := 74) rfl (qI (by decide)) (by decide) (fun _ => ?_) (fun q => absurd q (by decide))
                refine M.run 2 (pc' := 12) (lv' := [some (vr o), some (vi ((op : Nat) : Int)), some (vi (((n : Nat) : Int) + 1)), some (vi ((gTk L k).1))]) (st' := []) rfl ?_
                refine M.fgt [false, false, false, true] ?_
                exact ih12 (n + 1) k2 (biE (gTk L k).1 e e2) (uN (uN gc2 (c1 + 2 * szE e + 2 * szE e2) ((gTk L k).1)) (c1 + 2 * szE e + 2 * szE e2 + 1) 0) w22 (by have hq9 := hR20; rw [show c1 + 2 * szE e + 2 * szE e2 + 2 = c1 + 2 * szE (biE (gTk L k).1 e e2) from by show _ = c1 + 2 * (szE e + szE e2 + 1); omega] at hq9; exact hq9) hF20 (by show szE e + szE e2 + 1 + j ≤ k2; omega) hy2 (okE_bi hK hK2) (bi_at hK hK2 hC hC2 hU2) (fun i hi => by rw [uN_o (by omega), uN_o (by omega)]; exact (hU2 i (by omega)).trans (hU i hi)) (by rw [hI, pLoop_y (by omega) hop2 hR2, show 301 - n - 1 = 301 - (n + 1) by omega]) (by omega) (by omega)
              · skip
                rw [hR2] at q19
                obtain ⟨hr2, hg2, hy2, dd2, gc2, hS2⟩ := q19
                rw [hr2]
                have hG2 := FrR.tr hF18 hg2
                refine M.if_eq (tgt := 72) rfl (qI (by decide)) (by decide) (fun _ => ?_) (fun q => absurd q (by decide))
                refine M.run 1 (pc' := 73) (lv' := [some (vr o), some (vi ((op : Nat) : Int)), some (vi ((n : Nat) : Int)), some (vi ((gTk L k).1))]) (st' := [vi 0]) rfl ?_
                exact M.zret rfl (Or.inl rfl) (Nat.zero_le _) (Nat.zero_le _) (by show PQ o L c1 c2 j ly m1 m2 f1 f2 fc fq w _ _ ((pBin L 36 37 f) j); rw [hI, pLoop_n (by omega) hop2 hR2]; exact ⟨rfl, hG2, hy2, _, _, hS2⟩)
            · skip
              refine M.run 1 (pc' := 44) (lv' := [some (vr o), some (vi ((op : Nat) : Int)), some (vi ((n : Nat) : Int)), some (vi ((gTk L k).1))]) (st' := [vi 1]) rfl ?_
              exact M.zret rfl (Or.inr rfl) (Nat.zero_le _) (Nat.zero_le _) (by show PQ o L c1 c2 j ly m1 m2 f1 f2 fc fq w _ _ ((pBin L 36 37 f) j); rw [hI, pLoop_e (by omega) (by omega)]; exact ⟨rfl, hFa, ⟨hz, hy⟩, hK, _, hRa, hC, hU⟩)
    exact Lp12 _ 0 k1 e1 gc1 w1 hS1 hG1 hz1 hy1 hK1 hC1 hU1 (pBin_y hR1) (Nat.zero_le _) (Nat.lt_succ_self _)
  · skip
    rw [hR1] at q1
    obtain ⟨hr1, hg1, hy1, dd1, gc1, hS1⟩ := q1
    rw [hr1]
    have hG1 := FrR.tr FrR.rf hg1
    refine M.if_ne (tgt := 10) rfl (qI (by decide)) (by decide) (fun q => absurd q (by decide)) (fun _ => ?_)
    refine M.run 1 (pc' := 9) (lv' := [some (vr o), some (vi ((op : Nat) : Int)), none, none]) (st' := [vi 0]) rfl ?_
    exact M.zret rfl (Or.inl rfl) (Nat.zero_le _) (Nat.zero_le _) (by show PQ o L c1 c2 j ly m1 m2 f1 f2 fc fq w _ _ ((pBin L 36 37 f) j); rw [pBin_n hR1]; exact ⟨rfl, hG1, hy1, _, _, hS1⟩)
set_option maxHeartbeats 4000000 in
set_option maxRecDepth 100000 in
theorem kX3_either (l : Launch) (G : GT) (o : Nat) (L : List (Int × Int × Int)) (ly : Int) (op d : Nat) (hd : 3 ≤ d) (hop : op ≤ 100) (hB : tkB L) (hx51 : ∀ j : Nat, (gTk L j).1 ≠ 51 → j ≤ 300) (f : Nat → Pr) (hsub : PC l G yX3_both cX3_both 3 d o L ly op f) : PC l G yX3_either cX3_either 3 (d + 1) o L ly op (pBin L 14 14 f) := by
  intro c1 c2 j m1 m2 f1 f2 fc fq hc hj
  refine Ctr.of (t := tX3_either) (lv0 := [some (vr o), some (vi ((op : Nat) : Int)), none]) (by decide +kernel) tX3_either_ok rfl rfl (fun w g hP M => ?_)
  refine M.run 2 (pc' := 2) (lv' := [some (vr o), some (vi ((op : Nat) : Int)), none]) (st' := [vi ((op : Nat) : Int), vr o]) rfl ?_
  refine M.callV (hsub c1 c2 j m1 m2 f1 f2 fc fq (by omega) (by omega)) cv_X3_134 cd_X3_both rfl (st := []) rfl (hP.1) (by omega) (by decide) rfl (Nat.zero_le _) (Nat.zero_le _) hP (fun r1 w1 q1 => ?_)
  rcases hR1 : f j with ⟨e1, k1⟩ | ⟨s1, k1⟩
  · skip
    rw [hR1] at q1
    obtain ⟨hr1, hg1, ⟨hz1, hy1⟩, hK1, gc1, hS1, hC1, hU1⟩ := q1
    rw [hr1]
    have hG1 := FrR.tr FrR.rf hg1
    refine M.if_ne (tgt := 10) rfl (qI (by decide)) (by decide) (fun _ => ?_) (fun q => absurd q (by decide))
    refine M.run 2 (pc' := 12) (lv' := [some (vr o), some (vi ((op : Nat) : Int)), some (vi 0)]) (st' := []) rfl ?_
    have Lp12 : ∀ (N : Nat) (n : Nat) (k : Nat) (e : Ex) (gc : Nat → Int) (wa : Wo), (isRe o L (c1 + 2 * szE e) c2 k ly m1 m2 f1 f2 gc fq wa) → (FrR o w wa) → (szE e + j ≤ k) → (k ≤ 301) → (okE e) → (cdAt gc c1 (cdE e c1)) → (∀ i : Nat, i < c1 → gc i = fc i) → ((pBin L 14 14 f) j = pLoop L 14 14 f (301 - n) e k) → (n ≤ 301) → 301 - n < N → g 0 0 wa 12 [some (vr o), some (vi ((op : Nat) : Int)), some (vi ((n : Nat) : Int))] [] := by
      intro N
      induction N with
      | zero => intro n k e gc wa _ _ _ _ _ _ _ _ _ hN; exact absurd hN (Nat.not_lt_zero _)
      | succ N ih12 =>
        intro n k e gc wa hRa hFa hz hy hK hC hU hI hn hN
        refine M.run 2 (pc' := 16) (lv' := [some (vr o), some (vi ((op : Nat) : Int)), some (vi ((n : Nat) : Int))]) (st' := [vi 300, vi ((n : Nat) : Int)]) rfl ?_
        refine M.icmp_gt (tgt := 73) rfl (qI (by omega)) (qI (by decide)) (by decide) (fun h16 => ?_) (fun h16 => ?_)
        · skip
          refine M.run 2 (pc' := 75) (lv' := [some (vr o), some (vi ((op : Nat) : Int)), some (vi ((n : Nat) : Int))]) (st' := [vi 1, vr o]) rfl ?_
          refine M.callV (kX3_refuse l G o L (c1 + 2 * szE e) c2 k ly m1 m2 f1 f2 gc fq (by omega) hB 1 (by omega)) cv_X3_73 cd_X3_refuse rfl (st := []) rfl hRa.1 (by omega) (by decide) rfl (Nat.zero_le _) (Nat.zero_le _) hRa (fun r3 w4 q5 => ?_)
          obtain ⟨q5r, hR2, q5f⟩ := q5
          rw [q5r]
          have hF2 : FrR o w w4 := FrR.tr hFa q5f
          exact M.zret rfl (Or.inl rfl) (Nat.zero_le _) (Nat.zero_le _) (by show PQ o L c1 c2 j ly m1 m2 f1 f2 fc fq w _ _ ((pBin L 14 14 f) j); rw [hI, show 301 - n = 0 by omega]; exact ⟨rfl, hF2, hy, _, _, hR2⟩)
        · skip
          refine M.run 1 (pc' := 20) (lv' := [some (vr o), some (vi ((op : Nat) : Int)), some (vi ((n : Nat) : Int))]) (st' := [vr o]) rfl ?_
          refine M.get fl_X3_12 rfl hRa.1 (kf := 0) (v := vr (o + 1)) rfl ?_
          refine M.run 1 (pc' := 24) (lv' := [some (vr o), some (vi ((op : Nat) : Int)), some (vi ((n : Nat) : Int))]) (st' := [vr o, vr (o + 1)]) rfl ?_
          refine M.get fl_X3_38 rfl hRa.1 (kf := 5) (v := vi ((k : Nat) : Int)) rfl ?_
          obtain ⟨_, _, _, hKo, _⟩ := id hRa.2.2.2
          refine M.callV (kX8_sort l G (o + 1) (o + 2) (o + 3) (o + 4) (ap4_o o) L k (by omega)) cv_X3_51 cd_X8_sort rfl (st := []) rfl hKo (by omega) (by decide) rfl (Nat.zero_le _) (Nat.zero_le _) hRa.2.2.2 (fun r7 w8 q9 => ?_)
          rw [q9.1, q9.2]
          obtain ⟨⟨ht5, ht6⟩, _⟩ := hB k
          refine M.run 1 (pc' := 32) (lv' := [some (vr o), some (vi ((op : Nat) : Int)), some (vi ((n : Nat) : Int))]) (st' := [vi 14, vi ((gTk L k).1)]) rfl ?_
          refine M.icmp_eq (tgt := 37) rfl (qI (by omega)) (qI (by decide)) (by decide) (fun h32 => ?_) (fun h32 => ?_)
          · skip
            have hk300 := hx51 k (by omega)
            have hop2 : (gTk L k).1 = 14 ∨ (gTk L k).1 = 14 := by omega
            have hop3 : (gTk L k).1 = 14 := by omega
            obtain ⟨⟨ht1, ht2⟩, _⟩ := hB k
            refine M.run 2 (pc' := 39) (lv' := [some (vr o), some (vi ((op : Nat) : Int)), some (vi ((n : Nat) : Int))]) (st' := [vr o, vr o]) rfl ?_
            refine M.get fl_X3_38 rfl hRa.1 (kf := 5) (v := vi ((k : Nat) : Int)) rfl ?_
            refine M.run 2 (pc' := 44) (lv' := [some (vr o), some (vi ((op : Nat) : Int)), some (vi ((n : Nat) : Int))]) (st' := [vi (((k : Nat) : Int) + 1), vr o]) rfl ?_
            rw [show ((k : Nat) : Int) + 1 = ((k + 1 : Nat) : Int) from by omega]
            refine M.put fl_X3_38 rfl (hRa.1) rfl rfl (Nat.le_of_ble_eq_true rfl) ?_
            change g 0 0 (up wa o (Ob 2 [vr (o + 1), vr (o + 5), vr (o + 6), vi ((c1 + 2 * szE e : Nat) : Int), vi ((c2 : Nat) : Int), vi ((k + 1 : Nat) : Int), vi ly, vr m1, vr m2, vi f1, vi f2])) 47 [some (vr o), some (vi ((op : Nat) : Int)), some (vi ((n : Nat) : Int))] []
            have hR11 : isRe o L (c1 + 2 * szE e) c2 (k + 1) ly m1 m2 f1 f2 gc fq (up wa o (Ob 2 [vr (o + 1), vr (o + 5), vr (o + 6), vi ((c1 + 2 * szE e : Nat) : Int), vi ((c2 : Nat) : Int), vi ((k + 1 : Nat) : Int), vi ly, vr m1, vr m2, vi f1, vi f2])) := isRe_1 hRa
            have hF11 : FrR o w (up wa o (Ob 2 [vr (o + 1), vr (o + 5), vr (o + 6), vi ((c1 + 2 * szE e : Nat) : Int), vi ((c2 : Nat) : Int), vi ((k + 1 : Nat) : Int), vi ly, vr m1, vr m2, vi f1, vi f2])) := FrR.u hFa o (by omega)
            generalize up wa o (Ob 2 [vr (o + 1), vr (o + 5), vr (o + 6), vi ((c1 + 2 * szE e : Nat) : Int), vi ((c2 : Nat) : Int), vi ((k + 1 : Nat) : Int), vi ly, vr m1, vr m2, vi f1, vi f2]) = w11 at hR11 hF11 ⊢
            refine M.run 2 (pc' := 49) (lv' := [some (vr o), some (vi ((op : Nat) : Int)), some (vi ((n : Nat) : Int))]) (st' := [vi ((op : Nat) : Int), vr o]) rfl ?_
            refine M.callV (hsub (c1 + 2 * szE e) c2 (k + 1) m1 m2 f1 f2 gc fq (by omega) (by omega)) cv_X3_134 cd_X3_both rfl (st := []) rfl (hR11.1) (by omega) (by decide) rfl (Nat.zero_le _) (Nat.zero_le _) hR11 (fun r12 w12 q12 => ?_)
            rcases hR2 : f (k + 1) with ⟨e2, k2⟩ | ⟨s2, k2⟩
            · skip
              rw [hR2] at q12
              obtain ⟨hr2, hg2, ⟨hz2, hy2⟩, hK2, gc2, hS2, hC2, hU2⟩ := q12
              rw [hr2]
              have hG2 := FrR.tr hF11 hg2
              refine M.if_eq (tgt := 65) rfl (qI (by decide)) (by decide) (fun q => absurd q (by decide)) (fun _ => ?_)
              refine M.run 3 (pc' := 59) (lv' := [some (vr o), some (vi ((op : Nat) : Int)), some (vi ((n : Nat) : Int))]) (st' := [vi 0, vi 14, vr o]) rfl ?_
              refine M.callV (kX3_emit l G o L (c1 + 2 * szE e + 2 * szE e2) c2 k2 ly m1 m2 f1 f2 gc2 fq (by omega) 14 0 (by omega) (by omega)) cv_X3_114 cd_X3_emit rfl (st := []) rfl hS2.1 (by omega) (by decide) rfl (Nat.zero_le _) (Nat.zero_le _) hS2 (fun r14 w15 q16 => ?_)
              obtain ⟨q16r, hR13, q16f⟩ := q16
              rw [q16r]
              have hF13 : FrR o w w15 := FrR.tr hG2 q16f
              refine M.if_ne (tgt := 67) rfl (qI (by decide)) (by decide) (fun _ => ?_) (fun q => absurd q (by decide))
              refine M.run 2 (pc' := 12) (lv' := [some (vr o), some (vi ((op : Nat) : Int)), some (vi (((n : Nat) : Int) + 1))]) (st' := []) rfl ?_
              exact ih12 (n + 1) k2 (biE 14 e e2) (uN (uN gc2 (c1 + 2 * szE e + 2 * szE e2) 14) (c1 + 2 * szE e + 2 * szE e2 + 1) 0) w15 (by have hq9 := hR13; rw [show c1 + 2 * szE e + 2 * szE e2 + 2 = c1 + 2 * szE (biE 14 e e2) from by show _ = c1 + 2 * (szE e + szE e2 + 1); omega] at hq9; exact hq9) hF13 (by show szE e + szE e2 + 1 + j ≤ k2; omega) hy2 (okE_bi hK hK2) (bi_at hK hK2 hC hC2 hU2) (fun i hi => by rw [uN_o (by omega), uN_o (by omega)]; exact (hU2 i (by omega)).trans (hU i hi)) (by rw [hI, pLoop_y (by omega) hop2 hR2, show 301 - n - 1 = 301 - (n + 1) by omega, hop3]) (by omega) (by omega)
            · skip
              rw [hR2] at q12
              obtain ⟨hr2, hg2, hy2, dd2, gc2, hS2⟩ := q12
              rw [hr2]
              have hG2 := FrR.tr hF11 hg2
              refine M.if_eq (tgt := 65) rfl (qI (by decide)) (by decide) (fun _ => ?_) (fun q => absurd q (by decide))
              refine M.run 1 (pc' := 66) (lv' := [some (vr o), some (vi ((op : Nat) : Int)), some (vi ((n : Nat) : Int))]) (st' := [vi 0]) rfl ?_
              exact M.zret rfl (Or.inl rfl) (Nat.zero_le _) (Nat.zero_le _) (by show PQ o L c1 c2 j ly m1 m2 f1 f2 fc fq w _ _ ((pBin L 14 14 f) j); rw [hI, pLoop_n (by omega) hop2 hR2]; exact ⟨rfl, hG2, hy2, _, _, hS2⟩)
          · skip
            refine M.run 1 (pc' := 36) (lv' := [some (vr o), some (vi ((op : Nat) : Int)), some (vi ((n : Nat) : Int))]) (st' := [vi 1]) rfl ?_
            exact M.zret rfl (Or.inr rfl) (Nat.zero_le _) (Nat.zero_le _) (by show PQ o L c1 c2 j ly m1 m2 f1 f2 fc fq w _ _ ((pBin L 14 14 f) j); rw [hI, pLoop_e (by omega) (by omega)]; exact ⟨rfl, hFa, ⟨hz, hy⟩, hK, _, hRa, hC, hU⟩)
    exact Lp12 _ 0 k1 e1 gc1 w1 hS1 hG1 hz1 hy1 hK1 hC1 hU1 (pBin_y hR1) (Nat.zero_le _) (Nat.lt_succ_self _)
  · skip
    rw [hR1] at q1
    obtain ⟨hr1, hg1, hy1, dd1, gc1, hS1⟩ := q1
    rw [hr1]
    have hG1 := FrR.tr FrR.rf hg1
    refine M.if_ne (tgt := 10) rfl (qI (by decide)) (by decide) (fun q => absurd q (by decide)) (fun _ => ?_)
    refine M.run 1 (pc' := 9) (lv' := [some (vr o), some (vi ((op : Nat) : Int)), none]) (st' := [vi 0]) rfl ?_
    exact M.zret rfl (Or.inl rfl) (Nat.zero_le _) (Nat.zero_le _) (by show PQ o L c1 c2 j ly m1 m2 f1 f2 fc fq w _ _ ((pBin L 14 14 f) j); rw [pBin_n hR1]; exact ⟨rfl, hG1, hy1, _, _, hS1⟩)
set_option maxHeartbeats 4000000 in
set_option maxRecDepth 100000 in
theorem kX3_both (l : Launch) (G : GT) (o : Nat) (L : List (Int × Int × Int)) (ly : Int) (op d : Nat) (hd : 3 ≤ d) (hop : op ≤ 100) (hB : tkB L) (hx51 : ∀ j : Nat, (gTk L j).1 ≠ 51 → j ≤ 300) (f : Nat → Pr) (hsub : PC l G yX3_ask cX3_ask 4 d o L ly op f) : PC l G yX3_both cX3_both 3 (d + 1) o L ly op (pBin L 15 15 f) := by
  intro c1 c2 j m1 m2 f1 f2 fc fq hc hj
  refine Ctr.of (t := tX3_both) (lv0 := [some (vr o), some (vi ((op : Nat) : Int)), none]) (by decide +kernel) tX3_both_ok rfl rfl (fun w g hP M => ?_)
  refine M.run 2 (pc' := 2) (lv' := [some (vr o), some (vi ((op : Nat) : Int)), none]) (st' := [vi ((op : Nat) : Int), vr o]) rfl ?_
  refine M.callV (hsub c1 c2 j m1 m2 f1 f2 fc fq (by omega) (by omega)) cv_X3_137 cd_X3_ask rfl (st := []) rfl (hP.1) (by omega) (by decide) rfl (Nat.zero_le _) (Nat.zero_le _) hP (fun r1 w1 q1 => ?_)
  rcases hR1 : f j with ⟨e1, k1⟩ | ⟨s1, k1⟩
  · skip
    rw [hR1] at q1
    obtain ⟨hr1, hg1, ⟨hz1, hy1⟩, hK1, gc1, hS1, hC1, hU1⟩ := q1
    rw [hr1]
    have hG1 := FrR.tr FrR.rf hg1
    refine M.if_ne (tgt := 10) rfl (qI (by decide)) (by decide) (fun _ => ?_) (fun q => absurd q (by decide))
    refine M.run 2 (pc' := 12) (lv' := [some (vr o), some (vi ((op : Nat) : Int)), some (vi 0)]) (st' := []) rfl ?_
    have Lp12 : ∀ (N : Nat) (n : Nat) (k : Nat) (e : Ex) (gc : Nat → Int) (wa : Wo), (isRe o L (c1 + 2 * szE e) c2 k ly m1 m2 f1 f2 gc fq wa) → (FrR o w wa) → (szE e + j ≤ k) → (k ≤ 301) → (okE e) → (cdAt gc c1 (cdE e c1)) → (∀ i : Nat, i < c1 → gc i = fc i) → ((pBin L 15 15 f) j = pLoop L 15 15 f (301 - n) e k) → (n ≤ 301) → 301 - n < N → g 0 0 wa 12 [some (vr o), some (vi ((op : Nat) : Int)), some (vi ((n : Nat) : Int))] [] := by
      intro N
      induction N with
      | zero => intro n k e gc wa _ _ _ _ _ _ _ _ _ hN; exact absurd hN (Nat.not_lt_zero _)
      | succ N ih12 =>
        intro n k e gc wa hRa hFa hz hy hK hC hU hI hn hN
        refine M.run 2 (pc' := 16) (lv' := [some (vr o), some (vi ((op : Nat) : Int)), some (vi ((n : Nat) : Int))]) (st' := [vi 300, vi ((n : Nat) : Int)]) rfl ?_
        refine M.icmp_gt (tgt := 73) rfl (qI (by omega)) (qI (by decide)) (by decide) (fun h16 => ?_) (fun h16 => ?_)
        · skip
          refine M.run 2 (pc' := 75) (lv' := [some (vr o), some (vi ((op : Nat) : Int)), some (vi ((n : Nat) : Int))]) (st' := [vi 1, vr o]) rfl ?_
          refine M.callV (kX3_refuse l G o L (c1 + 2 * szE e) c2 k ly m1 m2 f1 f2 gc fq (by omega) hB 1 (by omega)) cv_X3_73 cd_X3_refuse rfl (st := []) rfl hRa.1 (by omega) (by decide) rfl (Nat.zero_le _) (Nat.zero_le _) hRa (fun r3 w4 q5 => ?_)
          obtain ⟨q5r, hR2, q5f⟩ := q5
          rw [q5r]
          have hF2 : FrR o w w4 := FrR.tr hFa q5f
          exact M.zret rfl (Or.inl rfl) (Nat.zero_le _) (Nat.zero_le _) (by show PQ o L c1 c2 j ly m1 m2 f1 f2 fc fq w _ _ ((pBin L 15 15 f) j); rw [hI, show 301 - n = 0 by omega]; exact ⟨rfl, hF2, hy, _, _, hR2⟩)
        · skip
          refine M.run 1 (pc' := 20) (lv' := [some (vr o), some (vi ((op : Nat) : Int)), some (vi ((n : Nat) : Int))]) (st' := [vr o]) rfl ?_
          refine M.get fl_X3_12 rfl hRa.1 (kf := 0) (v := vr (o + 1)) rfl ?_
          refine M.run 1 (pc' := 24) (lv' := [some (vr o), some (vi ((op : Nat) : Int)), some (vi ((n : Nat) : Int))]) (st' := [vr o, vr (o + 1)]) rfl ?_
          refine M.get fl_X3_38 rfl hRa.1 (kf := 5) (v := vi ((k : Nat) : Int)) rfl ?_
          obtain ⟨_, _, _, hKo, _⟩ := id hRa.2.2.2
          refine M.callV (kX8_sort l G (o + 1) (o + 2) (o + 3) (o + 4) (ap4_o o) L k (by omega)) cv_X3_51 cd_X8_sort rfl (st := []) rfl hKo (by omega) (by decide) rfl (Nat.zero_le _) (Nat.zero_le _) hRa.2.2.2 (fun r7 w8 q9 => ?_)
          rw [q9.1, q9.2]
          obtain ⟨⟨ht5, ht6⟩, _⟩ := hB k
          refine M.run 1 (pc' := 32) (lv' := [some (vr o), some (vi ((op : Nat) : Int)), some (vi ((n : Nat) : Int))]) (st' := [vi 15, vi ((gTk L k).1)]) rfl ?_
          refine M.icmp_eq (tgt := 37) rfl (qI (by omega)) (qI (by decide)) (by decide) (fun h32 => ?_) (fun h32 => ?_)
          · skip
            have hk300 := hx51 k (by omega)
            have hop2 : (gTk L k).1 = 15 ∨ (gTk L k).1 = 15 := by omega
            have hop3 : (gTk L k).1 = 15 := by omega
            obtain ⟨⟨ht1, ht2⟩, _⟩ := hB k
            refine M.run 2 (pc' := 39) (lv' := [some (vr o), some (vi ((op : Nat) : Int)), some (vi ((n : Nat) : Int))]) (st' := [vr o, vr o]) rfl ?_
            refine M.get fl_X3_38 rfl hRa.1 (kf := 5) (v := vi ((k : Nat) : Int)) rfl ?_
            refine M.run 2 (pc' := 44) (lv' := [some (vr o), some (vi ((op : Nat) : Int)), some (vi ((n : Nat) : Int))]) (st' := [vi (((k : Nat) : Int) + 1), vr o]) rfl ?_
            rw [show ((k : Nat) : Int) + 1 = ((k + 1 : Nat) : Int) from by omega]
            refine M.put fl_X3_38 rfl (hRa.1) rfl rfl (Nat.le_of_ble_eq_true rfl) ?_
            change g 0 0 (up wa o (Ob 2 [vr (o + 1), vr (o + 5), vr (o + 6), vi ((c1 + 2 * szE e : Nat) : Int), vi ((c2 : Nat) : Int), vi ((k + 1 : Nat) : Int), vi ly, vr m1, vr m2, vi f1, vi f2])) 47 [some (vr o), some (vi ((op : Nat) : Int)), some (vi ((n : Nat) : Int))] []
            have hR11 : isRe o L (c1 + 2 * szE e) c2 (k + 1) ly m1 m2 f1 f2 gc fq (up wa o (Ob 2 [vr (o + 1), vr (o + 5), vr (o + 6), vi ((c1 + 2 * szE e : Nat) : Int), vi ((c2 : Nat) : Int), vi ((k + 1 : Nat) : Int), vi ly, vr m1, vr m2, vi f1, vi f2])) := isRe_1 hRa
            have hF11 : FrR o w (up wa o (Ob 2 [vr (o + 1), vr (o + 5), vr (o + 6), vi ((c1 + 2 * szE e : Nat) : Int), vi ((c2 : Nat) : Int), vi ((k + 1 : Nat) : Int), vi ly, vr m1, vr m2, vi f1, vi f2])) := FrR.u hFa o (by omega)
            generalize up wa o (Ob 2 [vr (o + 1), vr (o + 5), vr (o + 6), vi ((c1 + 2 * szE e : Nat) : Int), vi ((c2 : Nat) : Int), vi ((k + 1 : Nat) : Int), vi ly, vr m1, vr m2, vi f1, vi f2]) = w11 at hR11 hF11 ⊢
            refine M.run 2 (pc' := 49) (lv' := [some (vr o), some (vi ((op : Nat) : Int)), some (vi ((n : Nat) : Int))]) (st' := [vi ((op : Nat) : Int), vr o]) rfl ?_
            refine M.callV (hsub (c1 + 2 * szE e) c2 (k + 1) m1 m2 f1 f2 gc fq (by omega) (by omega)) cv_X3_137 cd_X3_ask rfl (st := []) rfl (hR11.1) (by omega) (by decide) rfl (Nat.zero_le _) (Nat.zero_le _) hR11 (fun r12 w12 q12 => ?_)
            rcases hR2 : f (k + 1) with ⟨e2, k2⟩ | ⟨s2, k2⟩
            · skip
              rw [hR2] at q12
              obtain ⟨hr2, hg2, ⟨hz2, hy2⟩, hK2, gc2, hS2, hC2, hU2⟩ := q12
              rw [hr2]
              have hG2 := FrR.tr hF11 hg2
              refine M.if_eq (tgt := 65) rfl (qI (by decide)) (by decide) (fun q => absurd q (by decide)) (fun _ => ?_)
              refine M.run 3 (pc' := 59) (lv' := [some (vr o), some (vi ((op : Nat) : Int)), some (vi ((n : Nat) : Int))]) (st' := [vi 0, vi 15, vr o]) rfl ?_
              refine M.callV (kX3_emit l G o L (c1 + 2 * szE e + 2 * szE e2) c2 k2 ly m1 m2 f1 f2 gc2 fq (by omega) 15 0 (by omega) (by omega)) cv_X3_114 cd_X3_emit rfl (st := []) rfl hS2.1 (by omega) (by decide) rfl (Nat.zero_le _) (Nat.zero_le _) hS2 (fun r14 w15 q16 => ?_)
              obtain ⟨q16r, hR13, q16f⟩ := q16
              rw [q16r]
              have hF13 : FrR o w w15 := FrR.tr hG2 q16f
              refine M.if_ne (tgt := 67) rfl (qI (by decide)) (by decide) (fun _ => ?_) (fun q => absurd q (by decide))
              refine M.run 2 (pc' := 12) (lv' := [some (vr o), some (vi ((op : Nat) : Int)), some (vi (((n : Nat) : Int) + 1))]) (st' := []) rfl ?_
              exact ih12 (n + 1) k2 (biE 15 e e2) (uN (uN gc2 (c1 + 2 * szE e + 2 * szE e2) 15) (c1 + 2 * szE e + 2 * szE e2 + 1) 0) w15 (by have hq9 := hR13; rw [show c1 + 2 * szE e + 2 * szE e2 + 2 = c1 + 2 * szE (biE 15 e e2) from by show _ = c1 + 2 * (szE e + szE e2 + 1); omega] at hq9; exact hq9) hF13 (by show szE e + szE e2 + 1 + j ≤ k2; omega) hy2 (okE_bi hK hK2) (bi_at hK hK2 hC hC2 hU2) (fun i hi => by rw [uN_o (by omega), uN_o (by omega)]; exact (hU2 i (by omega)).trans (hU i hi)) (by rw [hI, pLoop_y (by omega) hop2 hR2, show 301 - n - 1 = 301 - (n + 1) by omega, hop3]) (by omega) (by omega)
            · skip
              rw [hR2] at q12
              obtain ⟨hr2, hg2, hy2, dd2, gc2, hS2⟩ := q12
              rw [hr2]
              have hG2 := FrR.tr hF11 hg2
              refine M.if_eq (tgt := 65) rfl (qI (by decide)) (by decide) (fun _ => ?_) (fun q => absurd q (by decide))
              refine M.run 1 (pc' := 66) (lv' := [some (vr o), some (vi ((op : Nat) : Int)), some (vi ((n : Nat) : Int))]) (st' := [vi 0]) rfl ?_
              exact M.zret rfl (Or.inl rfl) (Nat.zero_le _) (Nat.zero_le _) (by show PQ o L c1 c2 j ly m1 m2 f1 f2 fc fq w _ _ ((pBin L 15 15 f) j); rw [hI, pLoop_n (by omega) hop2 hR2]; exact ⟨rfl, hG2, hy2, _, _, hS2⟩)
          · skip
            refine M.run 1 (pc' := 36) (lv' := [some (vr o), some (vi ((op : Nat) : Int)), some (vi ((n : Nat) : Int))]) (st' := [vi 1]) rfl ?_
            exact M.zret rfl (Or.inr rfl) (Nat.zero_le _) (Nat.zero_le _) (by show PQ o L c1 c2 j ly m1 m2 f1 f2 fc fq w _ _ ((pBin L 15 15 f) j); rw [hI, pLoop_e (by omega) (by omega)]; exact ⟨rfl, hFa, ⟨hz, hy⟩, hK, _, hRa, hC, hU⟩)
    exact Lp12 _ 0 k1 e1 gc1 w1 hS1 hG1 hz1 hy1 hK1 hC1 hU1 (pBin_y hR1) (Nat.zero_le _) (Nat.lt_succ_self _)
  · skip
    rw [hR1] at q1
    obtain ⟨hr1, hg1, hy1, dd1, gc1, hS1⟩ := q1
    rw [hr1]
    have hG1 := FrR.tr FrR.rf hg1
    refine M.if_ne (tgt := 10) rfl (qI (by decide)) (by decide) (fun q => absurd q (by decide)) (fun _ => ?_)
    refine M.run 1 (pc' := 9) (lv' := [some (vr o), some (vi ((op : Nat) : Int)), none]) (st' := [vi 0]) rfl ?_
    exact M.zret rfl (Or.inl rfl) (Nat.zero_le _) (Nat.zero_le _) (by show PQ o L c1 c2 j ly m1 m2 f1 f2 fc fq w _ _ ((pBin L 15 15 f) j); rw [pBin_n hR1]; exact ⟨rfl, hG1, hy1, _, _, hS1⟩)
