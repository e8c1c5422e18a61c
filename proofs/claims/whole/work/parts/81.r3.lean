theorem ap4_o (o : Nat) : ap4 (o + 1) (o + 2) (o + 3) (o + 4) := by unfold ap4; omega
/-- the reader's cells behind o -/
def isRe (o : Nat) (L : List (Int × Int × Int)) (c1 c2 j : Nat) (ly : Int) (r1 r2 : Nat) (f1 f2 : Int) (fc fq : Nat → Int) (w : Wo) : Prop := lk w o = some (Ob 2 [vr (o + 1), vr (o + 5), vr (o + 6), vi ((c1 : Nat) : Int), vi ((c2 : Nat) : Int), vi ((j : Nat) : Int), vi ly, vr r1, vr r2, vi f1, vi f2]) ∧ lk w (o + 5) = some (Ar 0 602 fc) ∧ lk w (o + 6) = some (Ar 0 72 fq) ∧ tkA (o + 1) (o + 2) (o + 3) (o + 4) L w
def FrR (o : Nat) (w w' : Wo) : Prop := ∀ a : Nat, (a < o ∨ o + 6 < a) → lk w' a = lk w a
theorem FrR.rf {o : Nat} {w : Wo} : FrR o w w := fun _ _ => rfl
theorem FrR.tr {o : Nat} {w w1 w2 : Wo} (h : FrR o w w1) (h2 : FrR o w1 w2) : FrR o w w2 := fun a ha => (h2 a ha).trans (h a ha)
theorem FrR.u {o : Nat} {w w1 : Wo} (h : FrR o w w1) (a : Nat) {c : Ce} (ha : o ≤ a ∧ a ≤ o + 6) : FrR o w (up w1 a c) := fun b hb => (lk_up_n (by omega)).trans (h b hb)
section QRE
variable {o : Nat} {L : List (Int × Int × Int)} {c1 c2 j d1 d2 i : Nat} {ly lz : Int} {r1 r2 s1 s2 : Nat} {f1 f2 g1 g2 : Int} {fc fq gc gq : Nat → Int} {w : Wo}
theorem tkA_o {a : Nat} {c : Ce} (h : tkA (o + 1) (o + 2) (o + 3) (o + 4) L w) (ha : a = o ∨ a = o + 5 ∨ a = o + 6) : tkA (o + 1) (o + 2) (o + 3) (o + 4) L (up w a c) := by
  obtain ⟨fs, fv, fz, h1, h2, h3, h4, h5⟩ := h
  exact ⟨fs, fv, fz, (lk_up_n (by omega)).trans h1, (lk_up_n (by omega)).trans h2, (lk_up_n (by omega)).trans h3, (lk_up_n (by omega)).trans h4, h5⟩
theorem isRe_1 (h : isRe o L c1 c2 j ly r1 r2 f1 f2 fc fq w) : isRe o L d1 d2 i lz s1 s2 g1 g2 fc fq (up w o (Ob 2 [vr (o + 1), vr (o + 5), vr (o + 6), vi ((d1 : Nat) : Int), vi ((d2 : Nat) : Int), vi ((i : Nat) : Int), vi lz, vr s1, vr s2, vi g1, vi g2])) :=
  ⟨lk_up_s h.1, (lk_up_n (by omega)).trans h.2.1, (lk_up_n (by omega)).trans h.2.2.1, tkA_o h.2.2.2 (Or.inl rfl)⟩
theorem isRe_5 (h : isRe o L c1 c2 j ly r1 r2 f1 f2 fc fq w) : isRe o L c1 c2 j ly r1 r2 f1 f2 gc fq (up w (o + 5) (Ar 0 602 gc)) :=
  ⟨(lk_up_n (by omega)).trans h.1, lk_up_s h.2.1, (lk_up_n (by omega)).trans h.2.2.1, tkA_o h.2.2.2 (Or.inr (Or.inl rfl))⟩
theorem isRe_6 (h : isRe o L c1 c2 j ly r1 r2 f1 f2 fc fq w) : isRe o L c1 c2 j ly r1 r2 f1 f2 fc gq (up w (o + 6) (Ar 0 72 gq)) :=
  ⟨(lk_up_n (by omega)).trans h.1, (lk_up_n (by omega)).trans h.2.1, lk_up_s h.2.2.1, tkA_o h.2.2.2 (Or.inr (Or.inr rfl))⟩
end QRE
/-- the sorts and numbers of tokens are small -/
def tkB (L : List (Int × Int × Int)) : Prop := ∀ j : Nat, (0 ≤ (gTk L j).1 ∧ (gTk L j).1 ≤ 300) ∧ (0 ≤ (gTk L j).2.1 ∧ (gTk L j).2.1 ≤ 10000) ∧ 0 ≤ (gTk L j).2.2 ∧ (gTk L j).2.2 ≤ 300

set_option maxHeartbeats 4000000 in
set_option maxRecDepth 100000 in
theorem kX3_refuse (l : Launch) (G : GT) (o : Nat) (L : List (Int × Int × Int)) (c1 c2 j : Nat) (ly : Int) (m1 m2 : Nat) (f1 f2 : Int) (fc fq : Nat → Int) (hj : j ≤ 1000) (hB : tkB L) (x : Int) (hx : -2147483648 ≤ x ∧ x ≤ 2147483647) : Ctr l G yX3_refuse cX3_refuse 2 ((Option.some Jvm.ClassFile.FieldType.boolean)) 2 0 0 [vr o, vi x] (fun w => isRe o L c1 c2 j ly m1 m2 f1 f2 fc fq w) (fun w r w' => r = some (vi (0)) ∧ isRe o L c1 c2 j ly m1 m2 x ((gTk L j).2.2) fc fq w' ∧ FrR o w w') := by
  refine Ctr.of (t := tX3_refuse) (lv0 := [some (vr o), some (vi x)]) (by decide +kernel) tX3_refuse_ok rfl rfl (fun w g hP M => ?_)
  obtain ⟨⟨ht1, ht2⟩, ⟨hv1, hv2⟩, hz1, hz2⟩ := hB j
  refine M.run 2 (pc' := 2) (lv' := [some (vr o), some (vi x)]) (st' := [vi x, vr o]) rfl ?_
  refine M.put fl_X3_45 rfl (hP.1) rfl rfl (Nat.le_of_ble_eq_true rfl) ?_
  change g 0 0 (up w o (Ob 2 [vr (o + 1), vr (o + 5), vr (o + 6), vi ((c1 : Nat) : Int), vi ((c2 : Nat) : Int), vi ((j : Nat) : Int), vi ly, vr m1, vr m2, vi x, vi f2])) 5 [some (vr o), some (vi x)] []
  have hR1 : isRe o L c1 c2 j ly m1 m2 x f2 fc fq (up w o (Ob 2 [vr (o + 1), vr (o + 5), vr (o + 6), vi ((c1 : Nat) : Int), vi ((c2 : Nat) : Int), vi ((j : Nat) : Int), vi ly, vr m1, vr m2, vi x, vi f2])) := isRe_1 hP
  have hF1 : FrR o w (up w o (Ob 2 [vr (o + 1), vr (o + 5), vr (o + 6), vi ((c1 : Nat) : Int), vi ((c2 : Nat) : Int), vi ((j : Nat) : Int), vi ly, vr m1, vr m2, vi x, vi f2])) := FrR.u FrR.rf o (by omega)
  generalize up w o (Ob 2 [vr (o + 1), vr (o + 5), vr (o + 6), vi ((c1 : Nat) : Int), vi ((c2 : Nat) : Int), vi ((j : Nat) : Int), vi ly, vr m1, vr m2, vi x, vi f2]) = w1 at hR1 hF1 ⊢
  refine M.run 2 (pc' := 7) (lv' := [some (vr o), some (vi x)]) (st' := [vr o, vr o]) rfl ?_
  refine M.get fl_X3_12 rfl hR1.1 (kf := 0) (v := vr (o + 1)) rfl ?_
  refine M.run 1 (pc' := 11) (lv' := [some (vr o), some (vi x)]) (st' := [vr o, vr (o + 1), vr o]) rfl ?_
  refine M.get fl_X3_38 rfl hR1.1 (kf := 5) (v := vi ((j : Nat) : Int)) rfl ?_
  obtain ⟨_, _, _, hKo, _⟩ := id hR1.2.2.2
  refine M.callV (kX8_place l G (o + 1) (o + 2) (o + 3) (o + 4) (ap4_o o) L j (by omega)) cv_X3_70 cd_X8_place rfl (st := [vr o]) rfl hKo (by decide) (by decide) rfl (Nat.zero_le _) (Nat.zero_le _) hR1.2.2.2 (fun r2 w3 q4 => ?_)
  rw [q4.1, q4.2]
  refine M.put fl_X3_48 rfl (hR1.1) rfl rfl (Nat.le_of_ble_eq_true rfl) ?_
  change g 0 0 (up w1 o (Ob 2 [vr (o + 1), vr (o + 5), vr (o + 6), vi ((c1 : Nat) : Int), vi ((c2 : Nat) : Int), vi ((j : Nat) : Int), vi ly, vr m1, vr m2, vi x, vi ((gTk L j).2.2)])) 20 [some (vr o), some (vi x)] []
  have hR6 : isRe o L c1 c2 j ly m1 m2 x ((gTk L j).2.2) fc fq (up w1 o (Ob 2 [vr (o + 1), vr (o + 5), vr (o + 6), vi ((c1 : Nat) : Int), vi ((c2 : Nat) : Int), vi ((j : Nat) : Int), vi ly, vr m1, vr m2, vi x, vi ((gTk L j).2.2)])) := isRe_1 hR1
  have hF6 : FrR o w (up w1 o (Ob 2 [vr (o + 1), vr (o + 5), vr (o + 6), vi ((c1 : Nat) : Int), vi ((c2 : Nat) : Int), vi ((j : Nat) : Int), vi ly, vr m1, vr m2, vi x, vi ((gTk L j).2.2)])) := FrR.u hF1 o (by omega)
  generalize up w1 o (Ob 2 [vr (o + 1), vr (o + 5), vr (o + 6), vi ((c1 : Nat) : Int), vi ((c2 : Nat) : Int), vi ((j : Nat) : Int), vi ly, vr m1, vr m2, vi x, vi ((gTk L j).2.2)]) = w6 at hR6 hF6 ⊢
  refine M.run 1 (pc' := 21) (lv' := [some (vr o), some (vi x)]) (st' := [vi 0]) rfl ?_
  exact M.zret rfl (Or.inl rfl) (Nat.zero_le _) (Nat.zero_le _) ⟨rfl, hR6, hF6⟩
set_option maxHeartbeats 4000000 in
set_option maxRecDepth 100000 in
theorem kX3_take (l : Launch) (G : GT) (o : Nat) (L : List (Int × Int × Int)) (c1 c2 j : Nat) (ly : Int) (m1 m2 : Nat) (f1 f2 : Int) (fc fq : Nat → Int) (hj : j ≤ 1000) (hB : tkB L) (x : Int) (hx : -2147483648 ≤ x ∧ x ≤ 2147483647) : Ctr l G yX3_take cX3_take 2 ((Option.some Jvm.ClassFile.FieldType.boolean)) 3 0 0 [vr o, vi x] (fun w => isRe o L c1 c2 j ly m1 m2 f1 f2 fc fq w) (fun w r w' => if (gTk L j).1 = x then r = some (vi (1)) ∧ isRe o L c1 c2 (j + 1) ly m1 m2 f1 f2 fc fq w' ∧ FrR o w w' else r = some (vi (0)) ∧ isRe o L c1 c2 j ly m1 m2 1 ((gTk L j).2.2) fc fq w' ∧ FrR o w w') := by
  refine Ctr.of (t := tX3_take) (lv0 := [some (vr o), some (vi x)]) (by decide +kernel) tX3_take_ok rfl rfl (fun w g hP M => ?_)
  obtain ⟨⟨ht1, ht2⟩, ⟨hv1, hv2⟩, hz1, hz2⟩ := hB j
  refine M.run 1 (pc' := 1) (lv' := [some (vr o), some (vi x)]) (st' := [vr o]) rfl ?_
  refine M.get fl_X3_12 rfl hP.1 (kf := 0) (v := vr (o + 1)) rfl ?_
  refine M.run 1 (pc' := 5) (lv' := [some (vr o), some (vi x)]) (st' := [vr o, vr (o + 1)]) rfl ?_
  refine M.get fl_X3_38 rfl hP.1 (kf := 5) (v := vi ((j : Nat) : Int)) rfl ?_
  obtain ⟨_, _, _, hKo, _⟩ := id hP.2.2.2
  refine M.callV (kX8_sort l G (o + 1) (o + 2) (o + 3) (o + 4) (ap4_o o) L j (by omega)) cv_X3_51 cd_X8_sort rfl (st := []) rfl hKo (by decide) (by decide) rfl (Nat.zero_le _) (Nat.zero_le _) hP.2.2.2 (fun r1 w2 q3 => ?_)
  rw [q3.1, q3.2]
  refine M.run 1 (pc' := 12) (lv' := [some (vr o), some (vi x)]) (st' := [vi x, vi ((gTk L j).1)]) rfl ?_
  refine M.icmp_eq (tgt := 21) rfl (qI (by omega)) (qI (by omega)) (by decide) (fun h12 => ?_) (fun h12 => ?_)
  · skip
    refine M.run 2 (pc' := 23) (lv' := [some (vr o), some (vi x)]) (st' := [vr o, vr o]) rfl ?_
    refine M.get fl_X3_38 rfl hP.1 (kf := 5) (v := vi ((j : Nat) : Int)) rfl ?_
    refine M.run 2 (pc' := 28) (lv' := [some (vr o), some (vi x)]) (st' := [vi (((j : Nat) : Int) + 1), vr o]) rfl ?_
    rw [show ((j : Nat) : Int) + 1 = ((j + 1 : Nat) : Int) from by omega]
    refine M.put fl_X3_38 rfl (hP.1) rfl rfl (Nat.le_of_ble_eq_true rfl) ?_
    change g 0 0 (up w o (Ob 2 [vr (o + 1), vr (o + 5), vr (o + 6), vi ((c1 : Nat) : Int), vi ((c2 : Nat) : Int), vi ((j + 1 : Nat) : Int), vi ly, vr m1, vr m2, vi f1, vi f2])) 31 [some (vr o), some (vi x)] []
    have hR5 : isRe o L c1 c2 (j + 1) ly m1 m2 f1 f2 fc fq (up w o (Ob 2 [vr (o + 1), vr (o + 5), vr (o + 6), vi ((c1 : Nat) : Int), vi ((c2 : Nat) : Int), vi ((j + 1 : Nat) : Int), vi ly, vr m1, vr m2, vi f1, vi f2])) := isRe_1 hP
    have hF5 : FrR o w (up w o (Ob 2 [vr (o + 1), vr (o + 5), vr (o + 6), vi ((c1 : Nat) : Int), vi ((c2 : Nat) : Int), vi ((j + 1 : Nat) : Int), vi ly, vr m1, vr m2, vi f1, vi f2])) := FrR.u FrR.rf o (by omega)
    generalize up w o (Ob 2 [vr (o + 1), vr (o + 5), vr (o + 6), vi ((c1 : Nat) : Int), vi ((c2 : Nat) : Int), vi ((j + 1 : Nat) : Int), vi ly, vr m1, vr m2, vi f1, vi f2]) = w5 at hR5 hF5 ⊢
    refine M.run 1 (pc' := 32) (lv' := [some (vr o), some (vi x)]) (st' := [vi 1]) rfl ?_
    exact M.zret rfl (Or.inr rfl) (Nat.zero_le _) (Nat.zero_le _) (by rw [if_pos h12]; exact ⟨rfl, hR5, hF5⟩)
  · skip
    refine M.run 2 (pc' := 17) (lv' := [some (vr o), some (vi x)]) (st' := [vi 1, vr o]) rfl ?_
    refine M.callV (kX3_refuse l G o L c1 c2 j ly m1 m2 f1 f2 fc fq (by omega) hB 1 (by omega)) cv_X3_73 cd_X3_refuse rfl (st := []) rfl hP.1 (by decide) (by decide) rfl (Nat.zero_le _) (Nat.zero_le _) hP (fun r7 w8 q9 => ?_)
    obtain ⟨q9r, hR6, q9f⟩ := q9
    rw [q9r]
    have hF6 : FrR o w w8 := FrR.tr FrR.rf q9f
    exact M.zret rfl (Or.inl rfl) (Nat.zero_le _) (Nat.zero_le _) (by rw [if_neg h12]; exact ⟨rfl, hR6, hF6⟩)
set_option maxHeartbeats 4000000 in
set_option maxRecDepth 100000 in
theorem kX3_number (l : Launch) (G : GT) (o : Nat) (L : List (Int × Int × Int)) (c1 c2 j : Nat) (ly : Int) (m1 m2 : Nat) (f1 f2 : Int) (fc fq : Nat → Int) (hj : j ≤ 1000) (hB : tkB L) (x : Int) (y : Int) (hx : -2147483648 ≤ x ∧ x ≤ 2147483647) (hy : -2147483648 ≤ y ∧ y ≤ 2147483647) : Ctr l G yX3_number cX3_number 4 ((Option.some Jvm.ClassFile.FieldType.int)) 3 0 0 [vr o, vi x, vi y] (fun w => isRe o L c1 c2 j ly m1 m2 f1 f2 fc fq w) (fun w r w' => if (gTk L j).1 = 50 then (if x ≤ (gTk L j).2.1 ∧ (gTk L j).2.1 ≤ y then r = some (vi ((gTk L j).2.1)) ∧ isRe o L c1 c2 (j + 1) ly m1 m2 f1 f2 fc fq w' ∧ FrR o w w' else r = some (vi (-1)) ∧ isRe o L c1 c2 j ly m1 m2 2 ((gTk L j).2.2) fc fq w' ∧ FrR o w w') else r = some (vi (-1)) ∧ isRe o L c1 c2 j ly m1 m2 1 ((gTk L j).2.2) fc fq w' ∧ FrR o w w') := by
  refine Ctr.of (t := tX3_number) (lv0 := [some (vr o), some (vi x), some (vi y), none]) (by decide +kernel) tX3_number_ok rfl rfl (fun w g hP M => ?_)
  obtain ⟨⟨ht1, ht2⟩, ⟨hv1, hv2⟩, hz1, hz2⟩ := hB j
  refine M.run 1 (pc' := 1) (lv' := [some (vr o), some (vi x), some (vi y), none]) (st' := [vr o]) rfl ?_
  refine M.get fl_X3_12 rfl hP.1 (kf := 0) (v := vr (o + 1)) rfl ?_
  refine M.run 1 (pc' := 5) (lv' := [some (vr o), some (vi x), some (vi y), none]) (st' := [vr o, vr (o + 1)]) rfl ?_
  refine M.get fl_X3_38 rfl hP.1 (kf := 5) (v := vi ((j : Nat) : Int)) rfl ?_
  obtain ⟨_, _, _, hKo, _⟩ := id hP.2.2.2
  refine M.callV (kX8_value l G (o + 1) (o + 2) (o + 3) (o + 4) (ap4_o o) L j (by omega)) cv_X3_108 cd_X8_value rfl (st := []) rfl hKo (by decide) (by decide) rfl (Nat.zero_le _) (Nat.zero_le _) hP.2.2.2 (fun r1 w2 q3 => ?_)
  rw [q3.1, q3.2]
  refine M.run 2 (pc' := 13) (lv' := [some (vr o), some (vi x), some (vi y), some (vi ((gTk L j).2.1))]) (st' := [vr o]) rfl ?_
  refine M.get fl_X3_12 rfl hP.1 (kf := 0) (v := vr (o + 1)) rfl ?_
  refine M.run 1 (pc' := 17) (lv' := [some (vr o), some (vi x), some (vi y), some (vi ((gTk L j).2.1))]) (st' := [vr o, vr (o + 1)]) rfl ?_
  refine M.get fl_X3_38 rfl hP.1 (kf := 5) (v := vi ((j : Nat) : Int)) rfl ?_
  obtain ⟨_, _, _, hKo, _⟩ := id hP.2.2.2
  refine M.callV (kX8_sort l G (o + 1) (o + 2) (o + 3) (o + 4) (ap4_o o) L j (by omega)) cv_X3_51 cd_X8_sort rfl (st := []) rfl hKo (by decide) (by decide) rfl (Nat.zero_le _) (Nat.zero_le _) hP.2.2.2 (fun r5 w6 q7 => ?_)
  rw [q7.1, q7.2]
  refine M.run 1 (pc' := 25) (lv' := [some (vr o), some (vi x), some (vi y), some (vi ((gTk L j).2.1))]) (st' := [vi 50, vi ((gTk L j).1)]) rfl ?_
  refine M.icmp_eq (tgt := 36) rfl (qI (by omega)) (qI (by decide)) (by decide) (fun h25 => ?_) (fun h25 => ?_)
  · skip
    refine M.run 2 (pc' := 38) (lv' := [some (vr o), some (vi x), some (vi y), some (vi ((gTk L j).2.1))]) (st' := [vi x, vi ((gTk L j).2.1)]) rfl ?_
    refine M.icmp_lt (tgt := 46) rfl (qI (by omega)) (qI (by omega)) (by decide) (fun h38 => ?_) (fun h38 => ?_)
    · skip
      refine M.run 2 (pc' := 48) (lv' := [some (vr o), some (vi x), some (vi y), some (vi ((gTk L j).2.1))]) (st' := [vi 2, vr o]) rfl ?_
      refine M.callV (kX3_refuse l G o L c1 c2 j ly m1 m2 f1 f2 fc fq (by omega) hB 2 (by omega)) cv_X3_73 cd_X3_refuse rfl (st := []) rfl hP.1 (by decide) (by decide) rfl (Nat.zero_le _) (Nat.zero_le _) hP (fun r10 w11 q12 => ?_)
      obtain ⟨q12r, hR9, q12f⟩ := q12
      rw [q12r]
      have hF9 : FrR o w w11 := FrR.tr FrR.rf q12f
      refine M.run 2 (pc' := 53) (lv' := [some (vr o), some (vi x), some (vi y), some (vi ((gTk L j).2.1))]) (st' := [vi (-1)]) rfl ?_
      exact M.iret rfl (Nat.zero_le _) (Nat.zero_le _) (by rw [if_pos h25, if_neg (by omega)]; exact ⟨rfl, hR9, hF9⟩)
    · skip
      refine M.run 2 (pc' := 43) (lv' := [some (vr o), some (vi x), some (vi y), some (vi ((gTk L j).2.1))]) (st' := [vi y, vi ((gTk L j).2.1)]) rfl ?_
      refine M.icmp_le (tgt := 54) rfl (qI (by omega)) (qI (by omega)) (by decide) (fun h43 => ?_) (fun h43 => ?_)
      · skip
        refine M.run 2 (pc' := 56) (lv' := [some (vr o), some (vi x), some (vi y), some (vi ((gTk L j).2.1))]) (st' := [vr o, vr o]) rfl ?_
        refine M.get fl_X3_38 rfl hP.1 (kf := 5) (v := vi ((j : Nat) : Int)) rfl ?_
        refine M.run 2 (pc' := 61) (lv' := [some (vr o), some (vi x), some (vi y), some (vi ((gTk L j).2.1))]) (st' := [vi (((j : Nat) : Int) + 1), vr o]) rfl ?_
        rw [show ((j : Nat) : Int) + 1 = ((j + 1 : Nat) : Int) from by omega]
        refine M.put fl_X3_38 rfl (hP.1) rfl rfl (Nat.le_of_ble_eq_true rfl) ?_
        change g 0 0 (up w o (Ob 2 [vr (o + 1), vr (o + 5), vr (o + 6), vi ((c1 : Nat) : Int), vi ((c2 : Nat) : Int), vi ((j + 1 : Nat) : Int), vi ly, vr m1, vr m2, vi f1, vi f2])) 64 [some (vr o), some (vi x), some (vi y), some (vi ((gTk L j).2.1))] []
        have hR14 : isRe o L c1 c2 (j + 1) ly m1 m2 f1 f2 fc fq (up w o (Ob 2 [vr (o + 1), vr (o + 5), vr (o + 6), vi ((c1 : Nat) : Int), vi ((c2 : Nat) : Int), vi ((j + 1 : Nat) : Int), vi ly, vr m1, vr m2, vi f1, vi f2])) := isRe_1 hP
        have hF14 : FrR o w (up w o (Ob 2 [vr (o + 1), vr (o + 5), vr (o + 6), vi ((c1 : Nat) : Int), vi ((c2 : Nat) : Int), vi ((j + 1 : Nat) : Int), vi ly, vr m1, vr m2, vi f1, vi f2])) := FrR.u FrR.rf o (by omega)
        generalize up w o (Ob 2 [vr (o + 1), vr (o + 5), vr (o + 6), vi ((c1 : Nat) : Int), vi ((c2 : Nat) : Int), vi ((j + 1 : Nat) : Int), vi ly, vr m1, vr m2, vi f1, vi f2]) = w14 at hR14 hF14 ⊢
        refine M.run 1 (pc' := 65) (lv' := [some (vr o), some (vi x), some (vi y), some (vi ((gTk L j).2.1))]) (st' := [vi ((gTk L j).2.1)]) rfl ?_
        exact M.iret rfl (Nat.zero_le _) (Nat.zero_le _) (by rw [if_pos h25, if_pos (by omega)]; exact ⟨rfl, hR14, hF14⟩)
      · skip
        refine M.run 2 (pc' := 48) (lv' := [some (vr o), some (vi x), some (vi y), some (vi ((gTk L j).2.1))]) (st' := [vi 2, vr o]) rfl ?_
        refine M.callV (kX3_refuse l G o L c1 c2 j ly m1 m2 f1 f2 fc fq (by omega) hB 2 (by omega)) cv_X3_73 cd_X3_refuse rfl (st := []) rfl hP.1 (by decide) (by decide) rfl (Nat.zero_le _) (Nat.zero_le _) hP (fun r16 w17 q18 => ?_)
        obtain ⟨q18r, hR15, q18f⟩ := q18
        rw [q18r]
        have hF15 : FrR o w w17 := FrR.tr FrR.rf q18f
        refine M.run 2 (pc' := 53) (lv' := [some (vr o), some (vi x), some (vi y), some (vi ((gTk L j).2.1))]) (st' := [vi (-1)]) rfl ?_
        exact M.iret rfl (Nat.zero_le _) (Nat.zero_le _) (by rw [if_pos h25, if_neg (by omega)]; exact ⟨rfl, hR15, hF15⟩)
  · skip
    refine M.run 2 (pc' := 30) (lv' := [some (vr o), some (vi x), some (vi y), some (vi ((gTk L j).2.1))]) (st' := [vi 1, vr o]) rfl ?_
    refine M.callV (kX3_refuse l G o L c1 c2 j ly m1 m2 f1 f2 fc fq (by omega) hB 1 (by omega)) cv_X3_73 cd_X3_refuse rfl (st := []) rfl hP.1 (by decide) (by decide) rfl (Nat.zero_le _) (Nat.zero_le _) hP (fun r21 w22 q23 => ?_)
    obtain ⟨q23r, hR20, q23f⟩ := q23
    rw [q23r]
    have hF20 : FrR o w w22 := FrR.tr FrR.rf q23f
    refine M.run 2 (pc' := 35) (lv' := [some (vr o), some (vi x), some (vi y), some (vi ((gTk L j).2.1))]) (st' := [vi (-1)]) rfl ?_
    exact M.iret rfl (Nat.zero_le _) (Nat.zero_le _) (by rw [if_neg h25]; exact ⟨rfl, hR20, hF20⟩)
set_option maxHeartbeats 4000000 in
set_option maxRecDepth 100000 in
theorem kX3_addClause (l : Launch) (G : GT) (o : Nat) (L : List (Int × Int × Int)) (c1 c2 j : Nat) (ly : Int) (m1 m2 : Nat) (f1 f2 : Int) (fc fq : Nat → Int) (hc : c2 < 24) (x : Int) (y : Int) (z : Int) (hx : -2147483648 ≤ x ∧ x ≤ 2147483647) (hy : -2147483648 ≤ y ∧ y ≤ 2147483647) (hz : -2147483648 ≤ z ∧ z ≤ 2147483647) : Ctr l G yX3_addClause cX3_addClause 5 ((Option.none : Option Jvm.ClassFile.FieldType)) 1 0 0 [vr o, vi x, vi y, vi z] (fun w => isRe o L c1 c2 j ly m1 m2 f1 f2 fc fq w) (fun w r w' => r = none ∧ isRe o L c1 (c2 + 1) j ly m1 m2 f1 f2 fc (uN (uN (uN fq (3 * c2) x) (3 * c2 + 1) y) (3 * c2 + 2) z) w' ∧ FrR o w w') := by
  refine Ctr.of (t := tX3_addClause) (lv0 := [some (vr o), some (vi x), some (vi y), some (vi z), none]) (by decide +kernel) tX3_addClause_ok rfl rfl (fun w g hP M => ?_)
  refine M.run 2 (pc' := 2) (lv' := [some (vr o), some (vi x), some (vi y), some (vi z), none]) (st' := [vr o, vi 3]) rfl ?_
  refine M.get fl_X3_42 rfl hP.1 (kf := 4) (v := vi ((c2 : Nat) : Int)) rfl ?_
  refine M.run 1 (pc' := 6) (lv' := [some (vr o), some (vi x), some (vi y), some (vi z), none]) (st' := [vi (3 * ((c2 : Nat) : Int))]) rfl ?_
  rw [show 3 * ((c2 : Nat) : Int) = ((3 * c2 : Nat) : Int) from (by omega)]
  refine M.run 2 (pc' := 10) (lv' := [some (vr o), some (vi x), some (vi y), some (vi z), some (vi ((3 * c2 : Nat) : Int))]) (st' := [vi ((3 * c2 : Nat) : Int)]) rfl ?_
  refine M.if_lt (tgt := 25) rfl (qI (by omega)) (by decide) (fun h10 => ?_) (fun h10 => ?_)
  · skip
    omega
  · skip
    refine M.run 2 (pc' := 16) (lv' := [some (vr o), some (vi x), some (vi y), some (vi z), some (vi ((3 * c2 : Nat) : Int))]) (st' := [vr o, vi ((3 * c2 : Nat) : Int)]) rfl ?_
    refine M.get fl_X3_22 rfl hP.1 (kf := 2) (v := vr (o + 6)) rfl ?_
    refine M.alen rfl hP.2.2.1 (by decide) ?_
    refine M.run 2 (pc' := 22) (lv' := [some (vr o), some (vi x), some (vi y), some (vi z), some (vi ((3 * c2 : Nat) : Int))]) (st' := [vi (((72 : Nat) : Int) - 3), vi ((3 * c2 : Nat) : Int)]) rfl ?_
    refine M.icmp_le (tgt := 26) rfl (qI (by omega)) (qI (by omega)) (by decide) (fun h22 => ?_) (fun h22 => ?_)
    · skip
      refine M.run 1 (pc' := 27) (lv' := [some (vr o), some (vi x), some (vi y), some (vi z), some (vi ((3 * c2 : Nat) : Int))]) (st' := [vr o]) rfl ?_
      refine M.get fl_X3_22 rfl hP.1 (kf := 2) (v := vr (o + 6)) rfl ?_
      refine M.run 2 (pc' := 33) (lv' := [some (vr o), some (vi x), some (vi y), some (vi z), some (vi ((3 * c2 : Nat) : Int))]) (st' := [vi x, vi ((3 * c2 : Nat) : Int), vr (o + 6)]) rfl ?_
      refine M.iastN (3 * c2) rfl (hP.2.2.1) (by omega) (by decide) ?_
      have hR1 : isRe o L c1 c2 j ly m1 m2 f1 f2 fc (uN fq (3 * c2) x) (up w (o + 6) (Ar 0 72 (uN fq (3 * c2) x))) := isRe_6 hP
      have hF1 : FrR o w (up w (o + 6) (Ar 0 72 (uN fq (3 * c2) x))) := FrR.u FrR.rf (o + 6) (by omega)
      generalize up w (o + 6) (Ar 0 72 (uN fq (3 * c2) x)) = w1 at hR1 hF1 ⊢
      refine M.run 1 (pc' := 35) (lv' := [some (vr o), some (vi x), some (vi y), some (vi z), some (vi ((3 * c2 : Nat) : Int))]) (st' := [vr o]) rfl ?_
      refine M.get fl_X3_22 rfl hR1.1 (kf := 2) (v := vr (o + 6)) rfl ?_
      refine M.run 4 (pc' := 43) (lv' := [some (vr o), some (vi x), some (vi y), some (vi z), some (vi ((3 * c2 : Nat) : Int))]) (st' := [vi y, vi (((3 * c2 : Nat) : Int) + 1), vr (o + 6)]) rfl ?_
      refine M.iastN (3 * c2 + 1) rfl (hR1.2.2.1) (by omega) (by decide) ?_
      have hR2 : isRe o L c1 c2 j ly m1 m2 f1 f2 fc (uN (uN fq (3 * c2) x) (3 * c2 + 1) y) (up w1 (o + 6) (Ar 0 72 (uN (uN fq (3 * c2) x) (3 * c2 + 1) y))) := isRe_6 hR1
      have hF2 : FrR o w (up w1 (o + 6) (Ar 0 72 (uN (uN fq (3 * c2) x) (3 * c2 + 1) y))) := FrR.u hF1 (o + 6) (by omega)
      generalize up w1 (o + 6) (Ar 0 72 (uN (uN fq (3 * c2) x) (3 * c2 + 1) y)) = w2 at hR2 hF2 ⊢
      refine M.run 1 (pc' := 45) (lv' := [some (vr o), some (vi x), some (vi y), some (vi z), some (vi ((3 * c2 : Nat) : Int))]) (st' := [vr o]) rfl ?_
      refine M.get fl_X3_22 rfl hR2.1 (kf := 2) (v := vr (o + 6)) rfl ?_
      refine M.run 4 (pc' := 53) (lv' := [some (vr o), some (vi x), some (vi y), some (vi z), some (vi ((3 * c2 : Nat) : Int))]) (st' := [vi z, vi (((3 * c2 : Nat) : Int) + 2), vr (o + 6)]) rfl ?_
      refine M.iastN (3 * c2 + 2) rfl (hR2.2.2.1) (by omega) (by decide) ?_
      have hR3 : isRe o L c1 c2 j ly m1 m2 f1 f2 fc (uN (uN (uN fq (3 * c2) x) (3 * c2 + 1) y) (3 * c2 + 2) z) (up w2 (o + 6) (Ar 0 72 (uN (uN (uN fq (3 * c2) x) (3 * c2 + 1) y) (3 * c2 + 2) z))) := isRe_6 hR2
      have hF3 : FrR o w (up w2 (o + 6) (Ar 0 72 (uN (uN (uN fq (3 * c2) x) (3 * c2 + 1) y) (3 * c2 + 2) z))) := FrR.u hF2 (o + 6) (by omega)
      generalize up w2 (o + 6) (Ar 0 72 (uN (uN (uN fq (3 * c2) x) (3 * c2 + 1) y) (3 * c2 + 2) z)) = w3 at hR3 hF3 ⊢
      refine M.run 2 (pc' := 56) (lv' := [some (vr o), some (vi x), some (vi y), some (vi z), some (vi ((3 * c2 : Nat) : Int))]) (st' := [vr o, vr o]) rfl ?_
      refine M.get fl_X3_42 rfl hR3.1 (kf := 4) (v := vi ((c2 : Nat) : Int)) rfl ?_
      refine M.run 2 (pc' := 61) (lv' := [some (vr o), some (vi x), some (vi y), some (vi z), some (vi ((3 * c2 : Nat) : Int))]) (st' := [vi (((c2 : Nat) : Int) + 1), vr o]) rfl ?_
      rw [show ((c2 : Nat) : Int) + 1 = ((c2 + 1 : Nat) : Int) from by omega]
      refine M.put fl_X3_42 rfl (hR3.1) rfl rfl (Nat.le_of_ble_eq_true rfl) ?_
      change g 0 0 (up w3 o (Ob 2 [vr (o + 1), vr (o + 5), vr (o + 6), vi ((c1 : Nat) : Int), vi ((c2 + 1 : Nat) : Int), vi ((j : Nat) : Int), vi ly, vr m1, vr m2, vi f1, vi f2])) 64 [some (vr o), some (vi x), some (vi y), some (vi z), some (vi ((3 * c2 : Nat) : Int))] []
      have hR4 : isRe o L c1 (c2 + 1) j ly m1 m2 f1 f2 fc (uN (uN (uN fq (3 * c2) x) (3 * c2 + 1) y) (3 * c2 + 2) z) (up w3 o (Ob 2 [vr (o + 1), vr (o + 5), vr (o + 6), vi ((c1 : Nat) : Int), vi ((c2 + 1 : Nat) : Int), vi ((j : Nat) : Int), vi ly, vr m1, vr m2, vi f1, vi f2])) := isRe_1 hR3
      have hF4 : FrR o w (up w3 o (Ob 2 [vr (o + 1), vr (o + 5), vr (o + 6), vi ((c1 : Nat) : Int), vi ((c2 + 1 : Nat) : Int), vi ((j : Nat) : Int), vi ly, vr m1, vr m2, vi f1, vi f2])) := FrR.u hF3 o (by omega)
      generalize up w3 o (Ob 2 [vr (o + 1), vr (o + 5), vr (o + 6), vi ((c1 : Nat) : Int), vi ((c2 + 1 : Nat) : Int), vi ((j : Nat) : Int), vi ly, vr m1, vr m2, vi f1, vi f2]) = w4 at hR4 hF4 ⊢
      exact M.vret rfl (Nat.zero_le _) (Nat.zero_le _) ⟨rfl, hR4, hF4⟩
    · skip
      omega
set_option maxHeartbeats 4000000 in
set_option maxRecDepth 100000 in
theorem kX3_emit (l : Launch) (G : GT) (o : Nat) (L : List (Int × Int × Int)) (c1 c2 j : Nat) (ly : Int) (m1 m2 : Nat) (f1 f2 : Int) (fc fq : Nat → Int) (hc : c1 + 1 < 602) (x : Int) (y : Int) (hx : -2147483648 ≤ x ∧ x ≤ 2147483647) (hy : -2147483648 ≤ y ∧ y ≤ 2147483647) : Ctr l G yX3_emit cX3_emit 3 ((Option.some Jvm.ClassFile.FieldType.boolean)) 1 0 0 [vr o, vi x, vi y] (fun w => isRe o L c1 c2 j ly m1 m2 f1 f2 fc fq w) (fun w r w' => r = some (vi (1)) ∧ isRe o L (c1 + 2) c2 j ly m1 m2 f1 f2 (uN (uN fc c1 x) (c1 + 1) y) fq w' ∧ FrR o w w') := by
  refine Ctr.of (t := tX3_emit) (lv0 := [some (vr o), some (vi x), some (vi y)]) (by decide +kernel) tX3_emit_ok rfl rfl (fun w g hP M => ?_)
  refine M.run 1 (pc' := 1) (lv' := [some (vr o), some (vi x), some (vi y)]) (st' := [vr o]) rfl ?_
  refine M.get fl_X3_86 rfl hP.1 (kf := 3) (v := vi ((c1 : Nat) : Int)) rfl ?_
  refine M.if_lt (tgt := 21) rfl (qI (by omega)) (by decide) (fun h4 => ?_) (fun h4 => ?_)
  · skip
    omega
  · skip
    refine M.run 1 (pc' := 8) (lv' := [some (vr o), some (vi x), some (vi y)]) (st' := [vr o]) rfl ?_
    refine M.get fl_X3_86 rfl hP.1 (kf := 3) (v := vi ((c1 : Nat) : Int)) rfl ?_
    refine M.run 1 (pc' := 12) (lv' := [some (vr o), some (vi x), some (vi y)]) (st' := [vr o, vi ((c1 : Nat) : Int)]) rfl ?_
    refine M.get fl_X3_18 rfl hP.1 (kf := 1) (v := vr (o + 5)) rfl ?_
    refine M.alen rfl hP.2.1 (by decide) ?_
    refine M.run 2 (pc' := 18) (lv' := [some (vr o), some (vi x), some (vi y)]) (st' := [vi (((602 : Nat) : Int) - 2), vi ((c1 : Nat) : Int)]) rfl ?_
    refine M.icmp_le (tgt := 23) rfl (qI (by omega)) (qI (by omega)) (by decide) (fun h18 => ?_) (fun h18 => ?_)
    · skip
      refine M.run 1 (pc' := 24) (lv' := [some (vr o), some (vi x), some (vi y)]) (st' := [vr o]) rfl ?_
      refine M.get fl_X3_18 rfl hP.1 (kf := 1) (v := vr (o + 5)) rfl ?_
      refine M.run 1 (pc' := 28) (lv' := [some (vr o), some (vi x), some (vi y)]) (st' := [vr o, vr (o + 5)]) rfl ?_
      refine M.get fl_X3_86 rfl hP.1 (kf := 3) (v := vi ((c1 : Nat) : Int)) rfl ?_
      refine M.run 1 (pc' := 32) (lv' := [some (vr o), some (vi x), some (vi y)]) (st' := [vi x, vi ((c1 : Nat) : Int), vr (o + 5)]) rfl ?_
      refine M.iastN (c1) rfl (hP.2.1) (by omega) (by decide) ?_
      have hR1 : isRe o L c1 c2 j ly m1 m2 f1 f2 (uN fc c1 x) fq (up w (o + 5) (Ar 0 602 (uN fc c1 x))) := isRe_5 hP
      have hF1 : FrR o w (up w (o + 5) (Ar 0 602 (uN fc c1 x))) := FrR.u FrR.rf (o + 5) (by omega)
      generalize up w (o + 5) (Ar 0 602 (uN fc c1 x)) = w1 at hR1 hF1 ⊢
      refine M.run 1 (pc' := 34) (lv' := [some (vr o), some (vi x), some (vi y)]) (st' := [vr o]) rfl ?_
      refine M.get fl_X3_18 rfl hR1.1 (kf := 1) (v := vr (o + 5)) rfl ?_
      refine M.run 1 (pc' := 38) (lv' := [some (vr o), some (vi x), some (vi y)]) (st' := [vr o, vr (o + 5)]) rfl ?_
      refine M.get fl_X3_86 rfl hR1.1 (kf := 3) (v := vi ((c1 : Nat) : Int)) rfl ?_
      refine M.run 3 (pc' := 44) (lv' := [some (vr o), some (vi x), some (vi y)]) (st' := [vi y, vi (((c1 : Nat) : Int) + 1), vr (o + 5)]) rfl ?_
      refine M.iastN (c1 + 1) rfl (hR1.2.1) (by omega) (by decide) ?_
      have hR2 : isRe o L c1 c2 j ly m1 m2 f1 f2 (uN (uN fc c1 x) (c1 + 1) y) fq (up w1 (o + 5) (Ar 0 602 (uN (uN fc c1 x) (c1 + 1) y))) := isRe_5 hR1
      have hF2 : FrR o w (up w1 (o + 5) (Ar 0 602 (uN (uN fc c1 x) (c1 + 1) y))) := FrR.u hF1 (o + 5) (by omega)
      generalize up w1 (o + 5) (Ar 0 602 (uN (uN fc c1 x) (c1 + 1) y)) = w2 at hR2 hF2 ⊢
      refine M.run 2 (pc' := 47) (lv' := [some (vr o), some (vi x), some (vi y)]) (st' := [vr o, vr o]) rfl ?_
      refine M.get fl_X3_86 rfl hR2.1 (kf := 3) (v := vi ((c1 : Nat) : Int)) rfl ?_
      refine M.run 2 (pc' := 52) (lv' := [some (vr o), some (vi x), some (vi y)]) (st' := [vi (((c1 : Nat) : Int) + 2), vr o]) rfl ?_
      rw [show ((c1 : Nat) : Int) + 2 = ((c1 + 2 : Nat) : Int) from by omega]
      refine M.put fl_X3_86 rfl (hR2.1) rfl rfl (Nat.le_of_ble_eq_true rfl) ?_
      change g 0 0 (up w2 o (Ob 2 [vr (o + 1), vr (o + 5), vr (o + 6), vi ((c1 + 2 : Nat) : Int), vi ((c2 : Nat) : Int), vi ((j : Nat) : Int), vi ly, vr m1, vr m2, vi f1, vi f2])) 55 [some (vr o), some (vi x), some (vi y)] []
      have hR3 : isRe o L (c1 + 2) c2 j ly m1 m2 f1 f2 (uN (uN fc c1 x) (c1 + 1) y) fq (up w2 o (Ob 2 [vr (o + 1), vr (o + 5), vr (o + 6), vi ((c1 + 2 : Nat) : Int), vi ((c2 : Nat) : Int), vi ((j : Nat) : Int), vi ly, vr m1, vr m2, vi f1, vi f2])) := isRe_1 hR2
      have hF3 : FrR o w (up w2 o (Ob 2 [vr (o + 1), vr (o + 5), vr (o + 6), vi ((c1 + 2 : Nat) : Int), vi ((c2 : Nat) : Int), vi ((j : Nat) : Int), vi ly, vr m1, vr m2, vi f1, vi f2])) := FrR.u hF2 o (by omega)
      generalize up w2 o (Ob 2 [vr (o + 1), vr (o + 5), vr (o + 6), vi ((c1 + 2 : Nat) : Int), vi ((c2 : Nat) : Int), vi ((j : Nat) : Int), vi ly, vr m1, vr m2, vi f1, vi f2]) = w3 at hR3 hF3 ⊢
      refine M.run 1 (pc' := 56) (lv' := [some (vr o), some (vi x), some (vi y)]) (st' := [vi 1]) rfl ?_
      exact M.zret rfl (Or.inr rfl) (Nat.zero_le _) (Nat.zero_le _) ⟨rfl, hR3, hF3⟩
    · skip
      omega
set_option maxHeartbeats 4000000 in
set_option maxRecDepth 100000 in
theorem kX3_landHere (l : Launch) (G : GT) (o : Nat) (L : List (Int × Int × Int)) (c1 c2 j : Nat) (ly : Int) (m1 m2 : Nat) (f1 f2 : Int) (fc fq : Nat → Int) (p : Nat) (hp : p + 1 < 602) (hc : c1 ≤ 602) : Ctr l G yX3_landHere cX3_landHere 2 ((Option.none : Option Jvm.ClassFile.FieldType)) 1 0 0 [vr o, vi ((p : Nat) : Int)] (fun w => isRe o L c1 c2 j ly m1 m2 f1 f2 fc fq w) (fun w r w' => r = none ∧ isRe o L c1 c2 j ly m1 m2 f1 f2 (uN fc (p + 1) ((c1 : Nat) : Int)) fq w' ∧ FrR o w w') := by
  refine Ctr.of (t := tX3_landHere) (lv0 := [some (vr o), some (vi ((p : Nat) : Int))]) (by decide +kernel) tX3_landHere_ok rfl rfl (fun w g hP M => ?_)
  refine M.run 1 (pc' := 1) (lv' := [some (vr o), some (vi ((p : Nat) : Int))]) (st' := [vi ((p : Nat) : Int)]) rfl ?_
  refine M.if_lt (tgt := 27) rfl (qI (by omega)) (by decide) (fun h1 => ?_) (fun h1 => ?_)
  · skip
    omega
  · skip
    refine M.run 2 (pc' := 6) (lv' := [some (vr o), some (vi ((p : Nat) : Int))]) (st' := [vr o, vi ((p : Nat) : Int)]) rfl ?_
    refine M.get fl_X3_18 rfl hP.1 (kf := 1) (v := vr (o + 5)) rfl ?_
    refine M.alen rfl hP.2.1 (by decide) ?_
    refine M.run 2 (pc' := 12) (lv' := [some (vr o), some (vi ((p : Nat) : Int))]) (st' := [vi (((602 : Nat) : Int) - 1), vi ((p : Nat) : Int)]) rfl ?_
    refine M.icmp_ge (tgt := 27) rfl (qI (by omega)) (qI (by omega)) (by decide) (fun h12 => ?_) (fun h12 => ?_)
    · skip
      omega
    · skip
      refine M.run 1 (pc' := 16) (lv' := [some (vr o), some (vi ((p : Nat) : Int))]) (st' := [vr o]) rfl ?_
      refine M.get fl_X3_18 rfl hP.1 (kf := 1) (v := vr (o + 5)) rfl ?_
      refine M.run 4 (pc' := 23) (lv' := [some (vr o), some (vi ((p : Nat) : Int))]) (st' := [vr o, vi (((p : Nat) : Int) + 1), vr (o + 5)]) rfl ?_
      refine M.get fl_X3_86 rfl hP.1 (kf := 3) (v := vi ((c1 : Nat) : Int)) rfl ?_
      refine M.iastN (p + 1) rfl (hP.2.1) (by omega) (by decide) ?_
      have hR1 : isRe o L c1 c2 j ly m1 m2 f1 f2 (uN fc (p + 1) ((c1 : Nat) : Int)) fq (up w (o + 5) (Ar 0 602 (uN fc (p + 1) ((c1 : Nat) : Int)))) := isRe_5 hP
      have hF1 : FrR o w (up w (o + 5) (Ar 0 602 (uN fc (p + 1) ((c1 : Nat) : Int)))) := FrR.u FrR.rf (o + 5) (by omega)
      generalize up w (o + 5) (Ar 0 602 (uN fc (p + 1) ((c1 : Nat) : Int))) = w1 at hR1 hF1 ⊢
      exact M.vret rfl (Nat.zero_le _) (Nat.zero_le _) ⟨rfl, hR1, hF1⟩
set_option maxHeartbeats 4000000 in
set_option maxRecDepth 100000 in
theorem kX3_name (l : Launch) (G : GT) (o : Nat) (L : List (Int × Int × Int)) (c1 c2 j : Nat) (ly : Int) (m1 m2 : Nat) (f1 f2 : Int) (fc fq : Nat → Int) (hj : j ≤ 1000) (hB : tkB L) (hc : c1 + 1 < 602) (hly : 0 ≤ ly ∧ ly ≤ 1) (x : Int) (hx : -2147483648 ≤ x ∧ x ≤ 2147483647) : Ctr l G yX3_name cX3_name 3 ((Option.some Jvm.ClassFile.FieldType.boolean)) 3 0 0 [vr o, vi x] (fun w => isRe o L c1 c2 j ly m1 m2 f1 f2 fc fq w) (fun w r w' => if x = (if ly = 0 then 23 else 22) then r = some (vi (0)) ∧ isRe o L c1 c2 j ly m1 m2 5 ((gTk L j).2.2) fc fq w' ∧ FrR o w w' else r = some (vi (1)) ∧ isRe o L (c1 + 2) c2 (j + 1) ly m1 m2 f1 f2 (uN (uN fc c1 x) (c1 + 1) 0) fq w' ∧ FrR o w w') := by
  refine Ctr.of (t := tX3_name) (lv0 := [some (vr o), some (vi x), none]) (by decide +kernel) tX3_name_ok rfl rfl (fun w g hP M => ?_)
  obtain ⟨⟨ht1, ht2⟩, ⟨hv1, hv2⟩, hz1, hz2⟩ := hB j
  refine M.run 1 (pc' := 1) (lv' := [some (vr o), some (vi x), none]) (st' := [vr o]) rfl ?_
  refine M.get fl_X3_83 rfl hP.1 (kf := 6) (v := vi ly) rfl ?_
  refine M.if_ne (tgt := 12) rfl (qI (by omega)) (by decide) (fun h4 => ?_) (fun h4 => ?_)
  · skip
    refine M.run 4 (pc' := 17) (lv' := [some (vr o), some (vi x), some (vi 22)]) (st' := [vi 22, vi x]) rfl ?_
    refine M.icmp_ne (tgt := 26) rfl (qI (by omega)) (qI (by decide)) (by decide) (fun h17 => ?_) (fun h17 => ?_)
    · skip
      refine M.run 2 (pc' := 28) (lv' := [some (vr o), some (vi x), some (vi 22)]) (st' := [vr o, vr o]) rfl ?_
      refine M.get fl_X3_38 rfl hP.1 (kf := 5) (v := vi ((j : Nat) : Int)) rfl ?_
      refine M.run 2 (pc' := 33) (lv' := [some (vr o), some (vi x), some (vi 22)]) (st' := [vi (((j : Nat) : Int) + 1), vr o]) rfl ?_
      rw [show ((j : Nat) : Int) + 1 = ((j + 1 : Nat) : Int) from by omega]
      refine M.put fl_X3_38 rfl (hP.1) rfl rfl (Nat.le_of_ble_eq_true rfl) ?_
      change g 0 0 (up w o (Ob 2 [vr (o + 1), vr (o + 5), vr (o + 6), vi ((c1 : Nat) : Int), vi ((c2 : Nat) : Int), vi ((j + 1 : Nat) : Int), vi ly, vr m1, vr m2, vi f1, vi f2])) 36 [some (vr o), some (vi x), some (vi 22)] []
      have hR1 : isRe o L c1 c2 (j + 1) ly m1 m2 f1 f2 fc fq (up w o (Ob 2 [vr (o + 1), vr (o + 5), vr (o + 6), vi ((c1 : Nat) : Int), vi ((c2 : Nat) : Int), vi ((j + 1 : Nat) : Int), vi ly, vr m1, vr m2, vi f1, vi f2])) := isRe_1 hP
      have hF1 : FrR o w (up w o (Ob 2 [vr (o + 1), vr (o + 5), vr (o + 6), vi ((c1 : Nat) : Int), vi ((c2 : Nat) : Int), vi ((j + 1 : Nat) : Int), vi ly, vr m1, vr m2, vi f1, vi f2])) := FrR.u FrR.rf o (by omega)
      generalize up w o (Ob 2 [vr (o + 1), vr (o + 5), vr (o + 6), vi ((c1 : Nat) : Int), vi ((c2 : Nat) : Int), vi ((j + 1 : Nat) : Int), vi ly, vr m1, vr m2, vi f1, vi f2]) = w1 at hR1 hF1 ⊢
      refine M.run 3 (pc' := 39) (lv' := [some (vr o), some (vi x), some (vi 22)]) (st' := [vi 0, vi x, vr o]) rfl ?_
      refine M.callV (kX3_emit l G o L c1 c2 (j + 1) ly m1 m2 f1 f2 fc fq (by omega) x 0 (by omega) (by omega)) cv_X3_114 cd_X3_emit rfl (st := []) rfl hR1.1 (by decide) (by decide) rfl (Nat.zero_le _) (Nat.zero_le _) hR1 (fun r3 w4 q5 => ?_)
      obtain ⟨q5r, hR2, q5f⟩ := q5
      rw [q5r]
      have hF2 : FrR o w w4 := FrR.tr hF1 q5f
      exact M.zret rfl (Or.inr rfl) (Nat.zero_le _) (Nat.zero_le _) (by rw [if_neg (fun q => h17 (q.trans (if_neg h4)))]; exact ⟨rfl, hR2, hF2⟩)
    · skip
      refine M.run 2 (pc' := 22) (lv' := [some (vr o), some (vi x), some (vi 22)]) (st' := [vi 5, vr o]) rfl ?_
      refine M.callV (kX3_refuse l G o L c1 c2 j ly m1 m2 f1 f2 fc fq (by omega) hB 5 (by omega)) cv_X3_73 cd_X3_refuse rfl (st := []) rfl hP.1 (by decide) (by decide) rfl (Nat.zero_le _) (Nat.zero_le _) hP (fun r8 w9 q10 => ?_)
      obtain ⟨q10r, hR7, q10f⟩ := q10
      rw [q10r]
      have hF7 : FrR o w w9 := FrR.tr FrR.rf q10f
      exact M.zret rfl (Or.inl rfl) (Nat.zero_le _) (Nat.zero_le _) (by rw [if_pos (h17.trans (if_neg h4).symm)]; exact ⟨rfl, hR7, hF7⟩)
  · skip
    refine M.run 5 (pc' := 17) (lv' := [some (vr o), some (vi x), some (vi 23)]) (st' := [vi 23, vi x]) rfl ?_
    refine M.icmp_ne (tgt := 26) rfl (qI (by omega)) (qI (by decide)) (by decide) (fun h17 => ?_) (fun h17 => ?_)
    · skip
      refine M.run 2 (pc' := 28) (lv' := [some (vr o), some (vi x), some (vi 23)]) (st' := [vr o, vr o]) rfl ?_
      refine M.get fl_X3_38 rfl hP.1 (kf := 5) (v := vi ((j : Nat) : Int)) rfl ?_
      refine M.run 2 (pc' := 33) (lv' := [some (vr o), some (vi x), some (vi 23)]) (st' := [vi (((j : Nat) : Int) + 1), vr o]) rfl ?_
      rw [show ((j : Nat) : Int) + 1 = ((j + 1 : Nat) : Int) from by omega]
      refine M.put fl_X3_38 rfl (hP.1) rfl rfl (Nat.le_of_ble_eq_true rfl) ?_
      change g 0 0 (up w o (Ob 2 [vr (o + 1), vr (o + 5), vr (o + 6), vi ((c1 : Nat) : Int), vi ((c2 : Nat) : Int), vi ((j + 1 : Nat) : Int), vi ly, vr m1, vr m2, vi f1, vi f2])) 36 [some (vr o), some (vi x), some (vi 23)] []
      have hR12 : isRe o L c1 c2 (j + 1) ly m1 m2 f1 f2 fc fq (up w o (Ob 2 [vr (o + 1), vr (o + 5), vr (o + 6), vi ((c1 : Nat) : Int), vi ((c2 : Nat) : Int), vi ((j + 1 : Nat) : Int), vi ly, vr m1, vr m2, vi f1, vi f2])) := isRe_1 hP
      have hF12 : FrR o w (up w o (Ob 2 [vr (o + 1), vr (o + 5), vr (o + 6), vi ((c1 : Nat) : Int), vi ((c2 : Nat) : Int), vi ((j + 1 : Nat) : Int), vi ly, vr m1, vr m2, vi f1, vi f2])) := FrR.u FrR.rf o (by omega)
      generalize up w o (Ob 2 [vr (o + 1), vr (o + 5), vr (o + 6), vi ((c1 : Nat) : Int), vi ((c2 : Nat) : Int), vi ((j + 1 : Nat) : Int), vi ly, vr m1, vr m2, vi f1, vi f2]) = w12 at hR12 hF12 ⊢
      refine M.run 3 (pc' := 39) (lv' := [some (vr o), some (vi x), some (vi 23)]) (st' := [vi 0, vi x, vr o]) rfl ?_
      refine M.callV (kX3_emit l G o L c1 c2 (j + 1) ly m1 m2 f1 f2 fc fq (by omega) x 0 (by omega) (by omega)) cv_X3_114 cd_X3_emit rfl (st := []) rfl hR12.1 (by decide) (by decide) rfl (Nat.zero_le _) (Nat.zero_le _) hR12 (fun r14 w15 q16 => ?_)
      obtain ⟨q16r, hR13, q16f⟩ := q16
      rw [q16r]
      have hF13 : FrR o w w15 := FrR.tr hF12 q16f
      exact M.zret rfl (Or.inr rfl) (Nat.zero_le _) (Nat.zero_le _) (by rw [if_neg (fun q => h17 (q.trans (if_pos (by omega))))]; exact ⟨rfl, hR13, hF13⟩)
    · skip
      refine M.run 2 (pc' := 22) (lv' := [some (vr o), some (vi x), some (vi 23)]) (st' := [vi 5, vr o]) rfl ?_
      refine M.callV (kX3_refuse l G o L c1 c2 j ly m1 m2 f1 f2 fc fq (by omega) hB 5 (by omega)) cv_X3_73 cd_X3_refuse rfl (st := []) rfl hP.1 (by decide) (by decide) rfl (Nat.zero_le _) (Nat.zero_le _) hP (fun r19 w20 q21 => ?_)
      obtain ⟨q21r, hR18, q21f⟩ := q21
      rw [q21r]
      have hF18 : FrR o w w20 := FrR.tr FrR.rf q21f
      exact M.zret rfl (Or.inl rfl) (Nat.zero_le _) (Nat.zero_le _) (by rw [if_pos (h17.trans (if_pos (by omega)).symm)]; exact ⟨rfl, hR18, hF18⟩)
