/-- what is told, as the class holds it: tl by the reference's place, fx the texts' addresses (below 0: none) -/
def isTo (T : Nat → Nat) (tl fx : Nat → Int) (w : Wo) : Prop :=
  lk w (T 0) = some (Ob 8 [vi (tl 0), vr (T 1), vr (T 2), vi (tl 9), vi (tl 10), vi (tl 11), vi (tl 6), vi (tl 7), vi (tl 8), vi (tl 1), vr (T 3), vi (tl 2), vi (tl 4), vr (T 4), vr (T 5)]) ∧
  (∃ f, lk w (T 1) = some (Ar 0 3 f) ∧ ∀ i : Nat, i < 3 → f i = tl (12 + i)) ∧ (∃ f, lk w (T 2) = some (Ar 0 3 f) ∧ ∀ i : Nat, i < 3 → f i = tl (15 + i)) ∧ lk w (T 3) = some (Ar 3 4 fx) ∧
  (∃ f, lk w (T 4) = some (Ar 0 8 f) ∧ ∀ i : Nat, i < 8 → f i = tl (986 + 2 * i)) ∧ (∃ f, lk w (T 5) = some (Ar 0 8 f) ∧ ∀ i : Nat, i < 8 → f i = tl (986 + 2 * i + 1)) ∧ ∀ i j : Nat, i < 6 → j < 6 → T i = T j → i = j
def FrT (T : Nat → Nat) (w w' : Wo) : Prop := ∀ a : Nat, (∀ i : Nat, i < 6 → a ≠ T i) → lk w' a = lk w a
theorem FrT.rf {T : Nat → Nat} {w : Wo} : FrT T w w := fun _ _ => rfl
theorem FrT.u {T : Nat → Nat} {w w1 : Wo} {c : Ce} (i : Nat) (hi : i < 6) (h : FrT T w w1) : FrT T w (up w1 (T i) c) := fun a ha => (lk_up_n (ha i hi)).trans (h a ha)
theorem isTo_fr {T : Nat → Nat} {tl fx : Nat → Int} {w w' : Wo} (h : isTo T tl fx w) (e : ∀ j : Nat, j < 6 → lk w' (T j) = lk w (T j)) : isTo T tl fx w' := by
  obtain ⟨h0, ⟨f1, h1, c1⟩, ⟨f2, h2, c2⟩, h3, ⟨f4, h4, c4⟩, ⟨f5, h5, c5⟩, h6⟩ := h
  exact ⟨(e 0 (by decide)).trans h0, ⟨f1, (e 1 (by decide)).trans h1, c1⟩, ⟨f2, (e 2 (by decide)).trans h2, c2⟩, (e 3 (by decide)).trans h3, ⟨f4, (e 4 (by decide)).trans h4, c4⟩, ⟨f5, (e 5 (by decide)).trans h5, c5⟩, h6⟩
theorem mTt_le60 {tl : Nat → Int} (hT : Tok tl) : ∀ (k : Nat) {c : Int}, 0 ≤ c → mTt tl k c ≤ 60 * k
  | 0, c, _ => Nat.le_refl _
  | k + 1, c, hc => by
    have h1 := (mNxS_60 hT hc).1
    have h2 := mTt_le60 hT k (c := c + mNxS tl 60 c + 1) (by omega)
    show mNxS tl 60 c + 1 + mTt tl k (c + mNxS tl 60 c + 1) ≤ 60 * (k + 1)
    omega

set_option maxHeartbeats 4000000 in
set_option maxRecDepth 100000 in
theorem kX9_hasBlock (l : Launch) (G : GT) (T : Nat → Nat) (tl fx : Nat → Int) (hT : Tok tl) (x : Int) (hx : -2147483648 ≤ x ∧ x ≤ 2147483647) : Ctr l G yX9_hasBlock cX9_hasBlock 2 ((Option.some Jvm.ClassFile.FieldType.boolean)) 1 0 0 [vr (T 0), vi x] (fun w => isTo T tl fx w) (fun w r w' => r = some (vi (zb (decide (0 ≤ x ∧ x < tl 0)))) ∧ w' = w) := by
  refine Ctr.of (t := tX9_hasBlock) (lv0 := [some (vr (T 0)), some (vi x)]) (by decide +kernel) tX9_hasBlock_ok rfl rfl (fun w g hP M => ?_)
  have hP0 := hP
  obtain ⟨hO, ⟨fl, hl1, hc1⟩, ⟨fd, hl2, hc2⟩, hl3, ⟨fk, hl4, hc4⟩, ⟨fs, hl5, hc5⟩, hij⟩ := hP
  have hk0 : 0 ≤ tl 0 ∧ tl 0 ≤ 3 := hT.1 0 (by decide)
  refine M.run 1 (pc' := 1) (lv' := [some (vr (T 0)), some (vi x)]) (st' := [vi x]) rfl ?_
  refine M.if_lt (tgt := 16) rfl (qI (by omega)) (by decide) (fun h1 => ?_) (fun h1 => ?_)
  · skip
    refine M.run 1 (pc' := 17) (lv' := [some (vr (T 0)), some (vi x)]) (st' := [vi 0]) rfl ?_
    exact M.zret rfl (Or.inl rfl) (Nat.zero_le _) (Nat.zero_le _) ⟨reI (zbd (fun z => absurd z (by omega)) (fun _ => rfl)), rfl⟩
  · skip
    refine M.run 2 (pc' := 6) (lv' := [some (vr (T 0)), some (vi x)]) (st' := [vr (T 0), vi x]) rfl ?_
    refine M.get fl_X9_52 rfl hO (kf := 0) (v := vi (tl 0)) rfl ?_
    refine M.icmp_ge (tgt := 16) rfl (qI (by omega)) (qI (by omega)) (by decide) (fun h9 => ?_) (fun h9 => ?_)
    · skip
      refine M.run 1 (pc' := 17) (lv' := [some (vr (T 0)), some (vi x)]) (st' := [vi 0]) rfl ?_
      exact M.zret rfl (Or.inl rfl) (Nat.zero_le _) (Nat.zero_le _) ⟨reI (zbd (fun z => absurd z (by omega)) (fun _ => rfl)), rfl⟩
    · skip
      refine M.run 2 (pc' := 17) (lv' := [some (vr (T 0)), some (vi x)]) (st' := [vi 1]) rfl ?_
      exact M.zret rfl (Or.inr rfl) (Nat.zero_le _) (Nat.zero_le _) ⟨reI (zbd (fun _ => rfl) (fun z => absurd (by omega) z)), rfl⟩
set_option maxHeartbeats 4000000 in
set_option maxRecDepth 100000 in
theorem kX9_lengthOf (l : Launch) (G : GT) (T : Nat → Nat) (tl fx : Nat → Int) (hT : Tok tl) (x : Int) (hx : -2147483648 ≤ x ∧ x ≤ 2147483647) : Ctr l G yX9_lengthOf cX9_lengthOf 2 ((Option.some Jvm.ClassFile.FieldType.int)) 2 0 0 [vr (T 0), vi x] (fun w => isTo T tl fx w) (fun w r w' => r = some (vi (if 0 ≤ x ∧ x < tl 0 then tl (12 + x.toNat) else 0)) ∧ w' = w) := by
  refine Ctr.of (t := tX9_lengthOf) (lv0 := [some (vr (T 0)), some (vi x)]) (by decide +kernel) tX9_lengthOf_ok rfl rfl (fun w g hP M => ?_)
  have hP0 := hP
  obtain ⟨hO, ⟨fl, hl1, hc1⟩, ⟨fd, hl2, hc2⟩, hl3, ⟨fk, hl4, hc4⟩, ⟨fs, hl5, hc5⟩, hij⟩ := hP
  have hk0 : 0 ≤ tl 0 ∧ tl 0 ≤ 3 := hT.1 0 (by decide)
  refine M.run 2 (pc' := 2) (lv' := [some (vr (T 0)), some (vi x)]) (st' := [vi x, vr (T 0)]) rfl ?_
  refine M.callV (kX9_hasBlock l G T tl fx hT x (by omega)) cv_X9_55 cd_X9_hasBlock rfl (st := []) rfl hO (by decide) (by decide) rfl (Nat.zero_le _) (Nat.zero_le _) hP0 (fun r1 w2 q3 => ?_)
  rw [q3.1, q3.2]
  refine M.if_eq (tgt := 26) rfl (inI_zb _) (by decide) (fun h5 => ?_) (fun h5 => ?_)
  · skip
    replace h5 := zb_fd h5
    refine M.run 1 (pc' := 27) (lv' := [some (vr (T 0)), some (vi x)]) (st' := [vi 0]) rfl ?_
    exact M.iret rfl (Nat.zero_le _) (Nat.zero_le _) ⟨reI (if_neg h5).symm, rfl⟩
  · skip
    replace h5 := zb_td h5
    have h05 := h5
    obtain ⟨c, rfl⟩ := Int.eq_ofNat_of_zero_le (show (0 : Int) ≤ x from h5.1)
    refine M.run 2 (pc' := 10) (lv' := [some (vr (T 0)), some (vi ((c : Nat) : Int))]) (st' := [vr (T 0), vi ((c : Nat) : Int)]) rfl ?_
    refine M.get fl_X9_9 rfl hO (kf := 1) (v := vr (T 1)) rfl ?_
    refine M.alen rfl hl1 (by decide) ?_
    refine M.icmp_ge (tgt := 26) rfl (qI (by omega)) (qI (by omega)) (by decide) (fun h14 => ?_) (fun h14 => ?_)
    · skip
      omega
    · skip
      refine M.run 1 (pc' := 18) (lv' := [some (vr (T 0)), some (vi ((c : Nat) : Int))]) (st' := [vr (T 0)]) rfl ?_
      refine M.get fl_X9_9 rfl hO (kf := 1) (v := vr (T 1)) rfl ?_
      refine M.run 1 (pc' := 22) (lv' := [some (vr (T 0)), some (vi ((c : Nat) : Int))]) (st' := [vi ((c : Nat) : Int), vr (T 1)]) rfl ?_
      refine M.ialdN (c) rfl hl1 (by omega) (by decide) ?_
      refine M.run 1 (pc' := 27) (lv' := [some (vr (T 0)), some (vi ((c : Nat) : Int))]) (st' := [vi (fl c)]) rfl ?_
      exact M.iret rfl (Nat.zero_le _) (Nat.zero_le _) ⟨reI ((hc1 c (by omega)).trans (if_pos h05).symm), rfl⟩
set_option maxHeartbeats 4000000 in
set_option maxRecDepth 100000 in
theorem kX9_redOf (l : Launch) (G : GT) (T : Nat → Nat) (tl fx : Nat → Int) (hT : Tok tl) (x : Int) (hx : -2147483648 ≤ x ∧ x ≤ 2147483647) : Ctr l G yX9_redOf cX9_redOf 2 ((Option.some Jvm.ClassFile.FieldType.int)) 2 0 0 [vr (T 0), vi x] (fun w => isTo T tl fx w) (fun w r w' => r = some (vi (if 0 ≤ x ∧ x < tl 0 then tl (15 + x.toNat) else 0)) ∧ w' = w) := by
  refine Ctr.of (t := tX9_redOf) (lv0 := [some (vr (T 0)), some (vi x)]) (by decide +kernel) tX9_redOf_ok rfl rfl (fun w g hP M => ?_)
  have hP0 := hP
  obtain ⟨hO, ⟨fl, hl1, hc1⟩, ⟨fd, hl2, hc2⟩, hl3, ⟨fk, hl4, hc4⟩, ⟨fs, hl5, hc5⟩, hij⟩ := hP
  have hk0 : 0 ≤ tl 0 ∧ tl 0 ≤ 3 := hT.1 0 (by decide)
  refine M.run 2 (pc' := 2) (lv' := [some (vr (T 0)), some (vi x)]) (st' := [vi x, vr (T 0)]) rfl ?_
  refine M.callV (kX9_hasBlock l G T tl fx hT x (by omega)) cv_X9_55 cd_X9_hasBlock rfl (st := []) rfl hO (by decide) (by decide) rfl (Nat.zero_le _) (Nat.zero_le _) hP0 (fun r1 w2 q3 => ?_)
  rw [q3.1, q3.2]
  refine M.if_eq (tgt := 26) rfl (inI_zb _) (by decide) (fun h5 => ?_) (fun h5 => ?_)
  · skip
    replace h5 := zb_fd h5
    refine M.run 1 (pc' := 27) (lv' := [some (vr (T 0)), some (vi x)]) (st' := [vi 0]) rfl ?_
    exact M.iret rfl (Nat.zero_le _) (Nat.zero_le _) ⟨reI (if_neg h5).symm, rfl⟩
  · skip
    replace h5 := zb_td h5
    have h05 := h5
    obtain ⟨c, rfl⟩ := Int.eq_ofNat_of_zero_le (show (0 : Int) ≤ x from h5.1)
    refine M.run 2 (pc' := 10) (lv' := [some (vr (T 0)), some (vi ((c : Nat) : Int))]) (st' := [vr (T 0), vi ((c : Nat) : Int)]) rfl ?_
    refine M.get fl_X9_15 rfl hO (kf := 2) (v := vr (T 2)) rfl ?_
    refine M.alen rfl hl2 (by decide) ?_
    refine M.icmp_ge (tgt := 26) rfl (qI (by omega)) (qI (by omega)) (by decide) (fun h14 => ?_) (fun h14 => ?_)
    · skip
      omega
    · skip
      refine M.run 1 (pc' := 18) (lv' := [some (vr (T 0)), some (vi ((c : Nat) : Int))]) (st' := [vr (T 0)]) rfl ?_
      refine M.get fl_X9_15 rfl hO (kf := 2) (v := vr (T 2)) rfl ?_
      refine M.run 1 (pc' := 22) (lv' := [some (vr (T 0)), some (vi ((c : Nat) : Int))]) (st' := [vi ((c : Nat) : Int), vr (T 2)]) rfl ?_
      refine M.ialdN (c) rfl hl2 (by omega) (by decide) ?_
      refine M.run 1 (pc' := 27) (lv' := [some (vr (T 0)), some (vi ((c : Nat) : Int))]) (st' := [vi (fd c)]) rfl ?_
      exact M.iret rfl (Nat.zero_le _) (Nat.zero_le _) ⟨reI ((hc2 c (by omega)).trans (if_pos h05).symm), rfl⟩
set_option maxHeartbeats 4000000 in
set_option maxRecDepth 100000 in
theorem kX9_textAt (l : Launch) (G : GT) (T : Nat → Nat) (tl fx : Nat → Int) (hT : Tok tl) (x : Int) (hx : -2147483648 ≤ x ∧ x ≤ 2147483647) : Ctr l G yX9_textAt cX9_textAt 2 ((Option.some (Jvm.ClassFile.FieldType.object "LongCarrier$Text"))) 1 0 0 [vr (T 0), vi x] (fun w => isTo T tl fx w) (fun w r w' => r = some (.inr (.inr (if 0 ≤ x ∧ x < tl 1 then rfO (fx x.toNat) else none))) ∧ w' = w) := by
  refine Ctr.of (t := tX9_textAt) (lv0 := [some (vr (T 0)), some (vi x)]) (by decide +kernel) tX9_textAt_ok rfl rfl (fun w g hP M => ?_)
  have hP0 := hP
  obtain ⟨hO, ⟨fl, hl1, hc1⟩, ⟨fd, hl2, hc2⟩, hl3, ⟨fk, hl4, hc4⟩, ⟨fs, hl5, hc5⟩, hij⟩ := hP
  have hk1 : 0 ≤ tl 1 ∧ tl 1 ≤ 4 := hT.1 1 (by decide)
  refine M.run 1 (pc' := 1) (lv' := [some (vr (T 0)), some (vi x)]) (st' := [vi x]) rfl ?_
  refine M.if_lt (tgt := 30) rfl (qI (by omega)) (by decide) (fun h1 => ?_) (fun h1 => ?_)
  · skip
    refine M.run 1 (pc' := 31) (lv' := [some (vr (T 0)), some (vi x)]) (st' := [vn]) rfl ?_
    exact M.aret rfl (Nat.zero_le _) (Nat.zero_le _) ⟨by rw [if_neg (by omega)], rfl⟩
  · skip
    refine M.run 2 (pc' := 6) (lv' := [some (vr (T 0)), some (vi x)]) (st' := [vr (T 0), vi x]) rfl ?_
    refine M.get fl_X9_59 rfl hO (kf := 9) (v := vi (tl 1)) rfl ?_
    refine M.icmp_ge (tgt := 30) rfl (qI (by omega)) (qI (by omega)) (by decide) (fun h9 => ?_) (fun h9 => ?_)
    · skip
      refine M.run 1 (pc' := 31) (lv' := [some (vr (T 0)), some (vi x)]) (st' := [vn]) rfl ?_
      exact M.aret rfl (Nat.zero_le _) (Nat.zero_le _) ⟨by rw [if_neg (by omega)], rfl⟩
    · skip
      refine M.run 2 (pc' := 14) (lv' := [some (vr (T 0)), some (vi x)]) (st' := [vr (T 0), vi x]) rfl ?_
      refine M.get fl_X9_39 rfl hO (kf := 10) (v := vr (T 3)) rfl ?_
      refine M.alen rfl hl3 (by decide) ?_
      refine M.icmp_ge (tgt := 30) rfl (qI (by omega)) (qI (by omega)) (by decide) (fun h18 => ?_) (fun h18 => ?_)
      · skip
        omega
      · skip
        refine M.run 1 (pc' := 22) (lv' := [some (vr (T 0)), some (vi x)]) (st' := [vr (T 0)]) rfl ?_
        have hall : 0 ≤ x ∧ x < tl 1 := by omega
        obtain ⟨c, rfl⟩ := Int.eq_ofNat_of_zero_le (show (0 : Int) ≤ x from hall.1)
        refine M.get fl_X9_39 rfl hO (kf := 10) (v := vr (T 3)) rfl ?_
        refine M.run 1 (pc' := 26) (lv' := [some (vr (T 0)), some (vi ((c : Nat) : Int))]) (st' := [vi ((c : Nat) : Int), vr (T 3)]) rfl ?_
        refine M.aaldN (C := "LongCarrier$Text") (c) (Or.inl ⟨rfl, rfl⟩) rfl hl3 (by omega) (by decide) ?_
        refine M.run 1 (pc' := 31) (lv' := [some (vr (T 0)), some (vi ((c : Nat) : Int))]) (st' := [.inr (.inr (rfO (fx c)))]) rfl ?_
        exact M.aret rfl (Nat.zero_le _) (Nat.zero_le _) ⟨by rw [if_pos hall]; rfl, rfl⟩
set_option maxHeartbeats 4000000 in
set_option maxRecDepth 100000 in
theorem kX9_rulingText (l : Launch) (G : GT) (T : Nat → Nat) (tl fx : Nat → Int) (hT : Tok tl)  : Ctr l G yX9_rulingText cX9_rulingText 1 ((Option.some (Jvm.ClassFile.FieldType.object "LongCarrier$Text"))) 2 0 0 [vr (T 0)] (fun w => isTo T tl fx w) (fun w r w' => r = some (.inr (.inr (if 0 ≤ tl 2 ∧ tl 2 < tl 1 then rfO (fx (tl 2).toNat) else none))) ∧ w' = w) := by
  refine Ctr.of (t := tX9_rulingText) (lv0 := [some (vr (T 0))]) (by decide +kernel) tX9_rulingText_ok rfl rfl (fun w g hP M => ?_)
  have hP0 := hP
  obtain ⟨hO, ⟨fl, hl1, hc1⟩, ⟨fd, hl2, hc2⟩, hl3, ⟨fk, hl4, hc4⟩, ⟨fs, hl5, hc5⟩, hij⟩ := hP
  have hk1 : 0 ≤ tl 1 ∧ tl 1 ≤ 4 := hT.1 1 (by decide)
  have hk2 : -1 ≤ tl 2 ∧ tl 2 ≤ 3 := hT.1 2 (by decide)
  refine M.run 2 (pc' := 2) (lv' := [some (vr (T 0))]) (st' := [vr (T 0), vr (T 0)]) rfl ?_
  refine M.get fl_X9_43 rfl hO (kf := 11) (v := vi (tl 2)) rfl ?_
  refine M.callV (kX9_textAt l G T tl fx hT (tl 2) (by omega)) cv_X9_62 cd_X9_textAt rfl (st := []) rfl hO (by decide) (by decide) rfl (Nat.zero_le _) (Nat.zero_le _) hP0 (fun r1 w2 q3 => ?_)
  rw [q3.1, q3.2]
  exact M.aret rfl (Nat.zero_le _) (Nat.zero_le _) ⟨rfl, rfl⟩
set_option maxHeartbeats 4000000 in
set_option maxRecDepth 100000 in
theorem kX9_saidKind (l : Launch) (G : GT) (T : Nat → Nat) (tl fx : Nat → Int) (hT : Tok tl) (x : Int) (hx : -2147483648 ≤ x ∧ x ≤ 2147483647) : Ctr l G yX9_saidKind cX9_saidKind 2 ((Option.some Jvm.ClassFile.FieldType.int)) 1 0 0 [vr (T 0), vi x] (fun w => isTo T tl fx w) (fun w r w' => r = some (vi (if 0 ≤ x ∧ x < 8 then tl (986 + 2 * x.toNat) else -1)) ∧ w' = w) := by
  refine Ctr.of (t := tX9_saidKind) (lv0 := [some (vr (T 0)), some (vi x)]) (by decide +kernel) tX9_saidKind_ok rfl rfl (fun w g hP M => ?_)
  have hP0 := hP
  obtain ⟨hO, ⟨fl, hl1, hc1⟩, ⟨fd, hl2, hc2⟩, hl3, ⟨fk, hl4, hc4⟩, ⟨fs, hl5, hc5⟩, hij⟩ := hP
  refine M.run 1 (pc' := 1) (lv' := [some (vr (T 0)), some (vi x)]) (st' := [vi x]) rfl ?_
  refine M.if_lt (tgt := 22) rfl (qI (by omega)) (by decide) (fun h1 => ?_) (fun h1 => ?_)
  · skip
    refine M.run 1 (pc' := 23) (lv' := [some (vr (T 0)), some (vi x)]) (st' := [vi (-1)]) rfl ?_
    exact M.iret rfl (Nat.zero_le _) (Nat.zero_le _) ⟨reI (if_neg (by omega)).symm, rfl⟩
  · skip
    refine M.run 2 (pc' := 6) (lv' := [some (vr (T 0)), some (vi x)]) (st' := [vr (T 0), vi x]) rfl ?_
    refine M.get fl_X9_46 rfl hO (kf := 13) (v := vr (T 4)) rfl ?_
    refine M.alen rfl hl4 (by decide) ?_
    refine M.icmp_ge (tgt := 22) rfl (qI (by omega)) (qI (by omega)) (by decide) (fun h10 => ?_) (fun h10 => ?_)
    · skip
      refine M.run 1 (pc' := 23) (lv' := [some (vr (T 0)), some (vi x)]) (st' := [vi (-1)]) rfl ?_
      exact M.iret rfl (Nat.zero_le _) (Nat.zero_le _) ⟨reI (if_neg (by omega)).symm, rfl⟩
    · skip
      refine M.run 1 (pc' := 14) (lv' := [some (vr (T 0)), some (vi x)]) (st' := [vr (T 0)]) rfl ?_
      have hall : 0 ≤ x ∧ x < 8 := by omega
      obtain ⟨c, rfl⟩ := Int.eq_ofNat_of_zero_le (show (0 : Int) ≤ x from hall.1)
      refine M.get fl_X9_46 rfl hO (kf := 13) (v := vr (T 4)) rfl ?_
      refine M.run 1 (pc' := 18) (lv' := [some (vr (T 0)), some (vi ((c : Nat) : Int))]) (st' := [vi ((c : Nat) : Int), vr (T 4)]) rfl ?_
      refine M.ialdN (c) rfl hl4 (by omega) (by decide) ?_
      refine M.run 1 (pc' := 23) (lv' := [some (vr (T 0)), some (vi ((c : Nat) : Int))]) (st' := [vi (fk c)]) rfl ?_
      exact M.iret rfl (Nat.zero_le _) (Nat.zero_le _) ⟨reI ((hc4 c (by omega)).trans (if_pos hall).symm), rfl⟩
set_option maxHeartbeats 4000000 in
set_option maxRecDepth 100000 in
theorem kX9_saidLoses (l : Launch) (G : GT) (T : Nat → Nat) (tl fx : Nat → Int) (hT : Tok tl) (x : Int) (hx : -2147483648 ≤ x ∧ x ≤ 2147483647) : Ctr l G yX9_saidLoses cX9_saidLoses 2 ((Option.some Jvm.ClassFile.FieldType.int)) 1 0 0 [vr (T 0), vi x] (fun w => isTo T tl fx w) (fun w r w' => r = some (vi (if 0 ≤ x ∧ x < 8 then tl (986 + 2 * x.toNat + 1) else -1)) ∧ w' = w) := by
  refine Ctr.of (t := tX9_saidLoses) (lv0 := [some (vr (T 0)), some (vi x)]) (by decide +kernel) tX9_saidLoses_ok rfl rfl (fun w g hP M => ?_)
  have hP0 := hP
  obtain ⟨hO, ⟨fl, hl1, hc1⟩, ⟨fd, hl2, hc2⟩, hl3, ⟨fk, hl4, hc4⟩, ⟨fs, hl5, hc5⟩, hij⟩ := hP
  refine M.run 1 (pc' := 1) (lv' := [some (vr (T 0)), some (vi x)]) (st' := [vi x]) rfl ?_
  refine M.if_lt (tgt := 22) rfl (qI (by omega)) (by decide) (fun h1 => ?_) (fun h1 => ?_)
  · skip
    refine M.run 1 (pc' := 23) (lv' := [some (vr (T 0)), some (vi x)]) (st' := [vi (-1)]) rfl ?_
    exact M.iret rfl (Nat.zero_le _) (Nat.zero_le _) ⟨reI (if_neg (by omega)).symm, rfl⟩
  · skip
    refine M.run 2 (pc' := 6) (lv' := [some (vr (T 0)), some (vi x)]) (st' := [vr (T 0), vi x]) rfl ?_
    refine M.get fl_X9_49 rfl hO (kf := 14) (v := vr (T 5)) rfl ?_
    refine M.alen rfl hl5 (by decide) ?_
    refine M.icmp_ge (tgt := 22) rfl (qI (by omega)) (qI (by omega)) (by decide) (fun h10 => ?_) (fun h10 => ?_)
    · skip
      refine M.run 1 (pc' := 23) (lv' := [some (vr (T 0)), some (vi x)]) (st' := [vi (-1)]) rfl ?_
      exact M.iret rfl (Nat.zero_le _) (Nat.zero_le _) ⟨reI (if_neg (by omega)).symm, rfl⟩
    · skip
      refine M.run 1 (pc' := 14) (lv' := [some (vr (T 0)), some (vi x)]) (st' := [vr (T 0)]) rfl ?_
      have hall : 0 ≤ x ∧ x < 8 := by omega
      obtain ⟨c, rfl⟩ := Int.eq_ofNat_of_zero_le (show (0 : Int) ≤ x from hall.1)
      refine M.get fl_X9_49 rfl hO (kf := 14) (v := vr (T 5)) rfl ?_
      refine M.run 1 (pc' := 18) (lv' := [some (vr (T 0)), some (vi ((c : Nat) : Int))]) (st' := [vi ((c : Nat) : Int), vr (T 5)]) rfl ?_
      refine M.ialdN (c) rfl hl5 (by omega) (by decide) ?_
      refine M.run 1 (pc' := 23) (lv' := [some (vr (T 0)), some (vi ((c : Nat) : Int))]) (st' := [vi (fs c)]) rfl ?_
      exact M.iret rfl (Nat.zero_le _) (Nat.zero_le _) ⟨reI ((hc5 c (by omega)).trans (if_pos hall).symm), rfl⟩
set_option maxHeartbeats 4000000 in
set_option maxRecDepth 100000 in
theorem kX9_sees (l : Launch) (G : GT) (T : Nat → Nat) (tl fx : Nat → Int) (hT : Tok tl) (x : Int) (hx : 0 ≤ x ∧ x ≤ 2147483647) : Ctr l G yX9_sees cX9_sees 3 ((Option.some Jvm.ClassFile.FieldType.boolean)) 1 0 0 [vr (T 0), vi x] (fun w => isTo T tl fx w) (fun w r w' => r = some (vi (zb (mSn tl x))) ∧ w' = w) := by
  refine Ctr.of (t := tX9_sees) (lv0 := [some (vr (T 0)), some (vi x), none]) (by decide +kernel) tX9_sees_ok rfl rfl (fun w g hP M => ?_)
  have hP0 := hP
  obtain ⟨hO, ⟨fl, hl1, hc1⟩, ⟨fd, hl2, hc2⟩, hl3, ⟨fk, hl4, hc4⟩, ⟨fs, hl5, hc5⟩, hij⟩ := hP
  have hk9 : 1 ≤ tl 9 ∧ tl 9 ≤ 60 := hT.1 9 (by decide)
  have hk10 : 0 ≤ tl 10 ∧ tl 10 ≤ 59 := hT.1 10 (by decide)
  have hk11 : 1 ≤ tl 11 ∧ tl 11 ≤ 60 := hT.1 11 (by decide)
  have htm := tm_b (x := x) (m := tl 9) (by omega) (by omega)
  refine M.run 1 (pc' := 1) (lv' := [some (vr (T 0)), some (vi x), none]) (st' := [vr (T 0)]) rfl ?_
  refine M.get fl_X9_18 rfl hO (kf := 3) (v := vi (tl 9)) rfl ?_
  refine M.run 1 (pc' := 5) (lv' := [some (vr (T 0)), some (vi x), none]) (st' := [vi 1, vi (tl 9)]) rfl ?_
  refine M.icmp_ge (tgt := 10) rfl (qI (by omega)) (qI (by decide)) (by decide) (fun h5 => ?_) (fun h5 => ?_)
  · skip
    refine M.run 2 (pc' := 12) (lv' := [some (vr (T 0)), some (vi x), none]) (st' := [vr (T 0), vi x]) rfl ?_
    refine M.get fl_X9_18 rfl hO (kf := 3) (v := vi (tl 9)) rfl ?_
    refine M.irem rfl (qI (by omega)) (qI (by omega)) (by omega) ?_
    refine M.run 3 (pc' := 19) (lv' := [some (vr (T 0)), some (vi x), some (vi (x.tmod (tl 9)))]) (st' := [vr (T 0), vi (x.tmod (tl 9))]) rfl ?_
    refine M.get fl_X9_22 rfl hO (kf := 4) (v := vi (tl 10)) rfl ?_
    refine M.icmp_lt (tgt := 37) rfl (qI (by omega)) (qI (by omega)) (by decide) (fun h22 => ?_) (fun h22 => ?_)
    · skip
      refine M.run 1 (pc' := 38) (lv' := [some (vr (T 0)), some (vi x), some (vi (x.tmod (tl 9)))]) (st' := [vi 0]) rfl ?_
      exact M.zret rfl (Or.inl rfl) (Nat.zero_le _) (Nat.zero_le _) ⟨reI (show _ = zb (decide _) from zbd (fun z => absurd z (by omega)) (fun _ => rfl)), rfl⟩
    · skip
      refine M.run 2 (pc' := 27) (lv' := [some (vr (T 0)), some (vi x), some (vi (x.tmod (tl 9)))]) (st' := [vr (T 0), vi (x.tmod (tl 9))]) rfl ?_
      refine M.get fl_X9_25 rfl hO (kf := 5) (v := vi (tl 11)) rfl ?_
      refine M.icmp_ge (tgt := 37) rfl (qI (by omega)) (qI (by omega)) (by decide) (fun h30 => ?_) (fun h30 => ?_)
      · skip
        refine M.run 1 (pc' := 38) (lv' := [some (vr (T 0)), some (vi x), some (vi (x.tmod (tl 9)))]) (st' := [vi 0]) rfl ?_
        exact M.zret rfl (Or.inl rfl) (Nat.zero_le _) (Nat.zero_le _) ⟨reI (show _ = zb (decide _) from zbd (fun z => absurd z (by omega)) (fun _ => rfl)), rfl⟩
      · skip
        refine M.run 2 (pc' := 38) (lv' := [some (vr (T 0)), some (vi x), some (vi (x.tmod (tl 9)))]) (st' := [vi 1]) rfl ?_
        exact M.zret rfl (Or.inr rfl) (Nat.zero_le _) (Nat.zero_le _) ⟨reI (show _ = zb (decide _) from zbd (fun _ => rfl) (fun z => absurd (And.intro (by omega) (by omega)) z)), rfl⟩
  · skip
    omega
set_option maxHeartbeats 4000000 in
set_option maxRecDepth 100000 in
theorem kX9_ticksToSeen (l : Launch) (G : GT) (T : Nat → Nat) (tl fx : Nat → Int) (hT : Tok tl) (x : Int) (hx : 0 ≤ x ∧ x ≤ 1000000) : Ctr l G yX9_ticksToSeen cX9_ticksToSeen 3 ((Option.some Jvm.ClassFile.FieldType.int)) 2 0 0 [vr (T 0), vi x] (fun w => isTo T tl fx w) (fun w r w' => r = some (vi (((mNxS tl 60 x : Nat) : Int))) ∧ w' = w) := by
  refine Ctr.of (t := tX9_ticksToSeen) (lv0 := [some (vr (T 0)), some (vi x), none]) (by decide +kernel) tX9_ticksToSeen_ok rfl rfl (fun w g hP M => ?_)
  have hP0 := hP
  obtain ⟨hO, ⟨fl, hl1, hc1⟩, ⟨fd, hl2, hc2⟩, hl3, ⟨fk, hl4, hc4⟩, ⟨fs, hl5, hc5⟩, hij⟩ := hP
  obtain ⟨hn1, hn2⟩ := mNxS_60 hT hx.1
  refine M.run 2 (pc' := 2) (lv' := [some (vr (T 0)), some (vi x), some (vi 0)]) (st' := []) rfl ?_
  have Lp2 : ∀ (N : Nat) (j : Nat), (j ≤ mNxS tl 60 x) → 60 - j < N → g 0 0 w 2 [some (vr (T 0)), some (vi x), some (vi ((j : Nat) : Int))] [] := by
    intro N
    induction N with
    | zero => intro j _ hN; exact absurd hN (Nat.not_lt_zero _)
    | succ N ih2 =>
      intro j hj hN
      refine M.run 2 (pc' := 5) (lv' := [some (vr (T 0)), some (vi x), some (vi ((j : Nat) : Int))]) (st' := [vi 60, vi ((j : Nat) : Int)]) rfl ?_
      refine M.icmp_ge (tgt := 26) rfl (qI (by omega)) (qI (by decide)) (by decide) (fun h5 => ?_) (fun h5 => ?_)
      · skip
        omega
      · skip
        refine M.run 4 (pc' := 12) (lv' := [some (vr (T 0)), some (vi x), some (vi ((j : Nat) : Int))]) (st' := [vi (x + ((j : Nat) : Int)), vr (T 0)]) rfl ?_
        refine M.callV (kX9_sees l G T tl fx hT (x + ((j : Nat) : Int)) (by omega)) cv_X9_69 cd_X9_sees rfl (st := []) rfl hO (by decide) (by decide) rfl (Nat.zero_le _) (Nat.zero_le _) hP0 (fun r1 w2 q3 => ?_)
        rw [q3.1, q3.2]
        refine M.if_eq (tgt := 20) rfl (inI_zb _) (by decide) (fun h15 => ?_) (fun h15 => ?_)
        · skip
          replace h15 := zb_f0 h15
          have hj2 : ¬ j = mNxS tl 60 x := fun qq => by rw [qq, hn2] at h15; cases h15
          refine M.run 2 (pc' := 2) (lv' := [some (vr (T 0)), some (vi x), some (vi (((j : Nat) : Int) + 1))]) (st' := []) rfl ?_
          exact ih2 (j + 1) (by omega) (by omega)
        · skip
          replace h15 := zb_t h15
          have hj2 : j = mNxS tl 60 x := by rcases Nat.lt_or_ge j (mNxS tl 60 x) with qq | qq; have q2 := mNxS_lt (tl := tl) 60 x j qq; rw [q2] at h15; cases h15; omega
          refine M.run 1 (pc' := 19) (lv' := [some (vr (T 0)), some (vi x), some (vi ((j : Nat) : Int))]) (st' := [vi ((j : Nat) : Int)]) rfl ?_
          exact M.iret rfl (Nat.zero_le _) (Nat.zero_le _) ⟨reI (by rw [hj2]), rfl⟩
  exact Lp2 _ 0 (by omega) (Nat.lt_succ_self _)
set_option maxHeartbeats 4000000 in
set_option maxRecDepth 100000 in
theorem kX9_ticksForSun (l : Launch) (G : GT) (T : Nat → Nat) (tl fx : Nat → Int) (hT : Tok tl) (x : Int) (hx : 0 ≤ x ∧ x ≤ 1000000) (m : Nat) (hm : m ≤ 60) : Ctr l G yX9_ticksForSun cX9_ticksForSun 5 ((Option.some Jvm.ClassFile.FieldType.int)) 2 0 0 [vr (T 0), vi x, vi ((m : Nat) : Int)] (fun w => isTo T tl fx w) (fun w r w' => r = some (vi (((mTt tl m x : Nat) : Int))) ∧ w' = w) := by
  refine Ctr.of (t := tX9_ticksForSun) (lv0 := [some (vr (T 0)), some (vi x), some (vi ((m : Nat) : Int)), none, none]) (by decide +kernel) tX9_ticksForSun_ok rfl rfl (fun w g hP M => ?_)
  have hP0 := hP
  obtain ⟨hO, ⟨fl, hl1, hc1⟩, ⟨fd, hl2, hc2⟩, hl3, ⟨fk, hl4, hc4⟩, ⟨fs, hl5, hc5⟩, hij⟩ := hP
  have hle := mTt_le60 hT m hx.1
  refine M.run 4 (pc' := 5) (lv' := [some (vr (T 0)), some (vi x), some (vi ((m : Nat) : Int)), some (vi ((m : Nat) : Int)), some (vi 0)]) (st' := []) rfl ?_
  have Lp5 : ∀ (N : Nat) (k : Nat) (t : Nat), (t + mTt tl k (x + ((t : Nat) : Int)) = mTt tl m x) → (k ≤ m) → mTt tl m x + 1 - t < N → g 0 0 w 5 [some (vr (T 0)), some (vi x), some (vi ((m : Nat) : Int)), some (vi ((k : Nat) : Int)), some (vi ((t : Nat) : Int))] [] := by
    intro N
    induction N with
    | zero => intro k t _ _ hN; exact absurd hN (Nat.not_lt_zero _)
    | succ N ih5 =>
      intro k t hI hk hN
      refine M.run 2 (pc' := 10) (lv' := [some (vr (T 0)), some (vi x), some (vi ((m : Nat) : Int)), some (vi ((k : Nat) : Int)), some (vi ((t : Nat) : Int))]) (st' := [vi 3600, vi ((t : Nat) : Int)]) rfl ?_
      refine M.icmp_gt (tgt := 40) rfl (qI (by omega)) (qI (by decide)) (by decide) (fun h10 => ?_) (fun h10 => ?_)
      · skip
        omega
      · skip
        refine M.run 1 (pc' := 14) (lv' := [some (vr (T 0)), some (vi x), some (vi ((m : Nat) : Int)), some (vi ((k : Nat) : Int)), some (vi ((t : Nat) : Int))]) (st' := [vi ((k : Nat) : Int)]) rfl ?_
        refine M.if_gt (tgt := 20) rfl (qI (by omega)) (by decide) (fun h14 => ?_) (fun h14 => ?_)
        · skip
          refine M.run 4 (pc' := 25) (lv' := [some (vr (T 0)), some (vi x), some (vi ((m : Nat) : Int)), some (vi ((k : Nat) : Int)), some (vi ((t : Nat) : Int))]) (st' := [vi (x + ((t : Nat) : Int)), vr (T 0)]) rfl ?_
          refine M.callV (kX9_sees l G T tl fx hT (x + ((t : Nat) : Int)) (by omega)) cv_X9_69 cd_X9_sees rfl (st := []) rfl hO (by decide) (by decide) rfl (Nat.zero_le _) (Nat.zero_le _) hP0 (fun r1 w2 q3 => ?_)
          rw [q3.1, q3.2]
          refine M.if_eq (tgt := 34) rfl (inI_zb _) (by decide) (fun h28 => ?_) (fun h28 => ?_)
          · skip
            replace h28 := zb_f0 h28
            have hJ : t + 1 + mTt tl k (x + ((t + 1 : Nat) : Int)) = mTt tl m x := by have q := mTt_n hT (k := k) (c := x + ((t : Nat) : Int)) (by omega) (by omega) h28; rw [show x + ((t + 1 : Nat) : Int) = x + ((t : Nat) : Int) + 1 by omega]; omega
            refine M.run 2 (pc' := 5) (lv' := [some (vr (T 0)), some (vi x), some (vi ((m : Nat) : Int)), some (vi ((k : Nat) : Int)), some (vi (((t : Nat) : Int) + 1))]) (st' := []) rfl ?_
            exact ih5 k (t + 1) hJ (by omega) (by omega)
          · skip
            replace h28 := zb_t h28
            have hJ : t + 1 + mTt tl (k - 1) (x + ((t + 1 : Nat) : Int)) = mTt tl m x := by have q := mTt_y (tl := tl) (k := k) (c := x + ((t : Nat) : Int)) (by omega) h28; rw [show x + ((t + 1 : Nat) : Int) = x + ((t : Nat) : Int) + 1 by omega]; omega
            refine M.run 1 (pc' := 34) (lv' := [some (vr (T 0)), some (vi x), some (vi ((m : Nat) : Int)), some (vi (((k : Nat) : Int) + (-1))), some (vi ((t : Nat) : Int))]) (st' := []) rfl ?_
            rw [show ((k : Nat) : Int) + (-1) = ((k - 1 : Nat) : Int) from (by omega)]
            refine M.run 2 (pc' := 5) (lv' := [some (vr (T 0)), some (vi x), some (vi ((m : Nat) : Int)), some (vi ((k - 1 : Nat) : Int)), some (vi (((t : Nat) : Int) + 1))]) (st' := []) rfl ?_
            exact ih5 (k - 1) (t + 1) hJ (by omega) (by omega)
        · skip
          refine M.run 1 (pc' := 19) (lv' := [some (vr (T 0)), some (vi x), some (vi ((m : Nat) : Int)), some (vi ((k : Nat) : Int)), some (vi ((t : Nat) : Int))]) (st' := [vi ((t : Nat) : Int)]) rfl ?_
          exact M.iret rfl (Nat.zero_le _) (Nat.zero_le _) ⟨reI (by rw [show k = 0 by omega] at hI; have e0 : mTt tl 0 (x + ((t : Nat) : Int)) = 0 := rfl; omega), rfl⟩
  exact Lp5 _ m 0 (by rw [show x + ((0 : Nat) : Int) = x by omega]; exact Nat.zero_add _) (by omega) (Nat.lt_succ_self _)
