/-! the class reads a text -/
theorem isRe_frm {o : Nat} {L : List (Int × Int × Int)} {c1 c2 j : Nat} {ly : Int} {m1 m2 : Nat} {f1 f2 : Int} {fc fq : Nat → Int} {w w' : Wo} (h : isRe o L c1 c2 j ly m1 m2 f1 f2 fc fq w) (e : ∀ a : Nat, o ≤ a → a ≤ o + 6 → lk w' a = lk w a) : isRe o L c1 c2 j ly m1 m2 f1 f2 fc fq w' := by
  obtain ⟨h1, h2, h3, fs, fv, fz, h4, h5, h6, h7, h8⟩ := h
  exact ⟨(e _ (by omega) (by omega)).trans h1, (e _ (by omega) (by omega)).trans h2, (e _ (by omega) (by omega)).trans h3, fs, fv, fz, (e _ (by omega) (by omega)).trans h4, (e _ (by omega) (by omega)).trans h5, (e _ (by omega) (by omega)).trans h6, (e _ (by omega) (by omega)).trans h7, h8⟩
/-- the reader's cells whatever they hold -/
def rdW (o c1 : Nat) (v1 v2 v3 : Int) (r1 r2 : Nat) (v4 v5 : Int) (fc fq : Nat → Int) (cc : Int) (fs fv fz : Nat → Int) (w : Wo) : Prop := lk w o = some (Ob 2 [vr (o + 1), vr (o + 5), vr (o + 6), vi ((c1 : Nat) : Int), vi v1, vi v2, vi v3, vr r1, vr r2, vi v4, vi v5]) ∧ lk w (o + 5) = some (Ar 0 602 fc) ∧ lk w (o + 6) = some (Ar 0 72 fq) ∧
  (lk w (o + 1) = some (Ob 7 [vr (o + 2), vr (o + 3), vr (o + 4), vi cc]) ∧ lk w (o + 2) = some (Ar 0 301 fs) ∧ lk w (o + 3) = some (Ar 0 301 fv) ∧ lk w (o + 4) = some (Ar 0 301 fz))
def ccn (s : Rs) : Nat := (if s.2.1.isSome = true then 1 else 0) + (if s.2.2.isSome = true then 1 else 0)
theorem ccn_2 (s : Rs) : ccn s ≤ 2 := by unfold ccn; split <;> split <;> omega
theorem pCla_n {L : List (Int × Int × Int)} (hB : tkB L) {s s2 : Rs} {j k : Nat} (h : pCla L s j = .inl (s2, k)) : s2.1.length = s.1.length + 1 ∧ ccn s2 = ccn s + cM (gTk L j).1 ∧ s.1.length < 24 := by
  have h0 := (hB j).1.1
  unfold pCla at h
  split at h
  · cases h
  split at h
  · cases h
  rename_i hag
  split at h
  · cases h
  rename_i h24
  split at h
  · rename_i h01
    unfold pLaC at h
    split at h
    · split at h
      · cases h
        refine ⟨by rw [List.length_append]; rfl, ?_, by omega⟩
        have hc : cM (gTk L j).1 = 1 := if_pos (by omega)
        rw [hc]
        rcases h01 with e | e
        · have ha : ¬ s.2.1.isSome = true := fun z => hag (Or.inl ⟨e, z⟩)
          unfold ccn
          rw [if_neg ha]
          show (if (if (gTk L j).1 = 0 then _ else _ : Option Ex).isSome = true then 1 else 0) + (if (if (gTk L j).1 = 0 then _ else _ : Option Ex).isSome = true then 1 else 0) = _
          rw [if_pos e, if_pos e, if_pos (show (some _ : Option Ex).isSome = true from rfl)]
          omega
        · have ha : ¬ s.2.2.isSome = true := fun z => hag (Or.inr ⟨e, z⟩)
          have e0 : ¬ (gTk L j).1 = 0 := by omega
          unfold ccn
          rw [if_neg ha]
          show (if (if (gTk L j).1 = 0 then _ else _ : Option Ex).isSome = true then 1 else 0) + (if (if (gTk L j).1 = 0 then _ else _ : Option Ex).isSome = true then 1 else 0) = _
          rw [if_neg e0, if_neg e0, if_pos (show (some _ : Option Ex).isSome = true from rfl)]
      · cases h
    · cases h
  · rename_i h01
    unfold pDeC at h
    split at h
    · cases h
      refine ⟨by rw [List.length_append]; rfl, ?_, by omega⟩
      have hc : cM (gTk L j).1 = 0 := if_neg (by omega)
      rw [hc]
      rfl
    · cases h
/-- what reading makes -/
def QR (G : GT) (o : Nat) (L : List (Int × Int × Int)) (w : Wo) (r : Option AV) (w' : Wo) : Rr → Prop
  | .inl (s, k) => (∃ x m1 m2 a3 f3, r = some (vr x) ∧ (gB G ≤ x ∧ lk w x = none ∧ (x < o ∨ o + 6 < x)) ∧ (gB G ≤ a3 ∧ lk w a3 = none ∧ (a3 < o ∨ o + 6 < a3)) ∧ lk w' x = some (Ob 6 [vr m1, vr m2, vr a3]) ∧ lk w' a3 = some (Ar 0 (3 * s.1.length) f3) ∧ cRel f3 s.1 ∧ cEx G o w m1 w' s.2.1 ∧ cEx G o w m2 w' s.2.2) ∧ s.1.length ≤ 24 ∧ k ≤ 301 ∧ (∃ c1 ly m1 m2 fc fq, isRe o L c1 s.1.length k ly m1 m2 0 (-1) fc fq w') ∧ FrN o w w'
  | .inr (f, k) => r = some vn ∧ k ≤ 301 ∧ (∃ c1 c2 ly m1 m2 fc fq, isRe o L c1 c2 k ly m1 m2 f (gTk L k).2.2 fc fq w') ∧ FrN o w w'
set_option maxHeartbeats 4000000 in
set_option maxRecDepth 100000 in
theorem kX3_read (l : Launch) (G : GT) (o pb : Nat) (hpb : pb < o ∨ o + 6 < pb) (b : Nat → Int) (hb : ∀ k : Nat, k < 300 → 0 ≤ b k ∧ b k < 256) (t : Nat) (ht : t ≤ 300) (c1 : Nat) (v1 v2 v3 : Int) (r1 r2 : Nat) (v4 v5 : Int) (fc fq : Nat → Int) (cc : Int) (fs fv fz : Nat → Int) : Ctr l G yX3_read cX3_read 4 ((Option.some (Jvm.ClassFile.FieldType.object "LongCarrier$Text"))) 68 5 1881 [vr o, vr pb, vi ((t : Nat) : Int)] (fun w => rdW o c1 v1 v2 v3 r1 r2 v4 v5 fc fq cc fs fv fz w ∧ lk w pb = some (Ar 0 300 b)) (fun w r w' => QR G o (tkL b t) w r w' (pRea (tkL b t) 25 ([], none, none) 0)) := by
  have hB := tkL_B hb ht
  have hx51 := tkL_51 (b := b) ht
  refine Ctr.of (t := tX3_read) (lv0 := [some (vr o), some (vr pb), some (vi ((t : Nat) : Int)), none]) (by decide +kernel) tX3_read_ok rfl rfl (fun w g hP M => ?_)
  obtain ⟨⟨hO, h5, h6, hK⟩, hpw⟩ := hP
  refine M.run 1 (pc' := 1) (lv' := [some (vr o), some (vr pb), some (vi ((t : Nat) : Int)), none]) (st' := [vr o]) rfl ?_
  refine M.get fl_X3_12 rfl hO (kf := 0) (v := vr (o + 1)) rfl ?_
  refine M.run 2 (pc' := 6) (lv' := [some (vr o), some (vr pb), some (vi ((t : Nat) : Int)), none]) (st' := [vi ((t : Nat) : Int), vr pb, vr (o + 1)]) rfl ?_
  refine M.callV (kX8_cut l G (o + 1) (o + 2) (o + 3) (o + 4) (ap4_o o) pb (by omega) b hb t ht cc fs fv fz) cv_X3_34 cd_X8_cut rfl (st := []) rfl hK.1 (by omega) (by decide) rfl (by omega) (by omega) ⟨hK, hpw⟩ (fun r1_ w1 q1 => ?_)
  obtain ⟨hr1_, hT, hfk⟩ := q1
  rw [hr1_]
  have hO1 := (hfk o (by omega) (by omega) (by omega) (by omega)).trans hO
  have h51 := (hfk (o + 5) (by omega) (by omega) (by omega) (by omega)).trans h5
  have h61 := (hfk (o + 6) (by omega) (by omega) (by omega) (by omega)).trans h6
  have hF1 : FrR o w w1 := fun a ha => hfk a (by omega) (by omega) (by omega) (by omega)
  refine M.run 2 (pc' := 11) (lv' := [some (vr o), some (vr pb), some (vi ((t : Nat) : Int)), none]) (st' := [vi 0, vr o]) rfl ?_
  refine M.put fl_X3_38 rfl hO1 rfl rfl (Nat.le_of_ble_eq_true rfl) ?_
  have hO2 : lk (up w1 o (Ob 2 [vr (o + 1), vr (o + 5), vr (o + 6), vi ((c1 : Nat) : Int), vi v1, vi ((0 : Nat) : Int), vi v3, vr r1, vr r2, vi v4, vi v5])) o = some (Ob 2 [vr (o + 1), vr (o + 5), vr (o + 6), vi ((c1 : Nat) : Int), vi v1, vi ((0 : Nat) : Int), vi v3, vr r1, vr r2, vi v4, vi v5]) := lk_up_s hO1
  refine M.run 2 (pc' := 16) (lv' := [some (vr o), some (vr pb), some (vi ((t : Nat) : Int)), none]) (st' := [vi 0, vr o]) rfl ?_
  refine M.put fl_X3_42 rfl hO2 rfl rfl (Nat.le_of_ble_eq_true rfl) ?_
  have hO3 : lk (up (up w1 o (Ob 2 [vr (o + 1), vr (o + 5), vr (o + 6), vi ((c1 : Nat) : Int), vi v1, vi ((0 : Nat) : Int), vi v3, vr r1, vr r2, vi v4, vi v5])) o (Ob 2 [vr (o + 1), vr (o + 5), vr (o + 6), vi ((c1 : Nat) : Int), vi ((0 : Nat) : Int), vi ((0 : Nat) : Int), vi v3, vr r1, vr r2, vi v4, vi v5])) o = some (Ob 2 [vr (o + 1), vr (o + 5), vr (o + 6), vi ((c1 : Nat) : Int), vi ((0 : Nat) : Int), vi ((0 : Nat) : Int), vi v3, vr r1, vr r2, vi v4, vi v5]) := lk_up_s hO2
  refine M.run 1 (pc' := 20) (lv' := [some (vr o), some (vr pb), some (vi ((t : Nat) : Int)), none]) (st' := [vr o]) rfl ?_
  refine M.getsN rfl rfl ?_
  refine M.put fl_X3_28 rfl hO3 rfl rfl (Nat.le_of_ble_eq_true rfl) ?_
  have hO4 : lk (up (up (up w1 o (Ob 2 [vr (o + 1), vr (o + 5), vr (o + 6), vi ((c1 : Nat) : Int), vi v1, vi ((0 : Nat) : Int), vi v3, vr r1, vr r2, vi v4, vi v5])) o (Ob 2 [vr (o + 1), vr (o + 5), vr (o + 6), vi ((c1 : Nat) : Int), vi ((0 : Nat) : Int), vi ((0 : Nat) : Int), vi v3, vr r1, vr r2, vi v4, vi v5])) o (Ob 2 [vr (o + 1), vr (o + 5), vr (o + 6), vi ((c1 : Nat) : Int), vi ((0 : Nat) : Int), vi ((0 : Nat) : Int), vi v3, vr ((gN G)), vr r2, vi v4, vi v5])) o = some (Ob 2 [vr (o + 1), vr (o + 5), vr (o + 6), vi ((c1 : Nat) : Int), vi ((0 : Nat) : Int), vi ((0 : Nat) : Int), vi v3, vr ((gN G)), vr r2, vi v4, vi v5]) := lk_up_s hO3
  refine M.run 1 (pc' := 27) (lv' := [some (vr o), some (vr pb), some (vi ((t : Nat) : Int)), none]) (st' := [vr o]) rfl ?_
  refine M.getsN rfl rfl ?_
  refine M.put fl_X3_31 rfl hO4 rfl rfl (Nat.le_of_ble_eq_true rfl) ?_
  have hO5 : lk (up (up (up (up w1 o (Ob 2 [vr (o + 1), vr (o + 5), vr (o + 6), vi ((c1 : Nat) : Int), vi v1, vi ((0 : Nat) : Int), vi v3, vr r1, vr r2, vi v4, vi v5])) o (Ob 2 [vr (o + 1), vr (o + 5), vr (o + 6), vi ((c1 : Nat) : Int), vi ((0 : Nat) : Int), vi ((0 : Nat) : Int), vi v3, vr r1, vr r2, vi v4, vi v5])) o (Ob 2 [vr (o + 1), vr (o + 5), vr (o + 6), vi ((c1 : Nat) : Int), vi ((0 : Nat) : Int), vi ((0 : Nat) : Int), vi v3, vr ((gN G)), vr r2, vi v4, vi v5])) o (Ob 2 [vr (o + 1), vr (o + 5), vr (o + 6), vi ((c1 : Nat) : Int), vi ((0 : Nat) : Int), vi ((0 : Nat) : Int), vi v3, vr ((gN G)), vr ((gN G)), vi v4, vi v5])) o = some (Ob 2 [vr (o + 1), vr (o + 5), vr (o + 6), vi ((c1 : Nat) : Int), vi ((0 : Nat) : Int), vi ((0 : Nat) : Int), vi v3, vr ((gN G)), vr ((gN G)), vi v4, vi v5]) := lk_up_s hO4
  refine M.run 2 (pc' := 35) (lv' := [some (vr o), some (vr pb), some (vi ((t : Nat) : Int)), none]) (st' := [vi 0, vr o]) rfl ?_
  refine M.put fl_X3_45 rfl hO5 rfl rfl (Nat.le_of_ble_eq_true rfl) ?_
  have hO6 : lk (up (up (up (up (up w1 o (Ob 2 [vr (o + 1), vr (o + 5), vr (o + 6), vi ((c1 : Nat) : Int), vi v1, vi ((0 : Nat) : Int), vi v3, vr r1, vr r2, vi v4, vi v5])) o (Ob 2 [vr (o + 1), vr (o + 5), vr (o + 6), vi ((c1 : Nat) : Int), vi ((0 : Nat) : Int), vi ((0 : Nat) : Int), vi v3, vr r1, vr r2, vi v4, vi v5])) o (Ob 2 [vr (o + 1), vr (o + 5), vr (o + 6), vi ((c1 : Nat) : Int), vi ((0 : Nat) : Int), vi ((0 : Nat) : Int), vi v3, vr ((gN G)), vr r2, vi v4, vi v5])) o (Ob 2 [vr (o + 1), vr (o + 5), vr (o + 6), vi ((c1 : Nat) : Int), vi ((0 : Nat) : Int), vi ((0 : Nat) : Int), vi v3, vr ((gN G)), vr ((gN G)), vi v4, vi v5])) o (Ob 2 [vr (o + 1), vr (o + 5), vr (o + 6), vi ((c1 : Nat) : Int), vi ((0 : Nat) : Int), vi ((0 : Nat) : Int), vi v3, vr ((gN G)), vr ((gN G)), vi 0, vi v5])) o = some (Ob 2 [vr (o + 1), vr (o + 5), vr (o + 6), vi ((c1 : Nat) : Int), vi ((0 : Nat) : Int), vi ((0 : Nat) : Int), vi v3, vr ((gN G)), vr ((gN G)), vi 0, vi v5]) := lk_up_s hO5
  refine M.run 2 (pc' := 40) (lv' := [some (vr o), some (vr pb), some (vi ((t : Nat) : Int)), none]) (st' := [vi (-1), vr o]) rfl ?_
  refine M.put fl_X3_48 rfl hO6 rfl rfl (Nat.le_of_ble_eq_true rfl) ?_
  have hO7 : lk (up (up (up (up (up (up w1 o (Ob 2 [vr (o + 1), vr (o + 5), vr (o + 6), vi ((c1 : Nat) : Int), vi v1, vi ((0 : Nat) : Int), vi v3, vr r1, vr r2, vi v4, vi v5])) o (Ob 2 [vr (o + 1), vr (o + 5), vr (o + 6), vi ((c1 : Nat) : Int), vi ((0 : Nat) : Int), vi ((0 : Nat) : Int), vi v3, vr r1, vr r2, vi v4, vi v5])) o (Ob 2 [vr (o + 1), vr (o + 5), vr (o + 6), vi ((c1 : Nat) : Int), vi ((0 : Nat) : Int), vi ((0 : Nat) : Int), vi v3, vr ((gN G)), vr r2, vi v4, vi v5])) o (Ob 2 [vr (o + 1), vr (o + 5), vr (o + 6), vi ((c1 : Nat) : Int), vi ((0 : Nat) : Int), vi ((0 : Nat) : Int), vi v3, vr ((gN G)), vr ((gN G)), vi v4, vi v5])) o (Ob 2 [vr (o + 1), vr (o + 5), vr (o + 6), vi ((c1 : Nat) : Int), vi ((0 : Nat) : Int), vi ((0 : Nat) : Int), vi v3, vr ((gN G)), vr ((gN G)), vi 0, vi v5])) o (Ob 2 [vr (o + 1), vr (o + 5), vr (o + 6), vi ((c1 : Nat) : Int), vi ((0 : Nat) : Int), vi ((0 : Nat) : Int), vi v3, vr ((gN G)), vr ((gN G)), vi 0, vi ((-1))])) o = some (Ob 2 [vr (o + 1), vr (o + 5), vr (o + 6), vi ((c1 : Nat) : Int), vi ((0 : Nat) : Int), vi ((0 : Nat) : Int), vi v3, vr ((gN G)), vr ((gN G)), vi 0, vi ((-1))]) := lk_up_s hO6
  refine M.run 2 (pc' := 45) (lv' := [some (vr o), some (vr pb), some (vi ((t : Nat) : Int)), some (vi ((0 : Nat) : Int))]) (st' := []) rfl ?_
  have hR : isRe o (tkL b t) c1 0 0 v3 (gN G) (gN G) 0 (-1) fc fq (up (up (up (up (up (up w1 o (Ob 2 [vr (o + 1), vr (o + 5), vr (o + 6), vi ((c1 : Nat) : Int), vi v1, vi ((0 : Nat) : Int), vi v3, vr r1, vr r2, vi v4, vi v5])) o (Ob 2 [vr (o + 1), vr (o + 5), vr (o + 6), vi ((c1 : Nat) : Int), vi ((0 : Nat) : Int), vi ((0 : Nat) : Int), vi v3, vr r1, vr r2, vi v4, vi v5])) o (Ob 2 [vr (o + 1), vr (o + 5), vr (o + 6), vi ((c1 : Nat) : Int), vi ((0 : Nat) : Int), vi ((0 : Nat) : Int), vi v3, vr ((gN G)), vr r2, vi v4, vi v5])) o (Ob 2 [vr (o + 1), vr (o + 5), vr (o + 6), vi ((c1 : Nat) : Int), vi ((0 : Nat) : Int), vi ((0 : Nat) : Int), vi v3, vr ((gN G)), vr ((gN G)), vi v4, vi v5])) o (Ob 2 [vr (o + 1), vr (o + 5), vr (o + 6), vi ((c1 : Nat) : Int), vi ((0 : Nat) : Int), vi ((0 : Nat) : Int), vi v3, vr ((gN G)), vr ((gN G)), vi 0, vi v5])) o (Ob 2 [vr (o + 1), vr (o + 5), vr (o + 6), vi ((c1 : Nat) : Int), vi ((0 : Nat) : Int), vi ((0 : Nat) : Int), vi v3, vr ((gN G)), vr ((gN G)), vi 0, vi ((-1))])) := ⟨hO7, ?h5, ?h6, ?hT⟩
  case h5 => exact (lk_up_n (by omega)).trans ((lk_up_n (by omega)).trans ((lk_up_n (by omega)).trans ((lk_up_n (by omega)).trans ((lk_up_n (by omega)).trans ((lk_up_n (by omega)).trans (h51))))))
  case h6 => exact (lk_up_n (by omega)).trans ((lk_up_n (by omega)).trans ((lk_up_n (by omega)).trans ((lk_up_n (by omega)).trans ((lk_up_n (by omega)).trans ((lk_up_n (by omega)).trans (h61))))))
  case hT => exact tkA_o (tkA_o (tkA_o (tkA_o (tkA_o (tkA_o (hT) (Or.inl rfl)) (Or.inl rfl)) (Or.inl rfl)) (Or.inl rfl)) (Or.inl rfl)) (Or.inl rfl)
  have hF : FrR o w (up (up (up (up (up (up w1 o (Ob 2 [vr (o + 1), vr (o + 5), vr (o + 6), vi ((c1 : Nat) : Int), vi v1, vi ((0 : Nat) : Int), vi v3, vr r1, vr r2, vi v4, vi v5])) o (Ob 2 [vr (o + 1), vr (o + 5), vr (o + 6), vi ((c1 : Nat) : Int), vi ((0 : Nat) : Int), vi ((0 : Nat) : Int), vi v3, vr r1, vr r2, vi v4, vi v5])) o (Ob 2 [vr (o + 1), vr (o + 5), vr (o + 6), vi ((c1 : Nat) : Int), vi ((0 : Nat) : Int), vi ((0 : Nat) : Int), vi v3, vr ((gN G)), vr r2, vi v4, vi v5])) o (Ob 2 [vr (o + 1), vr (o + 5), vr (o + 6), vi ((c1 : Nat) : Int), vi ((0 : Nat) : Int), vi ((0 : Nat) : Int), vi v3, vr ((gN G)), vr ((gN G)), vi v4, vi v5])) o (Ob 2 [vr (o + 1), vr (o + 5), vr (o + 6), vi ((c1 : Nat) : Int), vi ((0 : Nat) : Int), vi ((0 : Nat) : Int), vi v3, vr ((gN G)), vr ((gN G)), vi 0, vi v5])) o (Ob 2 [vr (o + 1), vr (o + 5), vr (o + 6), vi ((c1 : Nat) : Int), vi ((0 : Nat) : Int), vi ((0 : Nat) : Int), vi v3, vr ((gN G)), vr ((gN G)), vi 0, vi ((-1))])) := FrR.u (FrR.u (FrR.u (FrR.u (FrR.u (FrR.u (hF1) o (by omega)) o (by omega)) o (by omega)) o (by omega)) o (by omega)) o (by omega)
  have hS0 : isRS G o (tkL b t) w ([], none, none) 0 (up (up (up (up (up (up w1 o (Ob 2 [vr (o + 1), vr (o + 5), vr (o + 6), vi ((c1 : Nat) : Int), vi v1, vi ((0 : Nat) : Int), vi v3, vr r1, vr r2, vi v4, vi v5])) o (Ob 2 [vr (o + 1), vr (o + 5), vr (o + 6), vi ((c1 : Nat) : Int), vi ((0 : Nat) : Int), vi ((0 : Nat) : Int), vi v3, vr r1, vr r2, vi v4, vi v5])) o (Ob 2 [vr (o + 1), vr (o + 5), vr (o + 6), vi ((c1 : Nat) : Int), vi ((0 : Nat) : Int), vi ((0 : Nat) : Int), vi v3, vr ((gN G)), vr r2, vi v4, vi v5])) o (Ob 2 [vr (o + 1), vr (o + 5), vr (o + 6), vi ((c1 : Nat) : Int), vi ((0 : Nat) : Int), vi ((0 : Nat) : Int), vi v3, vr ((gN G)), vr ((gN G)), vi v4, vi v5])) o (Ob 2 [vr (o + 1), vr (o + 5), vr (o + 6), vi ((c1 : Nat) : Int), vi ((0 : Nat) : Int), vi ((0 : Nat) : Int), vi v3, vr ((gN G)), vr ((gN G)), vi 0, vi v5])) o (Ob 2 [vr (o + 1), vr (o + 5), vr (o + 6), vi ((c1 : Nat) : Int), vi ((0 : Nat) : Int), vi ((0 : Nat) : Int), vi v3, vr ((gN G)), vr ((gN G)), vi 0, vi ((-1))])) := ⟨_, _, _, _, _, _, hR, by decide, fun k hk => absurd hk (Nat.not_lt_zero k), rfl, rfl, FrN.fr (fun _ _ _ => rfl) hF⟩
  clear hR hF
  suffices hL : ∀ (m : Nat) (s : Rs) (j k n : Nat) (w2 : Wo), m + s.1.length = 25 → j ≤ 301 → k ≤ ccn s → n ≤ 602 * ccn s → isRS G o (tkL b t) w s j w2 → pRea (tkL b t) m s j = pRea (tkL b t) 25 ([], none, none) 0 → g k n w2 45 [some (vr o), some (vr pb), some (vi ((t : Nat) : Int)), some (vi ((s.1.length : Nat) : Int))] [] from hL 25 ([], none, none) 0 0 0 _ rfl (by omega) (Nat.zero_le _) (Nat.zero_le _) hS0 rfl
  clear hS0 hO2 hO3 hO4 hO5 hO6 hO7 hT hF1 h51 h61 hO1 hfk
  generalize tkL b t = L at *
  intro m
  induction m with
  | zero =>
    intro s j k n w2 hm hj hk hn hS hp
    obtain ⟨c1, ly, m1, m2, fc, fq, hR, h24, _⟩ := hS
    omega
  | succ m ih =>
    intro s j k n w2 hm hj hk hn hS hp
    obtain ⟨d1, ly, m1, m2, gc, gq, hR, h24, hcr, hx1, hx2, hF⟩ := id hS
    have hc2 := ccn_2 s
    refine M.run 2 (pc' := 48) (lv' := [some (vr o), some (vr pb), some (vi ((t : Nat) : Int)), some (vi ((s.1.length : Nat) : Int))]) (st' := [vi 24, vi ((s.1.length : Nat) : Int)]) rfl ?_
    refine M.icmp_gt (tgt := 82) rfl (qI (by omega)) (qI (by decide)) rfl (fun q => absurd q (by omega)) (fun _ => ?_)
    refine M.run 1 (pc' := 52) (lv' := [some (vr o), some (vr pb), some (vi ((t : Nat) : Int)), some (vi ((s.1.length : Nat) : Int))]) (st' := [vr o]) rfl ?_
    refine M.get fl_X3_12 rfl hR.1 (kf := 0) (v := vr (o + 1)) rfl ?_
    refine M.run 1 (pc' := 56) (lv' := [some (vr o), some (vr pb), some (vi ((t : Nat) : Int)), some (vi ((s.1.length : Nat) : Int))]) (st' := [vr o, vr (o + 1)]) rfl ?_
    refine M.get fl_X3_38 rfl hR.1 (kf := 5) (v := vi ((j : Nat) : Int)) rfl ?_
    obtain ⟨_, _, _, hKo, _⟩ := id hR.2.2.2
    refine M.callV (kX8_sort l G (o + 1) (o + 2) (o + 3) (o + 4) (ap4_o o) L j (by omega)) cv_X3_51 cd_X8_sort rfl (st := []) rfl hKo (by omega) (by decide) rfl (by omega) (by omega) hR.2.2.2 (fun r2 w3 q3 => ?_)
    rw [q3.1, q3.2]
    obtain ⟨⟨ht1, ht2⟩, _⟩ := hB j
    refine M.run 1 (pc' := 64) (lv' := [some (vr o), some (vr pb), some (vi ((t : Nat) : Int)), some (vi ((s.1.length : Nat) : Int))]) (st' := [vi 51, vi (gTk L j).1]) rfl ?_
    refine M.icmp_eq (tgt := 82) rfl (qI (by omega)) (qI (by decide)) rfl (fun h51 => ?_) (fun h51 => ?_)
    · have hpr : pRea L 25 ([], none, none) 0 = .inl (s, j) := hp.symm.trans (if_pos h51)
      refine M.run 1 (pc' := 83) (lv' := [some (vr o), some (vr pb), some (vi ((t : Nat) : Int)), some (vi ((s.1.length : Nat) : Int))]) (st' := [vr o]) rfl ?_
      refine M.get fl_X3_42 rfl hR.1 (kf := 4) (v := vi ((s.1.length : Nat) : Int)) rfl ?_
      refine M.if_lt (tgt := 98) rfl (qI (by omega)) rfl (fun q => absurd q (by omega)) (fun _ => ?_)
      refine M.run 1 (pc' := 90) (lv' := [some (vr o), some (vr pb), some (vi ((t : Nat) : Int)), some (vi ((s.1.length : Nat) : Int))]) (st' := [vr o]) rfl ?_
      refine M.get fl_X3_42 rfl hR.1 (kf := 4) (v := vi ((s.1.length : Nat) : Int)) rfl ?_
      refine M.run 1 (pc' := 95) (lv' := [some (vr o), some (vr pb), some (vi ((t : Nat) : Int)), some (vi ((s.1.length : Nat) : Int))]) (st' := [vi 24, vi ((s.1.length : Nat) : Int)]) rfl ?_
      refine M.icmp_le (tgt := 100) rfl (qI (by omega)) (qI (by decide)) rfl (fun _ => ?_) (fun q => absurd q (by omega))
      refine M.newO [vn, vn, vn] (ci := 6) rfl inX7 tyX7_ok wd_n7 wd_i7 wd_s7 (fun j hj => by rcases (show j = 0 ∨ j = 1 ∨ j = 2 by omega) with rfl | rfl | rfl <;> rfl) rfl (by omega) (by omega) (fun x hx1_ hx2_ => ?_)
      have hxo := isRe_on hR hx2_
      have hR2 := isRe_nw (q := x) (c := Ob 6 [vn, vn, vn]) hR
      have hX2 : lk (nw w2 x (Ob 6 [vn, vn, vn])) x = some (Ob 6 [vn, vn, vn]) := lk_nw_s hx2_
      have hN2 : ∀ a : Nat, a ≠ x → lk (nw w2 x (Ob 6 [vn, vn, vn])) a = lk w2 a := fun a ha => lk_nw_n ha
      generalize nw w2 x (Ob 6 [vn, vn, vn]) = w4 at hR2 hX2 hN2 ⊢
      refine M.run 2 (pc' := 105) (lv' := [some (vr o), some (vr pb), some (vi ((t : Nat) : Int)), some (vi ((s.1.length : Nat) : Int))]) (st' := [vr o, vr x, vr x]) rfl ?_
      refine M.get fl_X3_28 rfl hR2.1 (kf := 7) (v := vr m1) rfl ?_
      refine M.run 1 (pc' := 109) (lv' := [some (vr o), some (vr pb), some (vi ((t : Nat) : Int)), some (vi ((s.1.length : Nat) : Int))]) (st' := [vr o, vr m1, vr x, vr x]) rfl ?_
      refine M.get fl_X3_31 rfl hR2.1 (kf := 8) (v := vr m2) rfl ?_
      refine M.run 1 (pc' := 113) (lv' := [some (vr o), some (vr pb), some (vi ((t : Nat) : Int)), some (vi ((s.1.length : Nat) : Int))]) (st' := [vr o, vr m2, vr m1, vr x, vr x]) rfl ?_
      refine M.get fl_X3_22 rfl hR2.1 (kf := 2) (v := vr (o + 6)) rfl ?_
      refine M.run 2 (pc' := 118) (lv' := [some (vr o), some (vr pb), some (vi ((t : Nat) : Int)), some (vi ((s.1.length : Nat) : Int))]) (st' := [vr o, vi 3, vr (o + 6), vr m2, vr m1, vr x, vr x]) rfl ?_
      refine M.get fl_X3_42 rfl hR2.1 (kf := 4) (v := vi ((s.1.length : Nat) : Int)) rfl ?_
      refine M.run 1 (pc' := 122) (lv' := [some (vr o), some (vr pb), some (vi ((t : Nat) : Int)), some (vi ((s.1.length : Nat) : Int))]) (st' := [vi ((3 * s.1.length : Nat) : Int), vr (o + 6), vr m2, vr m1, vr x, vr x]) rfl ?_
      refine M.callS (kJ7_copyOf l G (o + 6) 72 (3 * s.1.length) gq (by omega) (by omega)) cs_X3_61 cd_J7_copyOf_59c91 rfl (st := [vr m2, vr m1, vr x, vr x]) rfl (by omega) (by decide) rfl (by omega) (by omega) hR2.2.2.1 (fun r5 w5 q5 => ?_)
      obtain ⟨a3, f3, hr5, ha1, ha2, hw5, hf3⟩ := q5
      rw [hr5]
      have hax : a3 ≠ x := fun z => by rw [z, hX2] at ha2; cases ha2
      have hao := isRe_on hR2 ha2
      have hR3 : isRe o L d1 s.1.length j ly m1 m2 0 (-1) gc gq w5 := by rw [hw5]; exact isRe_nw hR2
      have hX3 : lk w5 x = some (Ob 6 [vn, vn, vn]) := by rw [hw5]; exact lk_nw_o hX2
      have hA3 : lk w5 a3 = some (Ar 0 (3 * s.1.length) f3) := by rw [hw5]; exact lk_nw_s ha2
      have hN3 : ∀ a : Nat, a ≠ a3 → lk w5 a = lk w4 a := fun a ha => by rw [hw5]; exact lk_nw_n ha
      clear hw5
      refine M.callI (kX7_init l G x m1 m2 a3 vn vn vn) ci_X3_67 cd_X7_init rfl (st := [vr x]) rfl (by omega) (by decide) rfl (by omega) (by omega) hX3 (fun w6 q6 => ?_) (fun r w' q => q.1)
      obtain ⟨_, hw6⟩ := q6
      have ha2b : lk w2 a3 = none := (hN2 a3 hax).symm.trans ha2
      have hN6 : ∀ a : Nat, a ≠ x → a ≠ a3 → lk w6 a = lk w2 a := fun a h1 h2 => by rw [hw6]; exact (lk_up_n h1).trans ((hN3 a h2).trans (hN2 a h1))
      have hN7 : ∀ a : Nat, lk w2 a ≠ none → lk w6 a = lk w2 a := fun a ha => hN6 a (fun z => ha (by rw [z]; exact hx2_)) (fun z => ha (by rw [z]; exact ha2b))
      refine M.aret rfl (by omega) (by omega) ?_
      show QR G o L w _ _ (pRea L 25 ([], none, none) 0)
      rw [hpr]
      refine ⟨⟨x, m1, m2, a3, f3, rfl, ⟨hx1_, FrN.no hF hx2_ hxo, hxo⟩, ⟨ha1, FrN.no hF ha2b hao, hao⟩, ?_, ?_, ?_, cEx_fr hx1 (fun a _ hn => hN7 a hn), cEx_fr hx2 (fun a _ hn => hN7 a hn)⟩, h24, hj, ⟨_, _, _, _, _, _, isRe_frm hR3 (fun a h1 h2 => ?_)⟩, fun a ha hn => ?_⟩
      · rw [hw6]; exact lk_up_s hX3
      · rw [hw6]; exact (lk_up_n hax).trans hA3
      · intro i hi
        obtain ⟨z1, z2, z3⟩ := hcr i hi
        exact ⟨(hf3 _ (by omega)).trans z1, (hf3 _ (by omega)).trans z2, (hf3 _ (by omega)).trans z3⟩
      · rw [hw6]; exact lk_up_n (by omega)
      · have hz := hF a ha hn
        exact (hN7 a (by rw [hz]; exact hn)).trans hz
    · have hj3 := hx51 j h51
      refine M.run 1 (pc' := 68) (lv' := [some (vr o), some (vr pb), some (vi ((t : Nat) : Int)), some (vi ((s.1.length : Nat) : Int))]) (st' := [vr o]) rfl ?_
      have hcM : cM (gTk L j).1 ≤ 1 := by unfold cM; split <;> omega
      refine M.callV (kX3_clause l G o L hB hx51 w s j hj3) cv_X3_55 cd_X3_clause rfl (st := []) rfl hR.1 (by omega) (by decide) rfl (by omega) (by omega) hS (fun r5 w5 q5 => ?_)
      have hp2 : pRea L (m + 1) s j = _ := if_neg h51
      rcases hE : pCla L s j with ⟨s2, k2⟩ | ⟨f, k2⟩
      · rw [hE] at q5 hp2
        obtain ⟨hr, hk2, hS2⟩ := q5
        obtain ⟨z1, z2, z3⟩ := pCla_n hB hE
        rw [hr]
        refine M.if_ne (tgt := 76) rfl (qI (by decide)) rfl (fun _ => ?_) (fun q => absurd q (by decide))
        refine M.run 2 (pc' := 45) (lv' := [some (vr o), some (vr pb), some (vi ((t : Nat) : Int)), some (vi ((s.1.length + 1 : Nat) : Int))]) (st' := []) rfl ?_
        rw [← z1]
        exact ih s2 k2 _ _ w5 (by omega) hk2 (by rw [z2]; omega) (by rw [z2, Nat.mul_add]; omega) hS2 (hp2.symm.trans hp)
      · rw [hE] at q5 hp2
        obtain ⟨hr, hk2, hS2, hF2⟩ := q5
        rw [hr]
        refine M.if_ne (tgt := 76) rfl (qI (by decide)) rfl (fun q => absurd rfl q) (fun _ => ?_)
        refine M.run 1 (pc' := 75) (lv' := [some (vr o), some (vr pb), some (vi ((t : Nat) : Int)), some (vi ((s.1.length : Nat) : Int))]) (st' := [vn]) rfl ?_
        refine M.aret rfl (by omega) (by omega) ?_
        show QR G o L w _ _ (pRea L 25 ([], none, none) 0)
        rw [← hp, hp2]
        exact ⟨rfl, hk2, hS2, hF2⟩
