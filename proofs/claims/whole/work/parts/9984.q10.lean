/-! the reference's reader: a clause -/
/-- where a law stands -/
def rLw (c0 : Nat) (f : Nat → Int) (C : List (Int × Int)) (Lc : List (Int × Int × Int)) (q : Int) : Option Ex → Prop
  | none => ∀ k : Nat, k < Lc.length → ¬ (gTk Lc k).1 = q
  | some e => ∃ (k : Nat) (C0 C1 : List (Int × Int)), k < Lc.length ∧ (gTk Lc k).1 = q ∧ (∀ j : Nat, j < Lc.length → (gTk Lc j).1 = q → j = k) ∧ f (c0 + 1 + 3 * k + 1) = ((C0.length : Nat) : Int) ∧ f (c0 + 1 + 3 * k + 2) = (((C0 ++ post e).length : Nat) : Int) ∧ C = C0 ++ post e ++ C1
/-- what has been read, in the reference's row -/
def rTs (c0 : Nat) (f : Nat → Int) (C : List (Int × Int)) (s : Rs) : Prop := f c0 = ((s.1.length : Nat) : Int) ∧ s.1.length ≤ 24 ∧ (∀ k : Nat, k < s.1.length → f (c0 + 1 + 3 * k) = (gTk s.1 k).1 ∧ (0 ≤ (gTk s.1 k).1 ∧ (gTk s.1 k).1 ≤ 5) ∧ (2 ≤ (gTk s.1 k).1 → f (c0 + 1 + 3 * k + 1) = (gTk s.1 k).2.1 ∧ 0 ≤ (gTk s.1 k).2.1 ∧ (gTk s.1 k).2.1 ≤ 30) ∧ ((gTk s.1 k).1 = 2 ∨ (gTk s.1 k).1 = 4 → f (c0 + 1 + 3 * k + 2) = (gTk s.1 k).2.2 ∧ 0 ≤ (gTk s.1 k).2.2 ∧ (gTk s.1 k).2.2 ≤ 30)) ∧ rLw c0 f C s.1 0 s.2.1 ∧ rLw c0 f C s.1 1 s.2.2
def rBit (s : Rs) : Nat := (if s.2.1.isSome = true then 1 else 0) + (if s.2.2.isSome = true then 2 else 0)
def rCs (t c0 : Nat) (s : Rs) (C : List (Int × Int)) (j : Nat) (u : Nat → Int) (b : Nat → Nat → Int) : Prop := u 12 = ((c0 : Nat) : Int) ∧ isTk (b 3) t j u ∧ u 13 = ((C.length : Nat) : Int) ∧ rCl C (c0 + 73) (b 2) ∧ C.length ≤ j ∧ u 19 = ((rBit s : Nat) : Int) ∧ rTs c0 (b 2) C s
def rG (c0 : Nat) (u v : Nat → Int) (b e : Nat → Nat → Int) : Prop := (∀ k : Nat, ¬ (7 ≤ k ∧ k ≤ 11) → ¬ (13 ≤ k ∧ k ≤ 14) → ¬ (16 ≤ k ∧ k ≤ 19) → v k = u k) ∧ (∀ k : Nat, ¬ k = 2 → ¬ k = 15 → e k = b k) ∧ ∀ i : Nat, (i < c0 ∨ c0 + 681 ≤ i) → e 2 i = b 2 i
theorem rG_tr {c0 : Nat} {u v x : Nat → Int} {b e f : Nat → Nat → Int} (h : rG c0 u v b e) (g : rG c0 v x e f) : rG c0 u x b f := ⟨fun k h1 h2 h3 => (g.1 k h1 h2 h3).trans (h.1 k h1 h2 h3), fun k h1 h2 => (g.2.1 k h1 h2).trans (h.2.1 k h1 h2), fun i hi => (g.2.2 i hi).trans (h.2.2 i hi)⟩
theorem rLw_m {c0 : Nat} {f g : Nat → Int} {C D : List (Int × Int)} {Lc : List (Int × Int × Int)} {q : Int} {z : Option Ex} {x : Int × Int × Int} (h : rLw c0 f C Lc q z) (hx : ¬ x.1 = q) (e : ∀ i : Nat, c0 + 1 ≤ i → i < c0 + 1 + 3 * Lc.length → g i = f i) : rLw c0 g (C ++ D) (Lc ++ [x]) q z := by
  have hl : (Lc ++ [x]).length = Lc.length + 1 := by rw [List.length_append]; rfl
  cases z with
  | none =>
    intro k hk
    rw [hl] at hk
    by_cases y : k = Lc.length
    · rw [y, gTk_e]; exact hx
    · rw [gTk_l (by omega)]; exact h k (by omega)
  | some y =>
    obtain ⟨k, C0, C1, h1, h2, h3, h4, h5, h6⟩ := h
    refine ⟨k, C0, C1 ++ D, by omega, by rw [gTk_l h1]; exact h2, fun j hj hq => ?_, (e _ (by omega) (by omega)).trans h4, (e _ (by omega) (by omega)).trans h5, by rw [h6, List.append_assoc]⟩
    rw [hl] at hj
    by_cases y2 : j = Lc.length
    · rw [y2, gTk_e] at hq; exact absurd hq hx
    · rw [gTk_l (by omega)] at hq; exact h3 j (by omega) hq
theorem rLw_n {c0 : Nat} {g : Nat → Int} {C : List (Int × Int)} {Lc : List (Int × Int × Int)} {q : Int} {x : Int × Int × Int} {y : Ex} (h : rLw c0 g C Lc q none) (hx : x.1 = q) (h1 : g (c0 + 1 + 3 * Lc.length + 1) = ((C.length : Nat) : Int)) (h2 : g (c0 + 1 + 3 * Lc.length + 2) = (((C ++ post y).length : Nat) : Int)) : rLw c0 g (C ++ post y) (Lc ++ [x]) q (some y) := by
  have hl : (Lc ++ [x]).length = Lc.length + 1 := by rw [List.length_append]; rfl
  refine ⟨Lc.length, C, [], by omega, by rw [gTk_e]; exact hx, fun j hj hq => ?_, h1, h2, (List.append_nil _).symm⟩
  rw [hl] at hj
  by_cases y2 : j = Lc.length
  · exact y2
  · rw [gTk_l (by omega)] at hq; exact absurd hq (h j (by omega))
theorem rTs_c {c0 : Nat} {f g : Nat → Int} {C : List (Int × Int)} {s : Rs} {x : Int × Int × Int} (h : rTs c0 f C s) (h24 : s.1.length < 24) (e : ∀ i : Nat, c0 + 1 ≤ i → i < c0 + 1 + 3 * s.1.length → g i = f i) (hg : g (c0 + 1 + 3 * s.1.length) = x.1) (hx : 0 ≤ x.1 ∧ x.1 ≤ 5) (h1 : 2 ≤ x.1 → g (c0 + 1 + 3 * s.1.length + 1) = x.2.1 ∧ 0 ≤ x.2.1 ∧ x.2.1 ≤ 30) (h2 : x.1 = 2 ∨ x.1 = 4 → g (c0 + 1 + 3 * s.1.length + 2) = x.2.2 ∧ 0 ≤ x.2.2 ∧ x.2.2 ≤ 30) : ∀ k : Nat, k < (s.1 ++ [x]).length → g (c0 + 1 + 3 * k) = (gTk (s.1 ++ [x]) k).1 ∧ (0 ≤ (gTk (s.1 ++ [x]) k).1 ∧ (gTk (s.1 ++ [x]) k).1 ≤ 5) ∧ (2 ≤ (gTk (s.1 ++ [x]) k).1 → g (c0 + 1 + 3 * k + 1) = (gTk (s.1 ++ [x]) k).2.1 ∧ 0 ≤ (gTk (s.1 ++ [x]) k).2.1 ∧ (gTk (s.1 ++ [x]) k).2.1 ≤ 30) ∧ ((gTk (s.1 ++ [x]) k).1 = 2 ∨ (gTk (s.1 ++ [x]) k).1 = 4 → g (c0 + 1 + 3 * k + 2) = (gTk (s.1 ++ [x]) k).2.2 ∧ 0 ≤ (gTk (s.1 ++ [x]) k).2.2 ∧ (gTk (s.1 ++ [x]) k).2.2 ≤ 30) := by
  intro k hk
  rw [List.length_append] at hk
  have hk2 : k < s.1.length + 1 := hk
  by_cases y : k = s.1.length
  · rw [y, gTk_e]
    exact ⟨hg, hx, h1, h2⟩
  · rw [gTk_l (by omega)]
    obtain ⟨q1, q2, q3, q4⟩ := h.2.2.1 k (by omega)
    exact ⟨(e _ (by omega) (by omega)).trans q1, q2, fun z => ⟨(e _ (by omega) (by omega)).trans (q3 z).1, (q3 z).2⟩, fun z => ⟨(e _ (by omega) (by omega)).trans (q4 z).1, (q4 z).2⟩⟩
set_option maxHeartbeats 4000000 in
set_option maxRecDepth 100000 in
theorem kX11_bodyD (l : Launch) (G : GT) (o : Nat) (am : Nat → Nat) (u a : Nat → Int) (b : Nat → Nat → Int) (t j : Nat) (hb : ∀ k : Nat, k < 300 → 0 ≤ b 3 k ∧ b 3 k < 256) (ht : t ≤ 300) (hT : isTk (b 3) t j u) (x : Nat) (hx : x + 2 < 2724) (z : Int) (hz : 2 ≤ z ∧ z ≤ 5) : Ctr l G yX11_body cX11_body 3 ((Option.some Jvm.ClassFile.FieldType.int)) 11 0 0 [vr o, vi z, vi ((x : Nat) : Int)] (fun w => isM o am u a b w) (fun w r w' => QD2 o am u a b t x z r w' (pBo (tkL (b 3) t) z j)) := by
  refine Ctr.of (t := tX11_body) (lv0 := [some (vr o), some (vi z), some (vi ((x : Nat) : Int))]) (by decide +kernel) tX11_body_ok rfl rfl (fun w g hM M => ?_)
  refine M.run 1 (pc' := 1) (lv' := [some (vr o), some (vi z), some (vi ((x : Nat) : Int))]) (st' := [vi z]) rfl ?_
  rcases (show z = 2 ∨ z = 3 ∨ z = 4 ∨ z = 5 by omega) with rfl | rfl | rfl | rfl
  · refine M.tswIn (tgt := 32) (off := 31) rfl (qI (by decide)) (by decide) (by decide) rfl (by decide) ?_
    refine M.run 2 (pc' := 34) (lv' := [some (vr o), some (vi 2), some (vi ((x : Nat) : Int))]) (st' := [vi ((x : Nat) : Int), vr o]) rfl ?_
    refine M.callV (kX11_blockClause l G o am u a b t j hb ht hT x hx) cv_X11_218 cd_X11_blockClause rfl (st := []) rfl (isM_o hM) (by decide) (by decide) rfl (Nat.zero_le _) (Nat.zero_le _) hM (fun rc wc qc => ?_)
    rcases hE : pBo (tkL (b 3) t) 2 j with ⟨y, k⟩ | ⟨f, k⟩
    · rw [hE] at qc
      obtain ⟨q1, q2⟩ := qc
      rw [q1]
      refine M.iret rfl (Nat.zero_le _) (Nat.zero_le _) ?_
      rw [hE]
      exact ⟨rfl, q2⟩
    · rw [hE] at qc
      obtain ⟨q1, q2⟩ := qc
      rw [q1]
      refine M.iret rfl (Nat.zero_le _) (Nat.zero_le _) ?_
      rw [hE]
      exact ⟨rfl, q2⟩
  · refine M.tswIn (tgt := 38) (off := 37) rfl (qI (by decide)) (by decide) (by decide) rfl (by decide) ?_
    refine M.run 6 (pc' := 44) (lv' := [some (vr o), some (vi 3), some (vi ((x : Nat) : Int))]) (st' := [vi 2, vi 0, vi ((x + 1 : Nat) : Int), vr o]) rfl ?_
    have hpb : pBo (tkL (b 3) t) 3 j = dB (pNum (tkL (b 3) t) 0 2 j) (fun a k => .inl ((a, 0), k)) := (if_neg (by decide)).trans (if_pos rfl)
    refine M.callV (kX11_figure l G o am u a b t (j) (hb) ht (hT) (x + 1) (by omega) 0 2 (by omega) (by omega)) cv_X11_214 cd_X11_figure rfl (st := []) rfl (isM_o hM) (by decide) (by decide) rfl (Nat.zero_le _) (Nat.zero_le _) hM (fun rf wf qf => ?_)
    rcases hE : pNum (tkL (b 3) t) 0 2 j with ⟨y, k⟩ | ⟨f, k⟩
    · rw [hE] at qf hpb
      obtain ⟨q1, q2, q3, v, hM2, hT2, hk⟩ := qf
      rw [q1]
      refine M.iret rfl (Nat.zero_le _) (Nat.zero_le _) ?_
      rw [hpb]
      exact ⟨rfl, by show (0 ≤ y ∧ y ≤ 30) ∧ (0 : Int) ≤ 0 ∧ (0 : Int) ≤ 30; omega, v, _, hM2, hT2, hk, fun i hi => if_neg hi, fun i h1 _ => uN_o h1, uN_s _ _ _, fun z => absurd z (by decide)⟩
    · rw [hE] at qf hpb
      obtain ⟨q1, q2, q3, q4⟩ := qf
      rw [q1, q4]
      refine M.iret rfl (Nat.zero_le _) (Nat.zero_le _) ?_
      rw [hpb]
      exact ⟨rfl, q2, u, b, hM, by rw [q3]; exact hT, fun _ _ => rfl, fun _ _ => rfl, fun _ _ _ => rfl⟩
  · refine M.tswIn (tgt := 48) (off := 47) rfl (qI (by decide)) (by decide) (by decide) rfl (by decide) ?_
    refine M.run 2 (pc' := 50) (lv' := [some (vr o), some (vi 4), some (vi ((x : Nat) : Int))]) (st' := [vi ((x : Nat) : Int), vr o]) rfl ?_
    refine M.callV (kX11_cancelClause l G o am u a b t j hb ht hT x hx) cv_X11_221 cd_X11_cancelClause rfl (st := []) rfl (isM_o hM) (by decide) (by decide) rfl (Nat.zero_le _) (Nat.zero_le _) hM (fun rc wc qc => ?_)
    rcases hE : pBo (tkL (b 3) t) 4 j with ⟨y, k⟩ | ⟨f, k⟩
    · rw [hE] at qc
      obtain ⟨q1, q2⟩ := qc
      rw [q1]
      refine M.iret rfl (Nat.zero_le _) (Nat.zero_le _) ?_
      rw [hE]
      exact ⟨rfl, q2⟩
    · rw [hE] at qc
      obtain ⟨q1, q2⟩ := qc
      rw [q1]
      refine M.iret rfl (Nat.zero_le _) (Nat.zero_le _) ?_
      rw [hE]
      exact ⟨rfl, q2⟩
  · refine M.tswIn (tgt := 54) (off := 53) rfl (qI (by decide)) (by decide) (by decide) rfl (by decide) ?_
    refine M.run 6 (pc' := 61) (lv' := [some (vr o), some (vi 5), some (vi ((x : Nat) : Int))]) (st' := [vi 30, vi 1, vi ((x + 1 : Nat) : Int), vr o]) rfl ?_
    have hpb : pBo (tkL (b 3) t) 5 j = dB (pNum (tkL (b 3) t) 1 30 j) (fun a k => .inl ((a, 0), k)) := (if_neg (by decide)).trans ((if_neg (by decide)).trans (if_neg (by decide)))
    refine M.callV (kX11_figure l G o am u a b t (j) (hb) ht (hT) (x + 1) (by omega) 1 30 (by omega) (by omega)) cv_X11_214 cd_X11_figure rfl (st := []) rfl (isM_o hM) (by decide) (by decide) rfl (Nat.zero_le _) (Nat.zero_le _) hM (fun rf wf qf => ?_)
    rcases hE : pNum (tkL (b 3) t) 1 30 j with ⟨y, k⟩ | ⟨f, k⟩
    · rw [hE] at qf hpb
      obtain ⟨q1, q2, q3, v, hM2, hT2, hk⟩ := qf
      rw [q1]
      refine M.iret rfl (Nat.zero_le _) (Nat.zero_le _) ?_
      rw [hpb]
      exact ⟨rfl, by show (0 ≤ y ∧ y ≤ 30) ∧ (0 : Int) ≤ 0 ∧ (0 : Int) ≤ 30; omega, v, _, hM2, hT2, hk, fun i hi => if_neg hi, fun i h1 _ => uN_o h1, uN_s _ _ _, fun z => absurd z (by decide)⟩
    · rw [hE] at qf hpb
      obtain ⟨q1, q2, q3, q4⟩ := qf
      rw [q1, q4]
      refine M.iret rfl (Nat.zero_le _) (Nat.zero_le _) ?_
      rw [hpb]
      exact ⟨rfl, q2, u, b, hM, by rw [q3]; exact hT, fun _ _ => rfl, fun _ _ => rfl, fun _ _ _ => rfl⟩
set_option maxHeartbeats 4000000 in
set_option maxRecDepth 100000 in
theorem kX11_bodyL (l : Launch) (G : GT) (o : Nat) (am : Nat → Nat) (u a : Nat → Int) (b : Nat → Nat → Int) (t j : Nat) (hb : ∀ k : Nat, k < 300 → 0 ≤ b 3 k ∧ b 3 k < 256) (ht : t ≤ 300) (hT : isTk (b 3) t j u) (c0 : Nat) (C : List (Int × Int)) (ly : Int) (hly : ly = 0 ∨ ly = 1) (h14 : u 14 = ly) (h12 : u 12 = ((c0 : Nat) : Int)) (h13 : u 13 = ((C.length : Nat) : Int)) (hC : rCl C (c0 + 73) (b 2)) (hcj : C.length ≤ j) (hc0 : c0 ≤ 2043) (x : Nat) (hx : c0 + 1 ≤ x ∧ x + 2 < c0 + 73) (z : Int) (hz : z = 0 ∨ z = 1) : Ctr l G yX11_body cX11_body 3 ((Option.some Jvm.ClassFile.FieldType.int)) 11 0 0 [vr o, vi z, vi ((x : Nat) : Int)] (fun w => isM o am u a b w) (fun w r w' => QL2 o am u a b t c0 x C r w' ((pLv (tkL (b 3) t) ly 8).2.1 j)) := by
  refine Ctr.of (t := tX11_body) (lv0 := [some (vr o), some (vi z), some (vi ((x : Nat) : Int))]) (by decide +kernel) tX11_body_ok rfl rfl (fun w g hM M => ?_)
  refine M.run 1 (pc' := 1) (lv' := [some (vr o), some (vi z), some (vi ((x : Nat) : Int))]) (st' := [vi z]) rfl ?_
  refine M.tswOut (tgt := 65) rfl (qI (by omega)) (by omega) (by decide) ?_
  refine M.run 2 (pc' := 67) (lv' := [some (vr o), some (vi z), some (vi ((x : Nat) : Int))]) (st' := [vi ((x : Nat) : Int), vr o]) rfl ?_
  refine M.callV (kX11_lawClause l G o am u a b t j hb ht hT c0 C ly hly h14 h12 h13 hC hcj hc0 x hx) cv_X11_224 cd_X11_lawClause rfl (st := []) rfl (isM_o hM) (by decide) (by decide) rfl (Nat.zero_le _) (Nat.zero_le _) hM (fun rc wc qc => ?_)
  rcases hE : (pLv (tkL (b 3) t) ly 8).2.1 j with ⟨y, k⟩ | ⟨f, k⟩
  · rw [hE] at qc
    obtain ⟨q1, q2⟩ := qc
    rw [q1]
    refine M.iret rfl (Nat.zero_le _) (Nat.zero_le _) ?_
    rw [hE]
    exact ⟨rfl, q2⟩
  · rw [hE] at qc
    obtain ⟨q1, q2⟩ := qc
    rw [q1]
    refine M.iret rfl (Nat.zero_le _) (Nat.zero_le _) ?_
    rw [hE]
    exact ⟨rfl, q2⟩
/-- what a clause leaves -/
def QC2 (o : Nat) (am : Nat → Nat) (u a : Nat → Int) (b : Nat → Nat → Int) (t c0 : Nat) (r : Option AV) (w' : Wo) : Rr → Prop
  | .inl (s, k) => r = some (vi 0) ∧ ∃ (v : Nat → Int) (e : Nat → Nat → Int) (D : List (Int × Int)), isM o am v a e w' ∧ rCs t c0 s D k v e ∧ rG c0 u v b e
  | .inr (f, k) => r = some (vi f) ∧ (1 ≤ f ∧ f ≤ 6) ∧ ∃ (v : Nat → Int) (e : Nat → Nat → Int), isM o am v a e w' ∧ isTk (e 3) t k v ∧ rG c0 u v b e
theorem q1_4 : (1 : Int) ≤ 4 ∧ (4 : Int) ≤ 6 := by decide
theorem q1_6 : (1 : Int) ≤ 6 ∧ (6 : Int) ≤ 6 := by decide
theorem rBit_0 {s : Rs} {x : Nat} (hx : x ≤ 1) : Nat.testBit (rBit s) x = true ↔ agn s ((x : Nat) : Int) := by
  obtain ⟨L, p, q⟩ := s
  rcases (show x = 0 ∨ x = 1 by omega) with rfl | rfl
  · cases p <;> cases q <;> simp [rBit, agn] <;> decide
  · cases p <;> cases q <;> simp [rBit, agn] <;> decide
theorem rBit_a {s : Rs} {x : Nat} (hx : x ≤ 1) (h : ¬ agn s ((x : Nat) : Int)) (L : List (Int × Int × Int)) (e : Ex) : rBit s ||| (1 <<< x) = rBit (L, if ((x : Nat) : Int) = 0 then some e else s.2.1, if ((x : Nat) : Int) = 0 then s.2.2 else some e) := by
  obtain ⟨L2, p, q⟩ := s
  rcases (show x = 0 ∨ x = 1 by omega) with rfl | rfl
  · cases p with
    | none => cases q <;> simp [rBit]
    | some z => exact absurd (Or.inl ⟨rfl, rfl⟩) h
  · cases q with
    | none => cases p <;> simp [rBit]
    | some z => exact absurd (Or.inr ⟨rfl, rfl⟩) h
theorem rBit_b (s : Rs) : rBit s ≤ 3 := by unfold rBit; split <;> split <;> omega
theorem pNum_G {L : List (Int × Int × Int)} {lo hi y : Int} {j k : Nat} (h : pNum L lo hi j = .inl (y, k)) : k = j + 1 ∧ (gTk L j).1 = 50 := by
  unfold pNum at h
  split at h
  · split at h
    · cases h
      exact ⟨rfl, by assumption⟩
    · cases h
  · cases h
theorem pBo_G {L : List (Int × Int × Int)} {x : Int} {j k : Nat} {y : Int × Int} (hx51 : ∀ j : Nat, (gTk L j).1 ≠ 51 → j ≤ 300) (h : pBo L x j = .inl (y, k)) : j ≤ k ∧ k ≤ 301 := by
  unfold pBo at h
  have two : ∀ (lo hi w : Int) (F : Int → Nat → Int × Int), dB (pNum L lo hi j) (fun a k => .inl (F a k, k)) = .inl (y, k) → j ≤ k ∧ k ≤ 301 := by
    intro lo hi w F q
    rcases hE : pNum L lo hi j with ⟨a, k1⟩ | e
    · rw [hE] at q
      have z := pNum_G hE
      have z2 := hx51 j (by rw [z.2]; decide)
      cases q
      omega
    · rw [hE] at q
      cases q
  have thr : ∀ (lo hi w : Int) (G : Int → Int) (hi2 : Int), dB (pNum L lo hi j) (fun a k => if (gTk L k).1 = w then dB (pNum L (G a) hi2 (k + 1)) (fun b k2 => .inl ((a, b), k2)) else .inr (1, k)) = .inl (y, k) → j ≤ k ∧ k ≤ 301 := by
    intro lo hi w G hi2 q
    rcases hE : pNum L lo hi j with ⟨a, k1⟩ | e
    · rw [hE] at q
      have z := pNum_G hE
      have q2 : (if (gTk L k1).1 = w then dB (pNum L (G a) hi2 (k1 + 1)) (fun b k2 => .inl ((a, b), k2)) else .inr (1, k1) : Dr) = .inl (y, k) := q
      split at q2
      · rcases hE2 : pNum L (G a) hi2 (k1 + 1) with ⟨c, k3⟩ | e
        · rw [hE2] at q2
          have z3 := pNum_G hE2
          have z4 := hx51 (k1 + 1) (by rw [z3.2]; decide)
          cases q2
          omega
        · rw [hE2] at q2
          cases q2
      · cases q2
    · rw [hE] at q
      cases q
  split at h
  · exact thr 0 30 6 (fun a => max 1 a) 30 h
  · split at h
    · exact two 0 2 0 (fun a _ => (a, 0)) h
    · split at h
      · exact thr 0 2 7 (fun _ => 0) 1 h
      · exact two 1 30 0 (fun a _ => (a, 0)) h
set_option maxHeartbeats 4000000 in
set_option maxRecDepth 100000 in
theorem kX11_clause (l : Launch) (G : GT) (o : Nat) (am : Nat → Nat) (u a : Nat → Int) (b : Nat → Nat → Int) (t c0 : Nat) (hb : ∀ k : Nat, k < 300 → 0 ≤ b 3 k ∧ b 3 k < 256) (ht : t ≤ 300) (s : Rs) (C : List (Int × Int)) (j : Nat) (hR : rCs t c0 s C j u b) (hc0 : c0 ≤ 2043) : Ctr l G yX11_clause cX11_clause 5 ((Option.some Jvm.ClassFile.FieldType.int)) 12 0 0 [vr o] (fun w => isM o am u a b w) (fun w r w' => QC2 o am u a b t c0 r w' (pCla (tkL (b 3) t) s j)) := by
  refine Ctr.of (t := tX11_clause) (lv0 := [some (vr o), none, none, none, none]) (by decide +kernel) tX11_clause_ok rfl rfl (fun w g hM M => ?_)
  obtain ⟨i12, iT, i13, iC, iCj, i19, iTs⟩ := id hR
  obtain ⟨t1, t2, t3, t4, t5⟩ := id iTs
  have hbnd := tkL_B (b := b 3) hb ht j
  have hrb := rBit_b s
  have hQ : ∀ (r : Option AV) (w2 : Wo) (X : Rr), pCla (tkL (b 3) t) s j = X → QC2 o am u a b t c0 r w2 X → QC2 o am u a b t c0 r w2 (pCla (tkL (b 3) t) s j) := fun r w2 X h1 h2 => by rw [h1]; exact h2
  obtain ⟨X, hX⟩ : ∃ X : Nat, (gTk (tkL (b 3) t) j).1 = ((X : Nat) : Int) := ⟨((gTk (tkL (b 3) t) j).1).toNat, by omega⟩
  have rf : rG c0 u u b b := ⟨fun _ _ _ _ => rfl, fun _ _ _ => rfl, fun _ _ => rfl⟩
  refine M.run 1 (pc' := 1) (lv' := [some (vr o), none, none, none, none]) (st' := [vr o]) rfl ?_
  refine M.callV (kX11_sortOf l G o am u a b t j iT) cv_X11_227 cd_X11_sortOf rfl (st := []) rfl (isM_o hM) (by decide) (by decide) rfl (Nat.zero_le _) (Nat.zero_le _) hM (fun rs ws qs => ?_)
  rw [qs.1, qs.2, hX]
  by_cases h5 : X ≤ 5
  rotate_left
  · rw [if_neg (by omega)]
    refine M.run 2 (pc' := 6) (lv' := [some (vr o), some (vi (-1)), none, none, none]) (st' := [vi (-1)]) rfl ?_
    refine M.if_ge (tgt := 11) rfl (qI (by decide)) rfl (fun z => absurd z (by decide)) (fun _ => ?_)
    refine M.run 1 (pc' := 10) (lv' := [some (vr o), some (vi (-1)), none, none, none]) (st' := [vi 1]) rfl ?_
    exact M.iret rfl (Nat.zero_le _) (Nat.zero_le _) (hQ _ _ (.inr (1, j)) (if_pos (by omega)) ⟨rfl, q1_1, u, b, hM, iT, rf⟩)
  rw [if_pos (by omega)]
  have hp1 : ¬ 5 < (gTk (tkL (b 3) t) j).1 := by omega
  have A65 : ¬ agn s ((X : Nat) : Int) → s.1.length < 24 → ∀ (u1 : Nat → Int) (w1 : Wo) (nb : Nat), isM o am u1 a b w1 → (∀ k : Nat, ¬ k = 19 → u1 k = u k) → u1 19 = ((nb : Nat) : Int) → (2 ≤ X → nb = rBit s) → (X ≤ 1 → nb = rBit s ||| (1 <<< X)) → g 0 0 w1 65 [some (vr o), some (vi ((X : Nat) : Int)), some (vi ((s.1.length : Nat) : Int)), none, none] [] := by
    intro hag h24 u1 w1 nb hM1 hu1 hnb hnb2 hnb1
    have hpc : pCla (tkL (b 3) t) s j = if (gTk (tkL (b 3) t) j).1 = 0 ∨ (gTk (tkL (b 3) t) j).1 = 1 then pLaC (tkL (b 3) t) s (gTk (tkL (b 3) t) j).1 ((pLv (tkL (b 3) t) (gTk (tkL (b 3) t) j).1 8).2.1 (j + 1)) else pDeC s (gTk (tkL (b 3) t) j).1 (pDee (tkL (b 3) t) (gTk (tkL (b 3) t) j).1 (j + 1)) := (if_neg hp1).trans ((if_neg (by rw [hX]; exact hag)).trans (if_neg (by omega)))
    rw [hX] at hpc
    refine M.run 2 (pc' := 67) (lv' := [some (vr o), some (vi ((X : Nat) : Int)), some (vi ((s.1.length : Nat) : Int)), none, none]) (st' := [vi ((X : Nat) : Int), vr o]) rfl ?_
    refine M.put fl_X11_140 rfl (isM_o hM1) rfl rfl (Nat.le_of_ble_eq_true rfl) ?_
    have hMp1 := isM_setU (u' := uN u1 14 (((X : Nat) : Int))) (fs := (Mf am u1).set 14 (vi (((X : Nat) : Int)))) hM1 rfl
    generalize up w1 o (Ob 10 ((Mf am u1).set 14 (vi (((X : Nat) : Int))))) = wp1 at hMp1 ⊢
    refine M.run 1 (pc' := 71) (lv' := [some (vr o), some (vi ((X : Nat) : Int)), some (vi ((s.1.length : Nat) : Int)), none, none]) (st' := [vr o]) rfl ?_
    have iT1 : isTk (b 3) t j (uN u1 14 (((X : Nat) : Int))) := isTk_u iT (fun k hk => (uN_o (by omega)).trans (hu1 k (by omega)))
    refine M.callV (kX11_nextT l G o am (uN u1 14 (((X : Nat) : Int))) a b t j hb ht iT1 (by omega)) cv_X11_163 cd_X11_nextToken rfl (st := []) rfl (isM_o hMp1) (by decide) (by decide) rfl (Nat.zero_le _) (Nat.zero_le _) hMp1 (fun rn wn qn => ?_)
    obtain ⟨qn1, v, hM2, hT2, hk⟩ := qn
    rw [qn1]
    have k12 : v 12 = ((c0 : Nat) : Int) := (hk 12 (by decide)).trans ((hu1 12 (by decide)).trans i12)
    have k13 : v 13 = ((C.length : Nat) : Int) := (hk 13 (by decide)).trans ((hu1 13 (by decide)).trans i13)
    have k14 : v 14 = ((X : Nat) : Int) := (hk 14 (by decide)).trans rfl
    have k19 : v 19 = ((nb : Nat) : Int) := (hk 19 (by decide)).trans hnb
    have hGv : rG c0 u v b b := ⟨fun k h1 h2 h3 => (hk k h1).trans ((uN_o (by omega)).trans (hu1 k (by omega))), fun _ _ _ => rfl, fun _ _ => rfl⟩
    refine M.run 1 (pc' := 75) (lv' := [some (vr o), some (vi ((X : Nat) : Int)), some (vi ((s.1.length : Nat) : Int)), none, none]) (st' := [vr o]) rfl ?_
    refine M.get fl_X11_130 rfl (isM_o hM2) (kf := 12) (v := vi (v 12)) rfl ?_
    rw [k12]
    generalize hx : c0 + 1 + 3 * s.1.length = x at *
    refine M.run 7 (pc' := 85) (lv' := [some (vr o), some (vi ((X : Nat) : Int)), some (vi ((s.1.length : Nat) : Int)), some (vi ((c0 + 1 + 3 * s.1.length : Nat) : Int)), none]) (st' := []) rfl ?_
    rw [hx]
    refine M.run 1 (pc' := 86) (lv' := [some (vr o), some (vi ((X : Nat) : Int)), some (vi ((s.1.length : Nat) : Int)), some (vi ((x : Nat) : Int)), none]) (st' := [vr o]) rfl ?_
    refine M.get fl_X11_16 rfl (isM_o hM2) (kf := 2) (v := vr (am 2)) rfl ?_
    refine M.run 2 (pc' := 91) (lv' := [some (vr o), some (vi ((X : Nat) : Int)), some (vi ((s.1.length : Nat) : Int)), some (vi ((x : Nat) : Int)), none]) (st' := [vi ((X : Nat) : Int), vi ((x : Nat) : Int), vr (am 2)]) rfl ?_
    refine M.iastN (x) rfl (isM_2 hM2) (by omega) (by decide) ?_
    have hMp2 := isM_setB (k := 2) (t := 0) (n := 2724) hM2 (by decide) (uN (b 2) x (((X : Nat) : Int)))
    generalize up wn (am 2) (Ar 0 2724 (uN (b 2) x (((X : Nat) : Int)))) = wp2 at hMp2 ⊢
    refine M.run 3 (pc' := 95) (lv' := [some (vr o), some (vi ((X : Nat) : Int)), some (vi ((s.1.length : Nat) : Int)), some (vi ((x : Nat) : Int)), none]) (st' := [vi ((x : Nat) : Int), vi ((X : Nat) : Int), vr o]) rfl ?_
    have hC1 : rCl C (c0 + 73) ((uB b 2 (uN (b 2) x (((X : Nat) : Int)))) 2) := rCl_e iC (fun i h1 h2 => uN_o (by omega))
    have A108 : ∀ (v2 : Nat → Int) (e2 : Nat → Nat → Int) (w4 : Wo) (k : Nat) (s2 : Rs) (D : List (Int × Int)), isM o am v2 a e2 w4 → isTk (e2 3) t k v2 → e2 3 = b 3 → v2 12 = ((c0 : Nat) : Int) → e2 2 c0 = ((s.1.length : Nat) : Int) → rG c0 u v2 b e2 → v2 13 = ((D.length : Nat) : Int) → rCl D (c0 + 73) (e2 2) → D.length ≤ k → v2 19 = ((rBit s2 : Nat) : Int) → rTs c0 (uN (e2 2) c0 ((s.1.length + 1 : Nat) : Int)) D s2 → pCla (tkL (b 3) t) s j = (if (gTk (tkL (b 3) t) k).1 = 40 then .inl (s2, k + 1) else .inr (1, k)) → g 0 0 w4 108 [some (vr o), some (vi ((X : Nat) : Int)), some (vi ((s.1.length : Nat) : Int)), some (vi ((x : Nat) : Int)), some (vi 0)] [] := by
      intro v2 e2 w4 k s2 D hM4 hT4 e3 j12 jc0 hG j13 jC jl j19 jTs hpk
      refine M.run 1 (pc' := 109) (lv' := [some (vr o), some (vi ((X : Nat) : Int)), some (vi ((s.1.length : Nat) : Int)), some (vi ((x : Nat) : Int)), some (vi 0)]) (st' := [vr o]) rfl ?_
      refine M.get fl_X11_16 rfl (isM_o hM4) (kf := 2) (v := vr (am 2)) rfl ?_
      refine M.run 1 (pc' := 113) (lv' := [some (vr o), some (vi ((X : Nat) : Int)), some (vi ((s.1.length : Nat) : Int)), some (vi ((x : Nat) : Int)), some (vi 0)]) (st' := [vr o, vr (am 2)]) rfl ?_
      refine M.get fl_X11_130 rfl (isM_o hM4) (kf := 12) (v := vi (v2 12)) rfl ?_
      rw [j12]
      refine M.run 1 (pc' := 117) (lv' := [some (vr o), some (vi ((X : Nat) : Int)), some (vi ((s.1.length : Nat) : Int)), some (vi ((x : Nat) : Int)), some (vi 0)]) (st' := [vi ((c0 : Nat) : Int), vr (am 2), vi ((c0 : Nat) : Int), vr (am 2)]) rfl ?_
      refine M.ialdN (c0) rfl (isM_2 hM4) (by omega) (by decide) ?_
      rw [jc0]
      refine M.run 2 (pc' := 120) (lv' := [some (vr o), some (vi ((X : Nat) : Int)), some (vi ((s.1.length : Nat) : Int)), some (vi ((x : Nat) : Int)), some (vi 0)]) (st' := [vi ((s.1.length + 1 : Nat) : Int), vi ((c0 : Nat) : Int), vr (am 2)]) rfl ?_
      refine M.iastN (c0) rfl (isM_2 hM4) (by omega) (by decide) ?_
      have hMp3 := isM_setB (k := 2) (t := 0) (n := 2724) hM4 (by decide) (uN (e2 2) c0 (((s.1.length + 1 : Nat) : Int)))
      generalize up w4 (am 2) (Ar 0 2724 (uN (e2 2) c0 (((s.1.length + 1 : Nat) : Int)))) = wp3 at hMp3 ⊢
      have hT5 : isTk ((uB e2 2 (uN (e2 2) c0 (((s.1.length + 1 : Nat) : Int)))) 3) t k v2 := hT4
      have hG5 : rG c0 u v2 b (uB e2 2 (uN (e2 2) c0 (((s.1.length + 1 : Nat) : Int)))) := rG_tr hG ⟨fun _ _ _ _ => rfl, fun k h1 _ => if_neg h1, fun i hi => uN_o (by omega)⟩
      have hs := tk_s (v := 40) (by decide) hT4
      have hr2 := tk_r hT4
      rw [e3] at hs
      refine M.run 1 (pc' := 122) (lv' := [some (vr o), some (vi ((X : Nat) : Int)), some (vi ((s.1.length : Nat) : Int)), some (vi ((x : Nat) : Int)), some (vi 0)]) (st' := [vr o]) rfl ?_
      refine M.get fl_X11_91 rfl (isM_o hMp3) (kf := 9) (v := vi (v2 9)) rfl ?_
      refine M.run 1 (pc' := 127) (lv' := [some (vr o), some (vi ((X : Nat) : Int)), some (vi ((s.1.length : Nat) : Int)), some (vi ((x : Nat) : Int)), some (vi 0)]) (st' := [vi 59, vi (v2 9)]) rfl ?_
      refine M.icmp_eq (tgt := 132) rfl (qI (by omega)) (qI (by decide)) rfl (fun h59 => ?_) (fun h59 => ?_)
      · have h40 := hs.mp h59
        refine M.run 1 (pc' := 133) (lv' := [some (vr o), some (vi ((X : Nat) : Int)), some (vi ((s.1.length : Nat) : Int)), some (vi ((x : Nat) : Int)), some (vi 0)]) (st' := [vr o]) rfl ?_
        refine M.callV (kX11_nextT l G o am v2 a (uB e2 2 (uN (e2 2) c0 (((s.1.length + 1 : Nat) : Int)))) t k (by show ∀ k : Nat, k < 300 → 0 ≤ e2 3 k ∧ e2 3 k < 256; rw [e3]; exact hb) ht hT5 (by show ¬ (gTk (tkL (e2 3) t) k).1 = 51; rw [e3, h40]; decide)) cv_X11_163 cd_X11_nextToken rfl (st := []) rfl (isM_o hMp3) (by decide) (by decide) rfl (Nat.zero_le _) (Nat.zero_le _) hMp3 (fun rm wm qm => ?_)
        obtain ⟨qm1, v5, hM5, hT6, hk5⟩ := qm
        rw [qm1]
        refine M.run 1 (pc' := 137) (lv' := [some (vr o), some (vi ((X : Nat) : Int)), some (vi ((s.1.length : Nat) : Int)), some (vi ((x : Nat) : Int)), some (vi 0)]) (st' := [vi 0]) rfl ?_
        refine M.iret rfl (Nat.zero_le _) (Nat.zero_le _) (hQ _ _ (.inl (s2, k + 1)) (hpk.trans (if_pos h40)) ⟨rfl, v5, _, D, hM5, ⟨(hk5 12 (by decide)).trans j12, hT6, (hk5 13 (by decide)).trans j13, rCl_e jC (fun i h1 h2 => uN_o (by omega)), by omega, (hk5 19 (by decide)).trans j19, jTs⟩, rG_tr hG5 ⟨fun k h1 _ _ => hk5 k h1, fun _ _ _ => rfl, fun _ _ => rfl⟩⟩)
      · have h40 : ¬ (gTk (tkL (b 3) t) k).1 = 40 := fun z => h59 (hs.mpr z)
        refine M.run 1 (pc' := 131) (lv' := [some (vr o), some (vi ((X : Nat) : Int)), some (vi ((s.1.length : Nat) : Int)), some (vi ((x : Nat) : Int)), some (vi 0)]) (st' := [vi 1]) rfl ?_
        exact M.iret rfl (Nat.zero_le _) (Nat.zero_le _) (hQ _ _ (.inr (1, k)) (hpk.trans (if_neg h40)) ⟨rfl, q1_1, v2, _, hMp3, hT5, hG5⟩)
    by_cases h01 : X ≤ 1
    · rw [if_pos (by omega)] at hpc
      refine M.callV (kX11_bodyL l G o am v a (uB b 2 (uN (b 2) x (((X : Nat) : Int)))) t (j + 1) hb ht hT2 c0 C ((X : Nat) : Int) (by omega) k14 k12 k13 hC1 (by omega) hc0 x (by omega) ((X : Nat) : Int) (by omega)) cv_X11_233 cd_X11_body rfl (st := []) rfl (isM_o hMp2) (by decide) (by decide) rfl (Nat.zero_le _) (Nat.zero_le _) hMp2 (fun rb wb qb => ?_)
      rcases hE : (pLv (tkL (b 3) t) ((X : Nat) : Int) 8).2.1 (j + 1) with ⟨y, k⟩ | ⟨f, k⟩
      · have qb2 := qb
        rw [show (pLv (tkL ((uB b 2 (uN (b 2) x (((X : Nat) : Int)))) 3) t) ((X : Nat) : Int) 8).2.1 (j + 1) = _ from hE] at qb2
        rw [hE] at hpc
        obtain ⟨q1, v2, e2, hM4, hT4, hF4, ho4, l13, lC, ll, l301, lx1, lx2⟩ := qb2
        rw [q1]
        refine M.run 2 (pc' := 102) (lv' := [some (vr o), some (vi ((X : Nat) : Int)), some (vi ((s.1.length : Nat) : Int)), some (vi ((x : Nat) : Int)), some (vi 0)]) (st' := [vi 0]) rfl ?_
        refine M.if_eq (tgt := 108) rfl (qI (by decide)) rfl (fun _ => ?_) (fun z => absurd rfl z)
        have e3 : e2 3 = b 3 := (hF4.2.1 3 (by decide) (by decide))
        have ec : ∀ i : Nat, c0 ≤ i → i < x → e2 2 i = b 2 i := fun i h1 h2 => (ho4 i (Or.inl (by omega)) (by omega) (by omega)).trans (uN_o (by omega))
        have hG4 : rG c0 u v2 b e2 := rG_tr hGv ⟨fun k h1 h2 h3 => hF4.1 k h1 (by omega) (by omega), fun k h1 h2 => (show e2 k = b k from ((if_neg h1).symm.trans (hF4.2.1 k h1 h2)).trans (if_neg h1)), fun i hi => (ho4 i (by omega) (by omega) (by omega)).trans (uN_o (by omega))⟩
        have hne : ∀ q : Int, q = ((X : Nat) : Int) → (if q = 0 then s.2.1 else s.2.2) = none := fun q hq => by
          unfold agn at hag
          rcases (show X = 0 ∨ X = 1 by omega) with e | e
          · rw [hq, e, if_pos (show ((0 : Nat) : Int) = 0 from rfl)]; cases hz : s.2.1 with | none => rfl | some z => exact absurd (Or.inl ⟨by rw [e]; rfl, by rw [hz]; rfl⟩) hag
          · rw [hq, e, if_neg (by decide)]; cases hz : s.2.2 with | none => rfl | some z => exact absurd (Or.inr ⟨by rw [e]; rfl, by rw [hz]; rfl⟩) hag
        refine A108 v2 e2 wb k (s.1 ++ [(((X : Nat) : Int), 0, 0)], if ((X : Nat) : Int) = 0 then some y else s.2.1, if ((X : Nat) : Int) = 0 then s.2.2 else some y) (C ++ post y) hM4 hT4 e3 ((hF4.1 12 (by decide) (by decide) (by decide)).trans k12) ((ec c0 (Nat.le_refl _) (by omega)).trans t1) hG4 l13 lC ll ?_ ?_ hpc
        · rw [hF4.1 19 (by decide) (by decide) (by decide), k19, hnb1 h01]
          exact congrArg (fun n : Nat => ((n : Nat) : Int)) (rBit_a h01 hag _ y)
        · have hcell : ∀ i : Nat, c0 + 1 ≤ i → i < c0 + 1 + 3 * s.1.length → uN (e2 2) c0 ((s.1.length + 1 : Nat) : Int) i = b 2 i := fun i h1 h2 => (uN_o (by omega)).trans (ec i (by omega) (by omega))
          have hlx : uN (e2 2) c0 ((s.1.length + 1 : Nat) : Int) (c0 + 1 + 3 * s.1.length) = ((X : Nat) : Int) := by rw [hx, uN_o (by omega), ho4 x (Or.inl (by omega)) (by omega) (by omega)]; exact uN_s _ _ _
          have g1 : uN (e2 2) c0 ((s.1.length + 1 : Nat) : Int) (c0 + 1 + 3 * s.1.length + 1) = ((C.length : Nat) : Int) := by rw [hx, uN_o (by omega)]; exact lx1
          have g2 : uN (e2 2) c0 ((s.1.length + 1 : Nat) : Int) (c0 + 1 + 3 * s.1.length + 2) = (((C ++ post y).length : Nat) : Int) := by rw [hx, uN_o (by omega)]; exact lx2
          refine ⟨by rw [uN_s, List.length_append]; rfl, by rw [List.length_append]; exact h24, rTs_c iTs h24 hcell hlx (by show 0 ≤ ((X : Nat) : Int) ∧ ((X : Nat) : Int) ≤ 5; omega) (fun z => absurd (show 2 ≤ ((X : Nat) : Int) from z) (by omega)) (fun z => absurd (show ((X : Nat) : Int) = 2 ∨ ((X : Nat) : Int) = 4 from z) (by omega)), ?_, ?_⟩
          · show rLw c0 (uN (e2 2) c0 ((s.1.length + 1 : Nat) : Int)) (C ++ post y) (s.1 ++ [(((X : Nat) : Int), 0, 0)]) 0 (if ((X : Nat) : Int) = 0 then some y else s.2.1)
            by_cases e0 : X = 0
            · rw [if_pos (by omega)]
              have hn := hne 0 (by omega)
              rw [if_pos rfl] at hn
              rw [hn] at t4
              exact rLw_n (h := fun k hk => t4 k hk) (show ((X : Nat) : Int) = 0 by omega) g1 g2
            · rw [if_neg (by omega)]
              exact rLw_m t4 (show ¬ ((X : Nat) : Int) = 0 by omega) hcell
          · show rLw c0 (uN (e2 2) c0 ((s.1.length + 1 : Nat) : Int)) (C ++ post y) (s.1 ++ [(((X : Nat) : Int), 0, 0)]) 1 (if ((X : Nat) : Int) = 0 then s.2.2 else some y)
            by_cases e0 : X = 0
            · rw [if_pos (by omega)]
              exact rLw_m t5 (show ¬ ((X : Nat) : Int) = 1 by omega) hcell
            · rw [if_neg (by omega)]
              have hn := hne 1 (by omega)
              rw [if_neg (by decide)] at hn
              rw [hn] at t5
              exact rLw_n (h := fun k hk => t5 k hk) (show ((X : Nat) : Int) = 1 by omega) g1 g2
      · have qb2 := qb
        rw [show (pLv (tkL ((uB b 2 (uN (b 2) x (((X : Nat) : Int)))) 3) t) ((X : Nat) : Int) 8).2.1 (j + 1) = _ from hE] at qb2
        rw [hE] at hpc
        obtain ⟨q1, q2, v2, e2, hM4, hT4, hF4, ho4⟩ := qb2
        rw [q1]
        refine M.run 2 (pc' := 102) (lv' := [some (vr o), some (vi ((X : Nat) : Int)), some (vi ((s.1.length : Nat) : Int)), some (vi ((x : Nat) : Int)), some (vi f)]) (st' := [vi f]) rfl ?_
        refine M.if_eq (tgt := 108) rfl (qI (by omega)) rfl (fun z => absurd z (by omega)) (fun _ => ?_)
        refine M.run 1 (pc' := 107) (lv' := [some (vr o), some (vi ((X : Nat) : Int)), some (vi ((s.1.length : Nat) : Int)), some (vi ((x : Nat) : Int)), some (vi f)]) (st' := [vi f]) rfl ?_
        have hG4 : rG c0 u v2 b e2 := rG_tr hGv ⟨fun k h1 h2 h3 => hF4.1 k h1 (by omega) (by omega), fun k h1 h2 => (show e2 k = b k from ((if_neg h1).symm.trans (hF4.2.1 k h1 h2)).trans (if_neg h1)), fun i hi => (ho4 i (by omega) (by omega) (by omega)).trans (uN_o (by omega))⟩
        exact M.iret rfl (Nat.zero_le _) (Nat.zero_le _) (hQ _ _ (.inr (f, k)) hpc ⟨rfl, q2, v2, e2, hM4, hT4, hG4⟩)
    · rw [if_neg (by omega)] at hpc
      rw [pDee_B] at hpc
      refine M.callV (kX11_bodyD l G o am v a (uB b 2 (uN (b 2) x (((X : Nat) : Int)))) t (j + 1) hb ht hT2 x (by omega) ((X : Nat) : Int) (by omega)) cv_X11_233 cd_X11_body rfl (st := []) rfl (isM_o hMp2) (by decide) (by decide) rfl (Nat.zero_le _) (Nat.zero_le _) hMp2 (fun rb wb qb => ?_)
      rcases hE : pBo (tkL (b 3) t) ((X : Nat) : Int) (j + 1) with ⟨y, k⟩ | ⟨f, k⟩
      · have qb2 := qb
        rw [show pBo (tkL ((uB b 2 (uN (b 2) x (((X : Nat) : Int)))) 3) t) ((X : Nat) : Int) (j + 1) = _ from hE] at qb2
        rw [hE] at hpc
        obtain ⟨q1, q2, v2, e2, hM4, hT4, hk4, ho4, hc4, l1, l2⟩ := qb2
        rw [q1]
        refine M.run 2 (pc' := 102) (lv' := [some (vr o), some (vi ((X : Nat) : Int)), some (vi ((s.1.length : Nat) : Int)), some (vi ((x : Nat) : Int)), some (vi 0)]) (st' := [vi 0]) rfl ?_
        refine M.if_eq (tgt := 108) rfl (qI (by decide)) rfl (fun _ => ?_) (fun z => absurd rfl z)
        have e3 : e2 3 = b 3 := ho4 3 (by decide)
        have ec : ∀ i : Nat, i < x ∨ x + 2 < i → e2 2 i = b 2 i := fun i h1 => (hc4 i (by omega) (by omega)).trans (uN_o (by omega))
        have hG4 : rG c0 u v2 b e2 := rG_tr hGv ⟨fun k h1 h2 h3 => hk4 k h1, fun k h1 h2 => (ho4 k h1).trans (if_neg h1), fun i hi => ec i (by omega)⟩
        refine A108 v2 e2 wb k (s.1 ++ [(((X : Nat) : Int), y.1, y.2)], s.2.1, s.2.2) C hM4 hT4 e3 ((hk4 12 (by decide)).trans k12) ((ec c0 (by omega)).trans t1) hG4 ((hk4 13 (by decide)).trans k13) (rCl_e iC (fun i h1 h2 => ec i (by omega))) ?_ ?_ ?_ ?_
        · have z1 : isTk (e2 3) t k v2 := hT4
          exact (Nat.le_trans iCj (Nat.le_trans (Nat.le_succ j) (pBo_G (hx51 := tkL_51 (b := b 3) ht) hE).1))
        · rw [hk4 19 (by decide), k19, hnb2 (by omega)]
          rfl
        · have hcell : ∀ i : Nat, c0 + 1 ≤ i → i < c0 + 1 + 3 * s.1.length → uN (e2 2) c0 ((s.1.length + 1 : Nat) : Int) i = b 2 i := fun i h1 h2 => (uN_o (by omega)).trans (ec i (by omega))
          have hlx : uN (e2 2) c0 ((s.1.length + 1 : Nat) : Int) (c0 + 1 + 3 * s.1.length) = ((X : Nat) : Int) := by rw [hx, uN_o (by omega), hc4 x (by omega) (by omega)]; exact uN_s _ _ _
          have m4 := rLw_m (D := []) (x := (((X : Nat) : Int), y.1, y.2)) t4 (show ¬ ((X : Nat) : Int) = 0 by omega) hcell
          have m5 := rLw_m (D := []) (x := (((X : Nat) : Int), y.1, y.2)) t5 (show ¬ ((X : Nat) : Int) = 1 by omega) hcell
          rw [List.append_nil] at m4 m5
          refine ⟨by rw [uN_s, List.length_append]; rfl, by rw [List.length_append]; exact h24, rTs_c iTs h24 hcell hlx (by show 0 ≤ ((X : Nat) : Int) ∧ ((X : Nat) : Int) ≤ 5; omega) (fun _ => ⟨by rw [hx, uN_o (by omega)]; exact l1, q2.1⟩) (fun z => ⟨by rw [hx, uN_o (by omega)]; exact l2 z, q2.2⟩), m4, m5⟩
        · rw [hpc]
          show pDeC s _ (dF (tkL (b 3) t) y.1 y.2 k) = _
          unfold dF
          by_cases h40 : (gTk (tkL (b 3) t) k).1 = 40
          · rw [if_pos h40, if_pos h40]; rfl
          · rw [if_neg h40, if_neg h40]; rfl
      · have qb2 := qb
        rw [show pBo (tkL ((uB b 2 (uN (b 2) x (((X : Nat) : Int)))) 3) t) ((X : Nat) : Int) (j + 1) = _ from hE] at qb2
        rw [hE] at hpc
        obtain ⟨q1, q2, v2, e2, hM4, hT4, hk4, ho4, hc4⟩ := qb2
        rw [q1]
        refine M.run 2 (pc' := 102) (lv' := [some (vr o), some (vi ((X : Nat) : Int)), some (vi ((s.1.length : Nat) : Int)), some (vi ((x : Nat) : Int)), some (vi f)]) (st' := [vi f]) rfl ?_
        refine M.if_eq (tgt := 108) rfl (qI (by omega)) rfl (fun z => absurd z (by omega)) (fun _ => ?_)
        refine M.run 1 (pc' := 107) (lv' := [some (vr o), some (vi ((X : Nat) : Int)), some (vi ((s.1.length : Nat) : Int)), some (vi ((x : Nat) : Int)), some (vi f)]) (st' := [vi f]) rfl ?_
        have hG4 : rG c0 u v2 b e2 := rG_tr hGv ⟨fun k h1 h2 h3 => hk4 k h1, fun k h1 h2 => (ho4 k h1).trans (if_neg h1), fun i hi => (hc4 i (by omega) (by omega)).trans (uN_o (by omega))⟩
        exact M.iret rfl (Nat.zero_le _) (Nat.zero_le _) (hQ _ _ (.inr (f, k)) hpc ⟨rfl, q2, v2, e2, hM4, hT4, hG4⟩)
  have A29 : ¬ agn s ((X : Nat) : Int) → g 0 0 w 29 [some (vr o), some (vi ((X : Nat) : Int)), none, none, none] [] := by
    intro hag
    refine M.run 1 (pc' := 30) (lv' := [some (vr o), some (vi ((X : Nat) : Int)), none, none, none]) (st' := [vr o]) rfl ?_
    refine M.get fl_X11_16 rfl (isM_o hM) (kf := 2) (v := vr (am 2)) rfl ?_
    refine M.run 1 (pc' := 34) (lv' := [some (vr o), some (vi ((X : Nat) : Int)), none, none, none]) (st' := [vr o, vr (am 2)]) rfl ?_
    refine M.get fl_X11_130 rfl (isM_o hM) (kf := 12) (v := vi (u 12)) rfl ?_
    rw [i12]
    refine M.ialdN (c0) rfl (isM_2 hM) (by omega) (by decide) ?_
    rw [t1]
    refine M.run 3 (pc' := 42) (lv' := [some (vr o), some (vi ((X : Nat) : Int)), some (vi ((s.1.length : Nat) : Int)), none, none]) (st' := [vi 24, vi ((s.1.length : Nat) : Int)]) rfl ?_
    refine M.icmp_ne (tgt := 48) rfl (qI (by omega)) (qI (by decide)) rfl (fun hn => ?_) (fun hz => ?_)
    · have h24 : s.1.length < 24 := by omega
      refine M.run 2 (pc' := 50) (lv' := [some (vr o), some (vi ((X : Nat) : Int)), some (vi ((s.1.length : Nat) : Int)), none, none]) (st' := [vi 1, vi ((X : Nat) : Int)]) rfl ?_
      refine M.icmp_gt (tgt := 65) rfl (qI (by omega)) (qI (by decide)) rfl (fun hgt => A65 hag h24 u w (rBit s) hM (fun _ _ => rfl) i19 (fun _ => rfl) (fun z => absurd z (by omega))) (fun hle => ?_)
      refine M.run 2 (pc' := 55) (lv' := [some (vr o), some (vi ((X : Nat) : Int)), some (vi ((s.1.length : Nat) : Int)), none, none]) (st' := [vr o, vr o]) rfl ?_
      refine M.get fl_X11_230 rfl (isM_o hM) (kf := 19) (v := vi (u 19)) rfl ?_
      rw [i19]
      refine M.run 2 (pc' := 60) (lv' := [some (vr o), some (vi ((X : Nat) : Int)), some (vi ((s.1.length : Nat) : Int)), none, none]) (st' := [vi ((X : Nat) : Int), vi ((1 : Nat) : Int), vi ((rBit s : Nat) : Int), vr o]) rfl ?_
      refine M.ishl rfl (by omega) ?_
      have hsh : 1 <<< X ≤ 2 := by rcases (show X = 0 ∨ X = 1 by omega) with e | e <;> rw [e] <;> decide
      refine M.ior rfl (by omega) (by omega) ?_
      refine M.put fl_X11_230 rfl (isM_o hM) rfl rfl (Nat.le_of_ble_eq_true rfl) ?_
      have hMp4 := isM_setU (u' := uN u 19 (((rBit s ||| 1 <<< X : Nat) : Int))) (fs := (Mf am u).set 19 (vi (((rBit s ||| 1 <<< X : Nat) : Int)))) hM rfl
      generalize up w o (Ob 10 ((Mf am u).set 19 (vi (((rBit s ||| 1 <<< X : Nat) : Int))))) = wp4 at hMp4 ⊢
      exact A65 hag h24 _ _ (rBit s ||| 1 <<< X) hMp4 (fun k hk => uN_o hk) rfl (fun z => absurd z (by omega)) (fun _ => rfl)
    · skip
      refine M.run 1 (pc' := 47) (lv' := [some (vr o), some (vi ((X : Nat) : Int)), some (vi ((s.1.length : Nat) : Int)), none, none]) (st' := [vi 6]) rfl ?_
      exact M.iret rfl (Nat.zero_le _) (Nat.zero_le _) (hQ _ _ (.inr (6, j)) ((if_neg hp1).trans ((if_neg (by rw [hX]; exact hag)).trans (if_pos (by omega)))) ⟨rfl, q1_6, u, b, hM, iT, rf⟩)
  refine M.run 2 (pc' := 6) (lv' := [some (vr o), some (vi ((X : Nat) : Int)), none, none, none]) (st' := [vi ((X : Nat) : Int)]) rfl ?_
  refine M.if_ge (tgt := 11) rfl (qI (by omega)) rfl (fun _ => ?_) (fun z => absurd z (by omega))
  refine M.run 2 (pc' := 13) (lv' := [some (vr o), some (vi ((X : Nat) : Int)), none, none, none]) (st' := [vi 1, vi ((X : Nat) : Int)]) rfl ?_
  refine M.icmp_gt (tgt := 29) rfl (qI (by omega)) (qI (by decide)) rfl (fun hgt => A29 (fun z => by unfold agn at z; omega)) (fun hle => ?_)
  refine M.run 1 (pc' := 17) (lv' := [some (vr o), some (vi ((X : Nat) : Int)), none, none, none]) (st' := [vr o]) rfl ?_
  refine M.get fl_X11_230 rfl (isM_o hM) (kf := 19) (v := vi (u 19)) rfl ?_
  rw [i19]
  refine M.run 1 (pc' := 21) (lv' := [some (vr o), some (vi ((X : Nat) : Int)), none, none, none]) (st' := [vi ((X : Nat) : Int), vi ((rBit s : Nat) : Int)]) rfl ?_
  refine M.callS (kX11_has l G (rBit s) (by omega) X (by omega)) cs_X11_62 cd_X11_has rfl (st := []) rfl (by decide) (by decide) rfl (Nat.zero_le _) (Nat.zero_le _) trivial (fun rh wh qh => ?_)
  rw [qh.1, qh.2]
  have hbit := rBit_0 (s := s) (x := X) (by omega)
  refine M.if_eq (tgt := 29) rfl (qI (by have := zb_01 (Nat.testBit (rBit s) X); omega)) rfl (fun hz => A29 (fun z => by have y := hbit.mpr z; rw [y] at hz; exact absurd hz (by decide))) (fun hz => ?_)
  have hag := hbit.mp (zb_t hz)
  refine M.run 1 (pc' := 28) (lv' := [some (vr o), some (vi ((X : Nat) : Int)), none, none, none]) (st' := [vi 4]) rfl ?_
  exact M.iret rfl (Nat.zero_le _) (Nat.zero_le _) (hQ _ _ (.inr (4, j)) ((if_neg hp1).trans (if_pos (by rw [hX]; exact hag))) ⟨rfl, q1_4, u, b, hM, iT, rf⟩)
