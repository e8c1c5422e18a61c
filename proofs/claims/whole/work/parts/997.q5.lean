/-! the pile of the reference's reader -/
def rPl : List Int → (Nat → Int) → Prop
  | [], _ => True
  | o :: P, f => f P.length = o ∧ rPl P f
theorem rPl_e : ∀ (P : List Int) {f g : Nat → Int}, rPl P f → (∀ i : Nat, i < P.length → g i = f i) → rPl P g
  | [], f, g, _, _ => trivial
  | o :: P, f, g, h, e => ⟨(e P.length (by rw [List.length_cons]; omega)).trans h.1, rPl_e P h.2 (fun i hi => e i (by rw [List.length_cons]; omega))⟩
def rCl (C : List (Int × Int)) (c : Nat) (f : Nat → Int) : Prop := ∀ i : Nat, i < C.length → f (c + 2 * i) = (C.getD i (0, 0)).1 ∧ f (c + 2 * i + 1) = (C.getD i (0, 0)).2
theorem rCl_e {C : List (Int × Int)} {c : Nat} {f g : Nat → Int} (h : rCl C c f) (e : ∀ i : Nat, c ≤ i → i < c + 2 * C.length → g i = f i) : rCl C c g := fun i hi => ⟨(e _ (by omega) (by omega)).trans (h i hi).1, (e _ (by omega) (by omega)).trans (h i hi).2⟩
theorem rCl_a {C : List (Int × Int)} {c : Nat} {f : Nat → Int} {x : Int × Int} (h : rCl C c f) : rCl (C ++ [x]) c (uN (uN f (c + 2 * C.length) x.1) (c + 2 * C.length + 1) x.2) := fun i hi => by
  rw [List.length_append] at hi
  have hi2 : i < C.length + 1 := hi
  by_cases e : i = C.length
  · subst e
    rw [List.getD_eq_getElem?_getD, List.getElem?_append_right (Nat.le_refl _), Nat.sub_self]
    exact ⟨(uN_o (by omega)).trans (uN_s _ _ _), uN_s _ _ _⟩
  · rw [List.getD_eq_getElem?_getD, List.getElem?_append_left (by omega), ← List.getD_eq_getElem?_getD]
    obtain ⟨h1, h2⟩ := h i (by omega)
    exact ⟨(uN_o (by omega)).trans ((uN_o (by omega)).trans h1), (uN_o (by omega)).trans ((uN_o (by omega)).trans h2)⟩
/-- the reading's standing in the reference's fields and rows -/
def rS (t c0 : Nat) (P : List Int) (op : Int) (wh : Bool) (C : List (Int × Int)) (j : Nat) (u : Nat → Int) (b : Nat → Nat → Int) : Prop := u 12 = ((c0 : Nat) : Int) ∧ isTk (b 3) t j u ∧ u 16 = ((P.length : Nat) : Int) ∧ rPl P (b 15) ∧ (∀ o : Int, o ∈ P → 0 ≤ o ∧ o ≤ 43) ∧ u 17 = op ∧ u 18 = zb wh ∧ u 13 = ((C.length : Nat) : Int) ∧ rCl C (c0 + 73) (b 2)
abbrev rM (t c0 : Nat) (S : MS) (u : Nat → Int) (b : Nat → Nat → Int) : Prop := rS t c0 S.1 S.2.1 S.2.2.1 S.2.2.2.1 S.2.2.2.2 u b
/-- what reading leaves -/
def rF (c0 : Nat) (u v : Nat → Int) (b e : Nat → Nat → Int) : Prop := (∀ k : Nat, ¬ (7 ≤ k ∧ k ≤ 11) → ¬ k = 13 → ¬ (16 ≤ k ∧ k ≤ 18) → v k = u k) ∧ (∀ k : Nat, ¬ k = 2 → ¬ k = 15 → e k = b k) ∧ ∀ i : Nat, (i < c0 + 73 ∨ c0 + 681 ≤ i) → e 2 i = b 2 i
theorem rF_rf {c0 : Nat} {u : Nat → Int} {b : Nat → Nat → Int} : rF c0 u u b b := ⟨fun _ _ _ _ => rfl, fun _ _ _ => rfl, fun _ _ => rfl⟩
theorem rF_tr {c0 : Nat} {u v x : Nat → Int} {b e f : Nat → Nat → Int} (h : rF c0 u v b e) (g : rF c0 v x e f) : rF c0 u x b f := ⟨fun k h1 h2 h3 => (g.1 k h1 h2 h3).trans (h.1 k h1 h2 h3), fun k h1 h2 => (g.2.1 k h1 h2).trans (h.2.1 k h1 h2), fun i hi => (g.2.2 i hi).trans (h.2.2 i hi)⟩
theorem rF_u {c0 k : Nat} {u v : Nat → Int} {b e : Nat → Nat → Int} {x : Int} (h : rF c0 u v b e) (hk : (7 ≤ k ∧ k ≤ 11) ∨ k = 13 ∨ (16 ≤ k ∧ k ≤ 18)) : rF c0 u (uN v k x) b e := ⟨fun i h1 h2 h3 => (uN_o (by omega)).trans (h.1 i h1 h2 h3), h.2.1, h.2.2⟩
theorem rF_b {c0 : Nat} {u v : Nat → Int} {b e : Nat → Nat → Int} {f : Nat → Int} (h : rF c0 u v b e) : rF c0 u v b (uB e 15 f) := ⟨h.1, fun k h1 h2 => (if_neg h2).trans (h.2.1 k h1 h2), fun i hi => (h.2.2 i hi)⟩
theorem rF_k {c0 : Nat} {u v x : Nat → Int} {b e : Nat → Nat → Int} (h : rF c0 u v b e) (g : ∀ k : Nat, ¬ (7 ≤ k ∧ k ≤ 11) → x k = v k) : rF c0 u x b e := ⟨fun k h1 h2 h3 => (g k h1).trans (h.1 k h1 h2 h3), h.2.1, h.2.2⟩
def opI : List Int → Int
  | [] => -1
  | o :: P => if 40 ≤ o then ((P.length : Nat) : Int) else opI P
theorem opI_v : ∀ (P : List Int) {f : Nat → Int}, rPl P f → (opI P = -1 ∧ opnw P = -1) ∨ (0 ≤ opI P ∧ opI P < ((P.length : Nat) : Int) ∧ f (opI P).toNat = opnw P ∧ 40 ≤ opnw P)
  | [], f, _ => Or.inl ⟨rfl, rfl⟩
  | o :: P, f, h => by
    rw [List.length_cons]
    by_cases q : 40 ≤ o
    · rw [show opI (o :: P) = ((P.length : Nat) : Int) from if_pos q, show opnw (o :: P) = o from if_pos q]
      exact Or.inr ⟨by omega, by omega, h.1, q⟩
    · rw [show opI (o :: P) = opI P from if_neg q, show opnw (o :: P) = opnw P from if_neg q]
      rcases opI_v P h.2 with z | z
      · exact Or.inl z
      · exact Or.inr ⟨z.1, by omega, z.2.2⟩
theorem opnw_b : ∀ {P : List Int}, (∀ x : Int, x ∈ P → 0 ≤ x ∧ x ≤ 43) → opnw P = -1 ∨ (40 ≤ opnw P ∧ opnw P ≤ 43)
  | [], _ => Or.inl rfl
  | x :: Q, h => by
    have hx := h x List.mem_cons_self
    by_cases q : 40 ≤ x
    · rw [show opnw (x :: Q) = x from if_pos q]
      exact Or.inr ⟨q, hx.2⟩
    · rw [show opnw (x :: Q) = opnw Q from if_neg q]
      exact opnw_b (fun y hy => h y (List.mem_cons_of_mem _ hy))
theorem sTL_m {r : Int} : ∀ (P : List Int) (op : Int) (C : List (Int × Int)) (x : Int), x ∈ (sTL r P op C).1 → x ∈ P
  | [], op, C, x, h => h
  | o :: P, op, C, x, h => by
    by_cases q : r ≤ rkO o
    · rw [sTL_p q] at h
      exact List.mem_cons_of_mem _ (sTL_m P _ _ x h)
    · rw [show sTL r (o :: P) op C = (o :: P, op, C) from if_neg q] at h
      exact h
set_option maxHeartbeats 4000000 in
set_option maxRecDepth 100000 in
theorem kX11_openAt (l : Launch) (G : GT) (o : Nat) (am : Nat → Nat) (u a : Nat → Int) (b : Nat → Nat → Int) (P : List Int) (h16 : u 16 = ((P.length : Nat) : Int)) (hP : rPl P (b 15)) (hl : P.length ≤ 160) (hv : ∀ x : Int, x ∈ P → 0 ≤ x ∧ x ≤ 43) : Ctr l G yX11_openAt cX11_openAt 2 ((Option.some Jvm.ClassFile.FieldType.int)) 1 0 0 [vr o] (fun w => isM o am u a b w) (fun w r w' => r = some (vi (opI P)) ∧ w' = w) := by
  refine Ctr.of (t := tX11_openAt) (lv0 := [some (vr o), none]) (by decide +kernel) tX11_openAt_ok rfl rfl (fun w g hM M => ?_)
  refine M.run 1 (pc' := 1) (lv' := [some (vr o), none]) (st' := [vr o]) rfl ?_
  refine M.get fl_X11_143 rfl (isM_o hM) (kf := 16) (v := vi (u 16)) rfl ?_
  rw [h16]
  refine M.run 3 (pc' := 7) (lv' := [some (vr o), some (vi (((P.length : Nat) : Int) - 1))]) (st' := []) rfl ?_
  suffices hL : ∀ Q : List Int, rPl Q (b 15) → Q.length ≤ 160 → (∀ x : Int, x ∈ Q → 0 ≤ x ∧ x ≤ 43) → opI Q = opI P → g 0 0 w 7 [some (vr o), some (vi (((Q.length : Nat) : Int) - 1))] [] from hL P hP hl hv rfl
  intro Q
  induction Q with
  | nil =>
    intro _ _ _ he
    refine M.run 1 (pc' := 8) (lv' := [some (vr o), some (vi (((([] : List Int).length : Nat) : Int) - 1))]) (st' := [vi (((([] : List Int).length : Nat) : Int) - 1)]) rfl ?_
    refine M.if_lt (tgt := 28) rfl (qI (by decide)) rfl (fun _ => ?_) (fun q => absurd (by decide) q)
    refine M.run 1 (pc' := 29) (lv' := [some (vr o), some (vi (((([] : List Int).length : Nat) : Int) - 1))]) (st' := [vi (((([] : List Int).length : Nat) : Int) - 1)]) rfl ?_
    exact M.iret rfl (Nat.zero_le _) (Nat.zero_le _) ⟨by rw [← he]; rfl, rfl⟩
  | cons x Q ih =>
    intro hq hlq hvq he
    rw [List.length_cons] at hlq
    have hx := hvq x List.mem_cons_self
    rw [show ((((x :: Q).length : Nat) : Int) - 1) = ((Q.length : Nat) : Int) by rw [List.length_cons]; omega]
    refine M.run 1 (pc' := 8) (lv' := [some (vr o), some (vi ((Q.length : Nat) : Int))]) (st' := [vi ((Q.length : Nat) : Int)]) rfl ?_
    refine M.if_lt (tgt := 28) rfl (qI (by omega)) rfl (fun q => absurd q (by omega)) (fun _ => ?_)
    refine M.run 1 (pc' := 12) (lv' := [some (vr o), some (vi ((Q.length : Nat) : Int))]) (st' := [vr o]) rfl ?_
    refine M.get fl_X11_29 rfl (isM_o hM) (kf := 15) (v := vr (am 15)) rfl ?_
    refine M.run 1 (pc' := 16) (lv' := [some (vr o), some (vi ((Q.length : Nat) : Int))]) (st' := [vi ((Q.length : Nat) : Int), vr (am 15)]) rfl ?_
    refine M.ialdN (Q.length) rfl (isM_15 hM) (by omega) (by decide) ?_
    rw [hq.1]
    refine M.run 1 (pc' := 19) (lv' := [some (vr o), some (vi ((Q.length : Nat) : Int))]) (st' := [vi 40, vi x]) rfl ?_
    refine M.icmp_ge (tgt := 28) rfl (qI (by omega)) (qI (by decide)) rfl (fun h40 => ?_) (fun h40 => ?_)
    · skip
      refine M.run 1 (pc' := 29) (lv' := [some (vr o), some (vi ((Q.length : Nat) : Int))]) (st' := [vi ((Q.length : Nat) : Int)]) rfl ?_
      exact M.iret rfl (Nat.zero_le _) (Nat.zero_le _) ⟨by rw [← he, show opI (x :: Q) = ((Q.length : Nat) : Int) from if_pos h40], rfl⟩
    · skip
      refine M.run 2 (pc' := 7) (lv' := [some (vr o), some (vi (((Q.length : Nat) : Int) - 1))]) (st' := []) rfl ?_
      exact ih hq.2 (by omega) (fun y hy => hvq y (List.mem_cons_of_mem _ hy)) ((show opI (x :: Q) = opI Q from if_neg h40).symm.trans he)
set_option maxHeartbeats 4000000 in
set_option maxRecDepth 100000 in
theorem kX11_openNow (l : Launch) (G : GT) (o : Nat) (am : Nat → Nat) (u a : Nat → Int) (b : Nat → Nat → Int) (P : List Int) (h16 : u 16 = ((P.length : Nat) : Int)) (hP : rPl P (b 15)) (hl : P.length ≤ 160) (hv : ∀ x : Int, x ∈ P → 0 ≤ x ∧ x ≤ 43) : Ctr l G yX11_openNow cX11_openNow 1 ((Option.some Jvm.ClassFile.FieldType.int)) 2 0 0 [vr o] (fun w => isM o am u a b w) (fun w r w' => r = some (vi (opnw P)) ∧ w' = w) := by
  refine Ctr.of (t := tX11_openNow) (lv0 := [some (vr o)]) (by decide +kernel) tX11_openNow_ok rfl rfl (fun w g hM M => ?_)
  have hz := opI_v P hP
  refine M.run 1 (pc' := 1) (lv' := [some (vr o)]) (st' := [vr o]) rfl ?_
  refine M.callV (kX11_openAt l G o am u a b P h16 hP hl hv) cv_X11_156 cd_X11_openAt rfl (st := []) rfl (isM_o hM) (by decide) (by decide) rfl (Nat.zero_le _) (Nat.zero_le _) hM (fun r1 w1 q1 => ?_)
  rw [q1.1, q1.2]
  refine M.if_ge (tgt := 11) rfl (qI (by omega)) rfl (fun h0 => ?_) (fun h0 => ?_)
  · have hz2 := hz.resolve_left (by omega)
    obtain ⟨i, hi⟩ := Int.eq_ofNat_of_zero_le hz2.1
    refine M.run 1 (pc' := 12) (lv' := [some (vr o)]) (st' := [vr o]) rfl ?_
    refine M.get fl_X11_29 rfl (isM_o hM) (kf := 15) (v := vr (am 15)) rfl ?_
    refine M.run 1 (pc' := 16) (lv' := [some (vr o)]) (st' := [vr o, vr (am 15)]) rfl ?_
    refine M.callV (kX11_openAt l G o am u a b P h16 hP hl hv) cv_X11_156 cd_X11_openAt rfl (st := [vr (am 15)]) rfl (isM_o hM) (by decide) (by decide) rfl (Nat.zero_le _) (Nat.zero_le _) hM (fun r2 w2 q2 => ?_)
    rw [q2.1, q2.2]
    rw [hi] at hz2 ⊢
    refine M.ialdN (i) rfl (isM_15 hM) (by omega) (by decide) ?_
    have hv9 : b 15 i = opnw P := hz2.2.2.1
    rw [hv9]
    exact M.iret rfl (Nat.zero_le _) (Nat.zero_le _) ⟨rfl, rfl⟩
  · have hz2 := hz.resolve_right (by omega)
    refine M.run 2 (pc' := 20) (lv' := [some (vr o)]) (st' := [vi (-1)]) rfl ?_
    exact M.iret rfl (Nat.zero_le _) (Nat.zero_le _) ⟨by rw [hz2.2], rfl⟩
set_option maxHeartbeats 4000000 in
set_option maxRecDepth 100000 in
theorem kX11_isCompared (l : Launch) (G : GT) (o : Nat) (am : Nat → Nat) (u a : Nat → Int) (b : Nat → Nat → Int) (P : List Int) (h16 : u 16 = ((P.length : Nat) : Int)) (hP : rPl P (b 15)) (hl : P.length ≤ 160) (hv : ∀ x : Int, x ∈ P → 0 ≤ x ∧ x ≤ 43) : Ctr l G yX11_isCompared cX11_isCompared 2 ((Option.some Jvm.ClassFile.FieldType.boolean)) 2 0 0 [vr o] (fun w => isM o am u a b w) (fun w r w' => r = some (vi (zb (isCm P))) ∧ w' = w) := by
  refine Ctr.of (t := tX11_isCompared) (lv0 := [some (vr o), none]) (by decide +kernel) tX11_isCompared_ok rfl rfl (fun w g hM M => ?_)
  refine M.run 1 (pc' := 1) (lv' := [some (vr o), none]) (st' := [vr o]) rfl ?_
  refine M.get fl_X11_143 rfl (isM_o hM) (kf := 16) (v := vi (u 16)) rfl ?_
  rw [h16]
  refine M.run 3 (pc' := 7) (lv' := [some (vr o), some (vi (((P.length : Nat) : Int) - 1))]) (st' := []) rfl ?_
  suffices hL : ∀ Q : List Int, rPl Q (b 15) → Q.length ≤ 160 → (∀ x : Int, x ∈ Q → 0 ≤ x ∧ x ≤ 43) → isCm Q = isCm P → g 0 0 w 7 [some (vr o), some (vi (((Q.length : Nat) : Int) - 1))] [] from hL P hP hl hv rfl
  intro Q
  induction Q with
  | nil =>
    intro _ _ _ he
    refine M.run 1 (pc' := 8) (lv' := [some (vr o), some (vi (((([] : List Int).length : Nat) : Int) - 1))]) (st' := [vi (((([] : List Int).length : Nat) : Int) - 1)]) rfl ?_
    refine M.if_lt (tgt := 30) rfl (qI (by decide)) rfl (fun _ => ?_) (fun q => absurd (by decide) q)
    refine M.run 1 (pc' := 31) (lv' := [some (vr o), some (vi (((([] : List Int).length : Nat) : Int) - 1))]) (st' := [vi (((([] : List Int).length : Nat) : Int) - 1)]) rfl ?_
    refine M.if_lt (tgt := 51) rfl (qI (by decide)) rfl (fun _ => ?_) (fun q => absurd (by decide) q)
    refine M.run 1 (pc' := 52) (lv' := [some (vr o), some (vi (((([] : List Int).length : Nat) : Int) - 1))]) (st' := [vi 0]) rfl ?_
    exact M.zret rfl (Or.inl rfl) (Nat.zero_le _) (Nat.zero_le _) ⟨by rw [← he]; rfl, rfl⟩
  | cons x Q ih =>
    intro hq hlq hvq he
    rw [List.length_cons] at hlq
    have hx := hvq x List.mem_cons_self
    have hrb := rkO_b x
    rw [show ((((x :: Q).length : Nat) : Int) - 1) = ((Q.length : Nat) : Int) by rw [List.length_cons]; omega]
    refine M.run 1 (pc' := 8) (lv' := [some (vr o), some (vi ((Q.length : Nat) : Int))]) (st' := [vi ((Q.length : Nat) : Int)]) rfl ?_
    refine M.if_lt (tgt := 30) rfl (qI (by omega)) rfl (fun q => absurd q (by omega)) (fun _ => ?_)
    refine M.run 1 (pc' := 12) (lv' := [some (vr o), some (vi ((Q.length : Nat) : Int))]) (st' := [vr o]) rfl ?_
    refine M.get fl_X11_29 rfl (isM_o hM) (kf := 15) (v := vr (am 15)) rfl ?_
    refine M.run 1 (pc' := 16) (lv' := [some (vr o), some (vi ((Q.length : Nat) : Int))]) (st' := [vi ((Q.length : Nat) : Int), vr (am 15)]) rfl ?_
    refine M.ialdN (Q.length) rfl (isM_15 hM) (by omega) (by decide) ?_
    rw [hq.1]
    refine M.callS (kX11_rank l G x (by omega)) cs_X11_146 cd_X11_rank rfl (st := []) rfl (by decide) (by decide) rfl (Nat.zero_le _) (Nat.zero_le _) trivial (fun rr1 wr1 qr1 => ?_)
    rw [qr1.1, qr1.2]
    refine M.run 1 (pc' := 21) (lv' := [some (vr o), some (vi ((Q.length : Nat) : Int))]) (st' := [vi 4, vi (rkO x)]) rfl ?_
    refine M.icmp_le (tgt := 30) rfl (qI (by omega)) (qI (by decide)) rfl (fun h4 => ?_) (fun h4 => ?_)
    · have he2 : isCm P = decide (rkO x = 4) := by rw [← he]; exact if_neg (by omega)
      refine M.run 1 (pc' := 31) (lv' := [some (vr o), some (vi ((Q.length : Nat) : Int))]) (st' := [vi ((Q.length : Nat) : Int)]) rfl ?_
      refine M.if_lt (tgt := 51) rfl (qI (by omega)) rfl (fun q => absurd q (by omega)) (fun _ => ?_)
      refine M.run 1 (pc' := 35) (lv' := [some (vr o), some (vi ((Q.length : Nat) : Int))]) (st' := [vr o]) rfl ?_
      refine M.get fl_X11_29 rfl (isM_o hM) (kf := 15) (v := vr (am 15)) rfl ?_
      refine M.run 1 (pc' := 39) (lv' := [some (vr o), some (vi ((Q.length : Nat) : Int))]) (st' := [vi ((Q.length : Nat) : Int), vr (am 15)]) rfl ?_
      refine M.ialdN (Q.length) rfl (isM_15 hM) (by omega) (by decide) ?_
      rw [hq.1]
      refine M.callS (kX11_rank l G x (by omega)) cs_X11_146 cd_X11_rank rfl (st := []) rfl (by decide) (by decide) rfl (Nat.zero_le _) (Nat.zero_le _) trivial (fun rr2 wr2 qr2 => ?_)
      rw [qr2.1, qr2.2]
      refine M.run 1 (pc' := 44) (lv' := [some (vr o), some (vi ((Q.length : Nat) : Int))]) (st' := [vi 4, vi (rkO x)]) rfl ?_
      refine M.icmp_ne (tgt := 51) rfl (qI (by omega)) (qI (by decide)) rfl (fun h5 => ?_) (fun h5 => ?_)
      · skip
        refine M.run 1 (pc' := 52) (lv' := [some (vr o), some (vi ((Q.length : Nat) : Int))]) (st' := [vi 0]) rfl ?_
        exact M.zret rfl (Or.inl rfl) (Nat.zero_le _) (Nat.zero_le _) ⟨by rw [he2, decide_eq_false h5]; rfl, rfl⟩
      · skip
        refine M.run 2 (pc' := 52) (lv' := [some (vr o), some (vi ((Q.length : Nat) : Int))]) (st' := [vi 1]) rfl ?_
        exact M.zret rfl (Or.inr rfl) (Nat.zero_le _) (Nat.zero_le _) ⟨by rw [he2, decide_eq_true h5]; rfl, rfl⟩
    · skip
      refine M.run 2 (pc' := 7) (lv' := [some (vr o), some (vi (((Q.length : Nat) : Int) - 1))]) (st' := []) rfl ?_
      exact ih hq.2 (by omega) (fun y hy => hvq y (List.mem_cons_of_mem _ hy)) ((show isCm (x :: Q) = isCm Q from if_pos (by omega)).symm.trans he)
set_option maxHeartbeats 4000000 in
set_option maxRecDepth 100000 in
theorem kX11_isAskAhead (l : Launch) (G : GT) (o : Nat) (am : Nat → Nat) (u a : Nat → Int) (b : Nat → Nat → Int) (P : List Int) (h16 : u 16 = ((P.length : Nat) : Int)) (hP : rPl P (b 15)) (hl : P.length ≤ 160) (hv : ∀ x : Int, x ∈ P → 0 ≤ x ∧ x ≤ 43) : Ctr l G yX11_isAskAhead cX11_isAskAhead 1 ((Option.some Jvm.ClassFile.FieldType.boolean)) 3 0 0 [vr o] (fun w => isM o am u a b w) (fun w r w' => r = some (vi (zb (askA P))) ∧ w' = w) := by
  refine Ctr.of (t := tX11_isAskAhead) (lv0 := [some (vr o)]) (by decide +kernel) tX11_isAskAhead_ok rfl rfl (fun w g hM M => ?_)
  have hon := opnw_b hv
  refine M.run 1 (pc' := 1) (lv' := [some (vr o)]) (st' := [vr o]) rfl ?_
  refine M.callV (kX11_openNow l G o am u a b P h16 hP hl hv) cv_X11_160 cd_X11_openNow rfl (st := []) rfl (isM_o hM) (by decide) (by decide) rfl (Nat.zero_le _) (Nat.zero_le _) hM (fun r1 w1 q1 => ?_)
  rw [q1.1, q1.2]
  refine M.run 1 (pc' := 6) (lv' := [some (vr o)]) (st' := [vi 41, vi (opnw P)]) rfl ?_
  refine M.icmp_ne (tgt := 51) rfl (qI (by omega)) (qI (by decide)) rfl (fun h41 => ?_) (fun h41 => ?_)
  · skip
    refine M.run 1 (pc' := 52) (lv' := [some (vr o)]) (st' := [vi 0]) rfl ?_
    exact M.zret rfl (Or.inl rfl) (Nat.zero_le _) (Nat.zero_le _) ⟨by unfold askA; rw [decide_eq_false h41]; rfl, rfl⟩
  · cases P with
    | nil => exact absurd h41 (by decide)
    | cons x Q =>
      have hx := hv x List.mem_cons_self
      have hrb := rkO_b x
      rw [List.length_cons] at h16 hl
      have hA : askA (x :: Q) = (decide (40 ≤ x) || (decide (1 ≤ rkO x) && decide (rkO x ≤ 3))) := by unfold askA; rw [decide_eq_true h41]; rfl
      refine M.run 1 (pc' := 10) (lv' := [some (vr o)]) (st' := [vr o]) rfl ?_
      refine M.get fl_X11_29 rfl (isM_o hM) (kf := 15) (v := vr (am 15)) rfl ?_
      refine M.run 1 (pc' := 14) (lv' := [some (vr o)]) (st' := [vr o, vr (am 15)]) rfl ?_
      refine M.get fl_X11_143 rfl (isM_o hM) (kf := 16) (v := vi (u 16)) rfl ?_
      rw [h16]
      refine M.run 2 (pc' := 19) (lv' := [some (vr o)]) (st' := [vi (((Q.length + 1 : Nat) : Int) - 1), vr (am 15)]) rfl ?_
      rw [show (((Q.length + 1 : Nat) : Int) - 1) = ((Q.length : Nat) : Int) by omega]
      refine M.ialdN (Q.length) rfl (isM_15 hM) (by omega) (by decide) ?_
      rw [hP.1]
      refine M.run 1 (pc' := 22) (lv' := [some (vr o)]) (st' := [vi 40, vi x]) rfl ?_
      refine M.icmp_ge (tgt := 47) rfl (qI (by omega)) (qI (by decide)) rfl (fun h40 => ?_) (fun h40 => ?_)
      · skip
        refine M.run 2 (pc' := 52) (lv' := [some (vr o)]) (st' := [vi 1]) rfl ?_
        exact M.zret rfl (Or.inr rfl) (Nat.zero_le _) (Nat.zero_le _) ⟨by rw [hA, decide_eq_true h40]; rfl, rfl⟩
      · skip
        refine M.run 1 (pc' := 26) (lv' := [some (vr o)]) (st' := [vr o]) rfl ?_
        refine M.get fl_X11_29 rfl (isM_o hM) (kf := 15) (v := vr (am 15)) rfl ?_
        refine M.run 1 (pc' := 30) (lv' := [some (vr o)]) (st' := [vr o, vr (am 15)]) rfl ?_
        refine M.get fl_X11_143 rfl (isM_o hM) (kf := 16) (v := vi (u 16)) rfl ?_
        rw [h16]
        refine M.run 2 (pc' := 35) (lv' := [some (vr o)]) (st' := [vi (((Q.length + 1 : Nat) : Int) - 1), vr (am 15)]) rfl ?_
        rw [show (((Q.length + 1 : Nat) : Int) - 1) = ((Q.length : Nat) : Int) by omega]
        refine M.ialdN (Q.length) rfl (isM_15 hM) (by omega) (by decide) ?_
        rw [hP.1]
        refine M.callS (kX11_rank l G x (by omega)) cs_X11_146 cd_X11_rank rfl (st := []) rfl (by decide) (by decide) rfl (Nat.zero_le _) (Nat.zero_le _) trivial (fun rr2 wr2 qr2 => ?_)
        rw [qr2.1, qr2.2]
        refine M.run 2 (pc' := 41) (lv' := [some (vr o)]) (st' := [vi 3, vi 1, vi (rkO x)]) rfl ?_
        refine M.callS (kX11_isIn l G (rkO x) 1 3 (qI (by omega)) (qI (by decide)) (qI (by decide))) cs_X11_50 cd_X11_isIn rfl (st := []) rfl (by decide) (by decide) rfl (Nat.zero_le _) (Nat.zero_le _) trivial (fun ri wi qi => ?_)
        rw [qi.1, qi.2]
        refine M.if_eq (tgt := 51) rfl (qI (by have := zb_01 (decide (1 ≤ rkO x ∧ rkO x ≤ 3)); omega)) rfl (fun hz => ?_) (fun hz => ?_)
        · have y := zb_fd hz
          refine M.run 1 (pc' := 52) (lv' := [some (vr o)]) (st' := [vi 0]) rfl ?_
          exact M.zret rfl (Or.inl rfl) (Nat.zero_le _) (Nat.zero_le _) ⟨by rw [hA, decide_eq_false h40, show (decide (1 ≤ rkO x) && decide (rkO x ≤ 3)) = false from by rw [← Bool.not_eq_true, Bool.and_eq_true, decide_eq_true_eq, decide_eq_true_eq]; exact y]; rfl, rfl⟩
        · have y := zb_td hz
          refine M.run 2 (pc' := 52) (lv' := [some (vr o)]) (st' := [vi 1]) rfl ?_
          exact M.zret rfl (Or.inr rfl) (Nat.zero_le _) (Nat.zero_le _) ⟨by rw [hA, decide_eq_false h40, decide_eq_true y.1, decide_eq_true y.2]; rfl, rfl⟩
set_option maxHeartbeats 4000000 in
set_option maxRecDepth 100000 in
theorem kX11_settle (l : Launch) (G : GT) (o : Nat) (am : Nat → Nat) (u a : Nat → Int) (b : Nat → Nat → Int) (t c0 : Nat) (P : List Int) (op : Int) (wh : Bool) (C : List (Int × Int)) (j : Nat) (hR : rS t c0 P op wh C j u b) (hc0 : c0 ≤ 2043) (hn : C.length + P.length ≤ 303) (hl : P.length ≤ 160) (lv0 : Int) (hlv : 1 ≤ lv0 ∧ lv0 ≤ 7) : Ctr l G yX11_settle cX11_settle 2 ((Option.none : Option Jvm.ClassFile.FieldType)) 2 0 0 [vr o, vi lv0] (fun w => isM o am u a b w) (fun w r w' => r = none ∧ ∃ (v : Nat → Int) (e : Nat → Nat → Int), isM o am v a e w' ∧ rM t c0 (mkS (sTL lv0 P op C) wh j) v e ∧ rF c0 u v b e) := by
  refine Ctr.of (t := tX11_settle) (lv0 := [some (vr o), some (vi lv0)]) (by decide +kernel) tX11_settle_ok rfl rfl (fun w g hM M => ?_)
  suffices hL : ∀ (Q : List Int) (oq : Int) (D : List (Int × Int)) (v : Nat → Int) (e : Nat → Nat → Int) (wz : Wo), isM o am v a e wz → rS t c0 Q oq wh D j v e → D.length + Q.length ≤ 303 → Q.length ≤ 160 → rF c0 u v b e → sTL lv0 Q oq D = sTL lv0 P op C → g 0 0 wz 0 [some (vr o), some (vi lv0)] [] from hL P op C u b w hM hR hn hl rF_rf rfl
  intro Q
  induction Q with
  | nil =>
    intro oq D v e wz hM hq hdq hlq hF he
    obtain ⟨i12, iT, i16, iP, iv, i17, i18, i13, iC⟩ := id hq
    refine M.run 1 (pc' := 1) (lv' := [some (vr o), some (vi lv0)]) (st' := [vr o]) rfl ?_
    refine M.get fl_X11_143 rfl (isM_o hM) (kf := 16) (v := vi (v 16)) rfl ?_
    rw [i16]
    refine M.if_le (tgt := 93) rfl (qI (by decide)) rfl (fun _ => ?_) (fun q => absurd (by decide) q)
    exact M.vret rfl (Nat.zero_le _) (Nat.zero_le _) ⟨rfl, v, e, hM, by rw [← he]; exact hq, hF⟩
  | cons x Q ih =>
    intro oq D v e wz hM hq hdq hlq hF he
    obtain ⟨i12, iT, i16, iP, iv, i17, i18, i13, iC⟩ := id hq
    have hx := iv x List.mem_cons_self
    have hrb := rkO_b x
    rw [List.length_cons] at i16 hlq hdq
    refine M.run 1 (pc' := 1) (lv' := [some (vr o), some (vi lv0)]) (st' := [vr o]) rfl ?_
    refine M.get fl_X11_143 rfl (isM_o hM) (kf := 16) (v := vi (v 16)) rfl ?_
    rw [i16]
    refine M.if_le (tgt := 93) rfl (qI (by omega)) rfl (fun q => absurd q (by omega)) (fun _ => ?_)
    refine M.run 1 (pc' := 8) (lv' := [some (vr o), some (vi lv0)]) (st' := [vr o]) rfl ?_
    refine M.get fl_X11_29 rfl (isM_o hM) (kf := 15) (v := vr (am 15)) rfl ?_
    refine M.run 1 (pc' := 12) (lv' := [some (vr o), some (vi lv0)]) (st' := [vr o, vr (am 15)]) rfl ?_
    refine M.get fl_X11_143 rfl (isM_o hM) (kf := 16) (v := vi (v 16)) rfl ?_
    rw [i16]
    refine M.run 2 (pc' := 17) (lv' := [some (vr o), some (vi lv0)]) (st' := [vi (((Q.length + 1 : Nat) : Int) - 1), vr (am 15)]) rfl ?_
    rw [show (((Q.length + 1 : Nat) : Int) - 1) = ((Q.length : Nat) : Int) by omega]
    refine M.ialdN (Q.length) rfl (isM_15 hM) (by omega) (by decide) ?_
    rw [iP.1]
    refine M.callS (kX11_rank l G x (by omega)) cs_X11_146 cd_X11_rank rfl (st := []) rfl (by decide) (by decide) rfl (Nat.zero_le _) (Nat.zero_le _) trivial (fun rr1 wr1 qr1 => ?_)
    rw [qr1.1, qr1.2]
    refine M.run 1 (pc' := 22) (lv' := [some (vr o), some (vi lv0)]) (st' := [vi lv0, vi (rkO x)]) rfl ?_
    refine M.icmp_lt (tgt := 93) rfl (qI (by omega)) (qI (by omega)) rfl (fun hlt => ?_) (fun hlt => ?_)
    · exact M.vret rfl (Nat.zero_le _) (Nat.zero_le _) ⟨rfl, v, e, hM, by rw [← he, show sTL lv0 (x :: Q) oq D = (x :: Q, oq, D) from if_neg (by omega)]; exact hq, hF⟩
    · have he2 := (sTL_p (op := oq) (P := Q) (C := D) (show lv0 ≤ rkO x by omega)).symm.trans he
      refine M.run 2 (pc' := 27) (lv' := [some (vr o), some (vi lv0)]) (st' := [vr o, vr o]) rfl ?_
      refine M.get fl_X11_143 rfl (isM_o hM) (kf := 16) (v := vi (v 16)) rfl ?_
      rw [i16]
      refine M.run 2 (pc' := 32) (lv' := [some (vr o), some (vi lv0)]) (st' := [vi (((Q.length + 1 : Nat) : Int) - 1), vr o]) rfl ?_
      rw [show (((Q.length + 1 : Nat) : Int) - 1) = ((Q.length : Nat) : Int) by omega]
      refine M.put fl_X11_143 rfl (isM_o hM) rfl rfl (Nat.le_of_ble_eq_true rfl) ?_
      have hMp2 := isM_setU (u' := uN v 16 (((Q.length : Nat) : Int))) (fs := (Mf am v).set 16 (vi (((Q.length : Nat) : Int)))) hM rfl
      generalize up wz o (Ob 10 ((Mf am v).set 16 (vi (((Q.length : Nat) : Int))))) = wp2 at hMp2 ⊢
      refine M.run 2 (pc' := 37) (lv' := [some (vr o), some (vi lv0)]) (st' := [vr o, vr o]) rfl ?_
      refine M.get fl_X11_29 rfl (isM_o hMp2) (kf := 15) (v := vr (am 15)) rfl ?_
      refine M.run 1 (pc' := 41) (lv' := [some (vr o), some (vi lv0)]) (st' := [vr o, vr (am 15), vr o]) rfl ?_
      refine M.get fl_X11_143 rfl (isM_o hMp2) (kf := 16) (v := vi (((uN v 16 (((Q.length : Nat) : Int)))) 16)) rfl ?_
      rw [show ((uN v 16 (((Q.length : Nat) : Int)))) 16 = ((Q.length : Nat) : Int) from rfl]
      refine M.ialdN (Q.length) rfl (isM_15 hMp2) (by omega) (by decide) ?_
      rw [iP.1]
      refine M.run 1 (pc' := 46) (lv' := [some (vr o), some (vi lv0)]) (st' := [vi 0, vi x, vr o]) rfl ?_
      refine M.callV (kX11_emit l G o am (uN v 16 (((Q.length : Nat) : Int))) a e c0 D.length i12 i13 (by omega) x 0) cv_X11_149 cd_X11_emit rfl (st := []) rfl (isM_o hMp2) (by decide) (by decide) rfl (Nat.zero_le _) (Nat.zero_le _) hMp2 (fun re we qe => ?_)
      obtain ⟨qe1, e2, hM2, he3, he4⟩ := qe
      rw [qe1]
      have e15 : e2 15 = e 15 := he4 15 (by decide)
      have e3 : e2 3 = e 3 := he4 3 (by decide)
      have hFe : rF c0 u (uN (uN v 16 (((Q.length : Nat) : Int))) 13 ((D.length + 1 : Nat) : Int)) b e2 := rF_tr (rF_u (k := 13) (rF_u (k := 16) hF (by decide)) (by decide)) ⟨fun _ _ _ _ => rfl, fun k h1 _ => he4 k h1, fun i hi => by rw [he3]; exact (uN_o (by omega)).trans (uN_o (by omega))⟩
      have hCe : rCl (D ++ [(x, 0)]) (c0 + 73) (e2 2) := by rw [he3]; exact rCl_a iC
      have hlen : (D ++ [(x, 0)]).length = D.length + 1 := by rw [List.length_append]; rfl
      have h80 : (rkO x = 7 ∨ x = 20) → g 0 0 we 80 [some (vr o), some (vi lv0)] [] := by
        intro hc
        refine M.run 2 (pc' := 82) (lv' := [some (vr o), some (vi lv0)]) (st' := [vr o, vr o]) rfl ?_
        refine M.get fl_X11_153 rfl (isM_o hM2) (kf := 17) (v := vi (((uN (uN v 16 (((Q.length : Nat) : Int))) 13 ((D.length + 1 : Nat) : Int))) 17)) rfl ?_
        rw [show ((uN (uN v 16 (((Q.length : Nat) : Int))) 13 ((D.length + 1 : Nat) : Int))) 17 = oq from i17]
        refine M.run 2 (pc' := 87) (lv' := [some (vr o), some (vi lv0)]) (st' := [vi (oq - 1), vr o]) rfl ?_
        refine M.put fl_X11_153 rfl (isM_o hM2) rfl rfl (Nat.le_of_ble_eq_true rfl) ?_
        have hMp3 := isM_setU (u' := uN ((uN (uN v 16 (((Q.length : Nat) : Int))) 13 ((D.length + 1 : Nat) : Int))) 17 (oq - 1)) (fs := (Mf am ((uN (uN v 16 (((Q.length : Nat) : Int))) 13 ((D.length + 1 : Nat) : Int)))).set 17 (vi (oq - 1))) hM2 rfl
        generalize up we o (Ob 10 ((Mf am ((uN (uN v 16 (((Q.length : Nat) : Int))) 13 ((D.length + 1 : Nat) : Int)))).set 17 (vi (oq - 1)))) = wp3 at hMp3 ⊢
        refine M.run 1 (pc' := 0) (lv' := [some (vr o), some (vi lv0)]) (st' := []) rfl ?_
        rw [if_pos hc] at he2
        exact ih (oq - 1) (D ++ [(x, 0)]) _ e2 _ hMp3 ⟨i12, by rw [e3]; exact isTk_u iT (fun k hk => (uN_o (by omega)).trans ((uN_o (by omega)).trans (uN_o (by omega)))), rfl, by rw [e15]; exact iP.2, fun y hy => iv y (List.mem_cons_of_mem _ hy), rfl, i18, by rw [hlen]; rfl, hCe⟩ (by rw [hlen]; omega) (by omega) (rF_u (k := 17) hFe (by decide)) he2
      refine M.run 1 (pc' := 50) (lv' := [some (vr o), some (vi lv0)]) (st' := [vr o]) rfl ?_
      refine M.get fl_X11_29 rfl (isM_o hM2) (kf := 15) (v := vr (am 15)) rfl ?_
      refine M.run 1 (pc' := 54) (lv' := [some (vr o), some (vi lv0)]) (st' := [vr o, vr (am 15)]) rfl ?_
      refine M.get fl_X11_143 rfl (isM_o hM2) (kf := 16) (v := vi (((uN (uN v 16 (((Q.length : Nat) : Int))) 13 ((D.length + 1 : Nat) : Int))) 16)) rfl ?_
      rw [show ((uN (uN v 16 (((Q.length : Nat) : Int))) 13 ((D.length + 1 : Nat) : Int))) 16 = ((Q.length : Nat) : Int) from rfl]
      refine M.ialdN (Q.length) rfl (isM_15 hM2) (by omega) (by decide) ?_
      rw [e15, iP.1]
      refine M.callS (kX11_rank l G x (by omega)) cs_X11_146 cd_X11_rank rfl (st := []) rfl (by decide) (by decide) rfl (Nat.zero_le _) (Nat.zero_le _) trivial (fun rr4 wr4 qr4 => ?_)
      rw [qr4.1, qr4.2]
      refine M.run 1 (pc' := 63) (lv' := [some (vr o), some (vi lv0)]) (st' := [vi 7, vi (rkO x)]) rfl ?_
      refine M.icmp_eq (tgt := 80) rfl (qI (by omega)) (qI (by decide)) rfl (fun h7 => h80 (Or.inl h7)) (fun h7 => ?_)
      refine M.run 1 (pc' := 67) (lv' := [some (vr o), some (vi lv0)]) (st' := [vr o]) rfl ?_
      refine M.get fl_X11_29 rfl (isM_o hM2) (kf := 15) (v := vr (am 15)) rfl ?_
      refine M.run 1 (pc' := 71) (lv' := [some (vr o), some (vi lv0)]) (st' := [vr o, vr (am 15)]) rfl ?_
      refine M.get fl_X11_143 rfl (isM_o hM2) (kf := 16) (v := vi (((uN (uN v 16 (((Q.length : Nat) : Int))) 13 ((D.length + 1 : Nat) : Int))) 16)) rfl ?_
      rw [show ((uN (uN v 16 (((Q.length : Nat) : Int))) 13 ((D.length + 1 : Nat) : Int))) 16 = ((Q.length : Nat) : Int) from rfl]
      refine M.ialdN (Q.length) rfl (isM_15 hM2) (by omega) (by decide) ?_
      rw [e15, iP.1]
      refine M.run 1 (pc' := 77) (lv' := [some (vr o), some (vi lv0)]) (st' := [vi 20, vi x]) rfl ?_
      refine M.icmp_ne (tgt := 0) rfl (qI (by omega)) (qI (by decide)) rfl (fun h20 => ?_) (fun h20 => h80 (Or.inr h20))
      rw [if_neg (by omega)] at he2
      exact ih oq (D ++ [(x, 0)]) _ e2 _ hM2 ⟨i12, by rw [e3]; exact isTk_u iT (fun k hk => (uN_o (by omega)).trans (uN_o (by omega))), rfl, by rw [e15]; exact iP.2, fun y hy => iv y (List.mem_cons_of_mem _ hy), i17, i18, by rw [hlen]; rfl, hCe⟩ (by rw [hlen]; omega) (by omega) hFe he2
set_option maxHeartbeats 4000000 in
set_option maxRecDepth 100000 in
theorem kX11_opened (l : Launch) (G : GT) (o : Nat) (am : Nat → Nat) (u a : Nat → Int) (b : Nat → Nat → Int) (t c0 : Nat) (P : List Int) (op : Int) (wh : Bool) (C : List (Int × Int)) (j : Nat) (hR : rS t c0 P op wh C j u b) (hc0 : c0 ≤ 2043) (hn : C.length + P.length ≤ 303) (hl : P.length ≤ 160) (hb : ∀ k : Nat, k < 300 → 0 ≤ b 3 k ∧ b 3 k < 256) (ht : t ≤ 300) (h51 : ¬ (gTk (tkL (b 3) t) j).1 = 51) (hl2 : P.length ≤ 150) (hop : -1000 ≤ op ∧ op ≤ 8) (x : Int) (hx : 0 ≤ x ∧ x ≤ 43) : Ctr l G yX11_opened cX11_opened 2 ((Option.some Jvm.ClassFile.FieldType.int)) 3 0 0 [vr o, vi x] (fun w => isM o am u a b w) (fun w r w' => (op = 8 → r = some (vi 3) ∧ w' = w) ∧ (¬ op = 8 → r = some (vi 0) ∧ ∃ (v : Nat → Int) (e : Nat → Nat → Int), isM o am v a e w' ∧ rS t c0 (x :: P) (op + 1) wh C (j + 1) v e ∧ rF c0 u v b e)) := by
  refine Ctr.of (t := tX11_opened) (lv0 := [some (vr o), some (vi x)]) (by decide +kernel) tX11_opened_ok rfl rfl (fun w g hM M => ?_)
  obtain ⟨i12, iT, i16, iP, iv, i17, i18, i13, iC⟩ := hR
  refine M.run 1 (pc' := 1) (lv' := [some (vr o), some (vi x)]) (st' := [vr o]) rfl ?_
  refine M.get fl_X11_153 rfl (isM_o hM) (kf := 17) (v := vi (u 17)) rfl ?_
  rw [i17]
  refine M.run 1 (pc' := 6) (lv' := [some (vr o), some (vi x)]) (st' := [vi 8, vi op]) rfl ?_
  refine M.icmp_ne (tgt := 11) rfl (qI (by omega)) (qI (by decide)) rfl (fun h8 => ?_) (fun h8 => ?_)
  · skip
    refine M.run 2 (pc' := 13) (lv' := [some (vr o), some (vi x)]) (st' := [vr o, vr o]) rfl ?_
    refine M.get fl_X11_153 rfl (isM_o hM) (kf := 17) (v := vi (u 17)) rfl ?_
    rw [i17]
    refine M.run 2 (pc' := 18) (lv' := [some (vr o), some (vi x)]) (st' := [vi (op + 1), vr o]) rfl ?_
    refine M.put fl_X11_153 rfl (isM_o hM) rfl rfl (Nat.le_of_ble_eq_true rfl) ?_
    have hMp1 := isM_setU (u' := uN u 17 (op + 1)) (fs := (Mf am u).set 17 (vi (op + 1))) hM rfl
    generalize up w o (Ob 10 ((Mf am u).set 17 (vi (op + 1)))) = wp1 at hMp1 ⊢
    refine M.run 1 (pc' := 22) (lv' := [some (vr o), some (vi x)]) (st' := [vr o]) rfl ?_
    refine M.get fl_X11_29 rfl (isM_o hMp1) (kf := 15) (v := vr (am 15)) rfl ?_
    refine M.run 1 (pc' := 26) (lv' := [some (vr o), some (vi x)]) (st' := [vr o, vr (am 15)]) rfl ?_
    refine M.get fl_X11_143 rfl (isM_o hMp1) (kf := 16) (v := vi (((uN u 17 (op + 1))) 16)) rfl ?_
    rw [show ((uN u 17 (op + 1))) 16 = ((P.length : Nat) : Int) from i16]
    refine M.run 1 (pc' := 30) (lv' := [some (vr o), some (vi x)]) (st' := [vi x, vi ((P.length : Nat) : Int), vr (am 15)]) rfl ?_
    refine M.iastN (P.length) rfl (isM_15 hMp1) (by omega) (by decide) ?_
    have hMp2 := isM_setB (k := 15) (t := 0) (n := 160) hMp1 (by decide) (uN (b 15) P.length x)
    generalize up wp1 (am 15) (Ar 0 160 (uN (b 15) P.length x)) = wp2 at hMp2 ⊢
    refine M.run 2 (pc' := 33) (lv' := [some (vr o), some (vi x)]) (st' := [vr o, vr o]) rfl ?_
    refine M.get fl_X11_143 rfl (isM_o hMp2) (kf := 16) (v := vi (((uN u 17 (op + 1))) 16)) rfl ?_
    rw [show ((uN u 17 (op + 1))) 16 = ((P.length : Nat) : Int) from i16]
    refine M.run 2 (pc' := 38) (lv' := [some (vr o), some (vi x)]) (st' := [vi ((P.length + 1 : Nat) : Int), vr o]) rfl ?_
    refine M.put fl_X11_143 rfl (isM_o hMp2) rfl rfl (Nat.le_of_ble_eq_true rfl) ?_
    have hMp3 := isM_setU (u' := uN ((uN u 17 (op + 1))) 16 (((P.length + 1 : Nat) : Int))) (fs := (Mf am ((uN u 17 (op + 1)))).set 16 (vi (((P.length + 1 : Nat) : Int)))) hMp2 rfl
    generalize up wp2 o (Ob 10 ((Mf am ((uN u 17 (op + 1)))).set 16 (vi (((P.length + 1 : Nat) : Int))))) = wp3 at hMp3 ⊢
    refine M.run 1 (pc' := 42) (lv' := [some (vr o), some (vi x)]) (st' := [vr o]) rfl ?_
    have iT2 : isTk ((uB b 15 (uN (b 15) P.length x)) 3) t j (uN ((uN u 17 (op + 1))) 16 (((P.length + 1 : Nat) : Int))) := isTk_u iT (fun k hk => (uN_o (by omega)).trans (uN_o (by omega)))
    refine M.callV (kX11_nextT l G o am (uN ((uN u 17 (op + 1))) 16 (((P.length + 1 : Nat) : Int))) a (uB b 15 (uN (b 15) P.length x)) t j hb ht iT2 h51) cv_X11_163 cd_X11_nextToken rfl (st := []) rfl (isM_o hMp3) (by decide) (by decide) rfl (Nat.zero_le _) (Nat.zero_le _) hMp3 (fun r1 w1 q1 => ?_)
    obtain ⟨q2, v, hM2, hT2, hk⟩ := q1
    rw [q2]
    refine M.run 1 (pc' := 46) (lv' := [some (vr o), some (vi x)]) (st' := [vi 0]) rfl ?_
    refine M.iret rfl (Nat.zero_le _) (Nat.zero_le _) ⟨fun z => absurd z h8, fun _ => ⟨rfl, v, _, hM2, ⟨(hk 12 (by decide)).trans i12, hT2, (hk 16 (by decide)).trans (by rw [List.length_cons]; rfl), ⟨uN_s _ _ _, rPl_e P iP (fun i hi => uN_o (by omega))⟩, fun y hy => ?_, (hk 17 (by decide)).trans rfl, (hk 18 (by decide)).trans i18, (hk 13 (by decide)).trans i13, iC⟩, rF_k (rF_u (k := 16) (rF_b (rF_u (k := 17) rF_rf (by decide))) (by decide)) hk⟩⟩
    rcases List.mem_cons.mp hy with e | e
    · rw [e]; exact hx
    · exact iv y e
  · skip
    refine M.run 1 (pc' := 10) (lv' := [some (vr o), some (vi x)]) (st' := [vi 3]) rfl ?_
    exact M.iret rfl (Nat.zero_le _) (Nat.zero_le _) ⟨fun _ => ⟨rfl, rfl⟩, fun z => absurd h8 z⟩
