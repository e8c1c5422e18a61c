/-! the reference reads and takes a text -/
def rH (c0 : Nat) (u v : Nat → Int) (b e : Nat → Nat → Int) : Prop := (∀ k : Nat, ¬ (7 ≤ k ∧ k ≤ 14) → ¬ (16 ≤ k ∧ k ≤ 19) → v k = u k) ∧ (∀ k : Nat, ¬ k = 2 → ¬ k = 15 → e k = b k) ∧ ∀ i : Nat, (i < c0 ∨ c0 + 681 ≤ i) → e 2 i = b 2 i
theorem rH_G {c0 : Nat} {u v x : Nat → Int} {b e f : Nat → Nat → Int} (h : rH c0 u v b e) (g : rG c0 v x e f) : rH c0 u x b f := ⟨fun k h1 h2 => (g.1 k (by omega) (by omega) (by omega)).trans (h.1 k h1 h2), fun k h1 h2 => (g.2.1 k h1 h2).trans (h.2.1 k h1 h2), fun i hi => (g.2.2 i hi).trans (h.2.2 i hi)⟩
def QT1 (o : Nat) (am : Nat → Nat) (u a : Nat → Int) (b : Nat → Nat → Int) (t c0 : Nat) (r : Option AV) (w' : Wo) : Rr → Prop
  | .inl (s, k) => r = some (vi 0) ∧ ∃ (v : Nat → Int) (e : Nat → Nat → Int) (C : List (Int × Int)), isM o am v a e w' ∧ rCs t c0 s C k v e ∧ k ≤ 301 ∧ rH c0 u v b e
  | .inr (f, k) => r = some (vi f) ∧ (1 ≤ f ∧ f ≤ 6) ∧ ∃ (v : Nat → Int) (e : Nat → Nat → Int), isM o am v a e w' ∧ isTk (e 3) t k v ∧ rH c0 u v b e
theorem isTk_301 {b : Nat → Int} {t j : Nat} {u : Nat → Int} (h : isTk b t j u) (ht : t ≤ 300) : j ≤ 301 := by
  obtain ⟨s, d1, d2⟩ := h
  have d3 := cutM_len (b := b) (e := t) t 0 0
  have d4 : ((tkL b t).drop j).length = (tkS b t s).length := by rw [d1]
  rw [List.length_drop] at d4
  have d5 : (tkL b t).length ≤ t + 1 := d3
  have d6 : 0 < (tkS b t s).length := by
    rcases Nat.lt_or_ge s t with y | y
    · rw [tkS_t y (d2.2.2.2.2 y).1, List.length_cons]; omega
    · have y2 : s = t := by have := d2.2.2.1; omega
      rw [y2, tkS_e]; exact Nat.one_pos
  omega
set_option maxHeartbeats 4000000 in
set_option maxRecDepth 100000 in
theorem kX11_readText (l : Launch) (G : GT) (o : Nat) (am : Nat → Nat) (u a : Nat → Int) (b : Nat → Nat → Int) (t n1 : Nat) (hb : ∀ k : Nat, k < 300 → 0 ≤ b 3 k ∧ b 3 k < 256) (h4 : u 4 = ((t : Nat) : Int)) (ht : t ≤ 300) (h1 : a 1 = ((n1 : Nat) : Int)) (hn1 : n1 ≤ 3) : Ctr l G yX11_readText cX11_readText 2 ((Option.some Jvm.ClassFile.FieldType.int)) 13 0 0 [vr o] (fun w => isM o am u a b w) (fun w r w' => QT1 o am u a b t (681 * n1) r w' (pRea (tkL (b 3) t) 25 ([], none, none) 0)) := by
  refine Ctr.of (t := tX11_readText) (lv0 := [some (vr o), none]) (by decide +kernel) tX11_readText_ok rfl rfl (fun w g hM M => ?_)
  refine M.run 3 (pc' := 5) (lv' := [some (vr o), none]) (st' := [vr o, vi 681, vr o]) rfl ?_
  refine M.get fl_X11_7 rfl (isM_o hM) (kf := 0) (v := vr (am 0)) rfl ?_
  refine M.run 1 (pc' := 9) (lv' := [some (vr o), none]) (st' := [vi 1, vr (am 0), vi 681, vr o]) rfl ?_
  refine M.ialdN 1 rfl (isM_a hM) (by decide) (by decide) ?_
  rw [h1]
  refine M.run 1 (pc' := 11) (lv' := [some (vr o), none]) (st' := [vi ((681 * n1 : Nat) : Int), vr o]) rfl ?_
  refine M.put fl_X11_130 rfl (isM_o hM) rfl rfl (Nat.le_of_ble_eq_true rfl) ?_
  have hMp1 := isM_setU (u' := uN u 12 (((681 * n1 : Nat) : Int))) (fs := (Mf am u).set 12 (vi (((681 * n1 : Nat) : Int)))) hM rfl
  generalize up w o (Ob 10 ((Mf am u).set 12 (vi (((681 * n1 : Nat) : Int))))) = wp1 at hMp1 ⊢
  refine M.run 1 (pc' := 15) (lv' := [some (vr o), none]) (st' := [vr o]) rfl ?_
  refine M.get fl_X11_16 rfl (isM_o hMp1) (kf := 2) (v := vr (am 2)) rfl ?_
  refine M.run 1 (pc' := 19) (lv' := [some (vr o), none]) (st' := [vr o, vr (am 2)]) rfl ?_
  refine M.get fl_X11_130 rfl (isM_o hMp1) (kf := 12) (v := vi (((uN u 12 (((681 * n1 : Nat) : Int)))) 12)) rfl ?_
  rw [show ((uN u 12 (((681 * n1 : Nat) : Int)))) 12 = ((681 * n1 : Nat) : Int) from rfl]
  refine M.run 1 (pc' := 23) (lv' := [some (vr o), none]) (st' := [vi 0, vi ((681 * n1 : Nat) : Int), vr (am 2)]) rfl ?_
  refine M.iastN (681 * n1) rfl (isM_2 hMp1) (by omega) (by decide) ?_
  have hMp2 := isM_setB (k := 2) (t := 0) (n := 2724) hMp1 (by decide) (uN (b 2) (681 * n1) 0)
  generalize up wp1 (am 2) (Ar 0 2724 (uN (b 2) (681 * n1) 0)) = wp2 at hMp2 ⊢
  refine M.run 2 (pc' := 26) (lv' := [some (vr o), none]) (st' := [vi 0, vr o]) rfl ?_
  refine M.put fl_X11_133 rfl (isM_o hMp2) rfl rfl (Nat.le_of_ble_eq_true rfl) ?_
  have hMp3 := isM_setU (u' := uN ((uN u 12 (((681 * n1 : Nat) : Int)))) 13 0) (fs := (Mf am ((uN u 12 (((681 * n1 : Nat) : Int))))).set 13 (vi 0)) hMp2 rfl
  generalize up wp2 o (Ob 10 ((Mf am ((uN u 12 (((681 * n1 : Nat) : Int))))).set 13 (vi 0))) = wp3 at hMp3 ⊢
  refine M.run 2 (pc' := 31) (lv' := [some (vr o), none]) (st' := [vi 0, vr o]) rfl ?_
  refine M.put fl_X11_230 rfl (isM_o hMp3) rfl rfl (Nat.le_of_ble_eq_true rfl) ?_
  have hMp4 := isM_setU (u' := uN ((uN ((uN u 12 (((681 * n1 : Nat) : Int)))) 13 0)) 19 0) (fs := (Mf am ((uN ((uN u 12 (((681 * n1 : Nat) : Int)))) 13 0))).set 19 (vi 0)) hMp3 rfl
  generalize up wp3 o (Ob 10 ((Mf am ((uN ((uN u 12 (((681 * n1 : Nat) : Int)))) 13 0))).set 19 (vi 0))) = wp4 at hMp4 ⊢
  refine M.run 2 (pc' := 36) (lv' := [some (vr o), none]) (st' := [vi 0, vr o]) rfl ?_
  refine M.put fl_X11_82 rfl (isM_o hMp4) rfl rfl (Nat.le_of_ble_eq_true rfl) ?_
  have hMp5 := isM_setU (u' := uN ((uN ((uN ((uN u 12 (((681 * n1 : Nat) : Int)))) 13 0)) 19 0)) 7 0) (fs := (Mf am ((uN ((uN ((uN u 12 (((681 * n1 : Nat) : Int)))) 13 0)) 19 0))).set 7 (vi 0)) hMp4 rfl
  generalize up wp4 o (Ob 10 ((Mf am ((uN ((uN ((uN u 12 (((681 * n1 : Nat) : Int)))) 13 0)) 19 0))).set 7 (vi 0))) = wp5 at hMp5 ⊢
  refine M.run 1 (pc' := 40) (lv' := [some (vr o), none]) (st' := [vr o]) rfl ?_
  refine M.callV (kX11_nextT0 l G o am (uN ((uN ((uN ((uN u 12 (((681 * n1 : Nat) : Int)))) 13 0)) 19 0)) 7 0) a (uB b 2 (uN (b 2) (681 * n1) 0)) t hb h4 ht rfl) cv_X11_163 cd_X11_nextToken rfl (st := []) rfl (isM_o hMp5) (by decide) (by decide) rfl (Nat.zero_le _) (Nat.zero_le _) hMp5 (fun rn wn qn => ?_)
  obtain ⟨qn1, v, hM2, hT2, hk⟩ := qn
  rw [qn1]
  generalize hc : 681 * n1 = c0 at *
  suffices hL : ∀ (m : Nat) (s : Rs) (C : List (Int × Int)) (j : Nat) (v : Nat → Int) (e : Nat → Nat → Int) (wz : Wo) (lq : Lo), m + s.1.length = 25 → isM o am v a e wz → rCs t c0 s C j v e → rH c0 u v b e → pRea (tkL (b 3) t) m s j = pRea (tkL (b 3) t) 25 ([], none, none) 0 → lq.length = 2 → lq[0]? = some (some (vr o)) → g 0 0 wz 43 lq [] from hL 25 ([], none, none) [] 0 v _ wn _ rfl hM2 ⟨(hk 12 (by decide)).trans rfl, hT2, (hk 13 (by decide)).trans rfl, fun i hi => absurd hi (Nat.not_lt_zero i), Nat.le_refl 0, (hk 19 (by decide)).trans rfl, uN_s _ _ _, by decide, fun k hk => absurd hk (Nat.not_lt_zero k), fun k hk => absurd hk (Nat.not_lt_zero k), fun k hk => absurd hk (Nat.not_lt_zero k)⟩ ⟨fun k h1 h2 => (hk k (by omega)).trans ((uN_o (by omega)).trans ((uN_o (by omega)).trans ((uN_o (by omega)).trans (uN_o (by omega))))), fun k h1 _ => if_neg h1, fun i hi => uN_o (by omega)⟩ rfl rfl rfl
  intro m
  induction m with
  | zero =>
    intro s C j v e wz lq hm _ hR
    have := hR.2.2.2.2.2.2.2.1
    omega
  | succ m ih =>
    intro s C j v e wz lq hm hM hR hH hp hl0 hl1
    obtain ⟨x0, x1, rfl⟩ : ∃ x0 x1, lq = [x0, x1] := by
      match lq, hl0 with
      | [x0, x1], _ => exact ⟨x0, x1, rfl⟩
    have hx0 : x0 = some (vr o) := Option.some.inj hl1
    subst hx0
    obtain ⟨i12, iT, i13, iC, iCj, i19, iTs⟩ := id hR
    have e3 : e 3 = b 3 := hH.2.1 3 (by decide) (by decide)
    have h0 := tk_0 iT
    have hr := tk_r iT
    rw [e3] at h0
    refine M.run 1 (pc' := 44) (lv' := [some (vr o), x1]) (st' := [vr o]) rfl ?_
    refine M.get fl_X11_91 rfl (isM_o hM) (kf := 9) (v := vi (v 9)) rfl ?_
    refine M.if_eq (tgt := 64) rfl (qI (by omega)) rfl (fun hz => ?_) (fun hn => ?_)
    · have h51 := h0.mp hz
      refine M.run 1 (pc' := 65) (lv' := [some (vr o), x1]) (st' := [vi 0]) rfl ?_
      refine M.iret rfl (Nat.zero_le _) (Nat.zero_le _) ?_
      rw [← hp, show pRea (tkL (b 3) t) (m + 1) s j = .inl (s, j) from if_pos h51]
      exact ⟨rfl, v, e, C, hM, hR, isTk_301 iT ht, hH⟩
    · have h51 : ¬ (gTk (tkL (b 3) t) j).1 = 51 := fun z => hn (h0.mpr z)
      refine M.run 1 (pc' := 51) (lv' := [some (vr o), x1]) (st' := [vr o]) rfl ?_
      refine M.callV (kX11_clause l G o am v a e t c0 (by rw [e3]; exact hb) ht s C j hR (by omega)) cv_X11_236 cd_X11_clause rfl (st := []) rfl (isM_o hM) (by decide) (by decide) rfl (Nat.zero_le _) (Nat.zero_le _) hM (fun rc wc qc => ?_)
      rw [e3] at qc
      have hp2 : pRea (tkL (b 3) t) (m + 1) s j = _ := if_neg h51
      rcases hE : pCla (tkL (b 3) t) s j with ⟨s2, k⟩ | ⟨f, k⟩
      · rw [hE] at qc hp2
        obtain ⟨q1, v2, e2, D, hM3, hR3, hG3⟩ := qc
        have z1 := (pCla_n (tkL_B hb ht) hE).1
        rw [q1]
        refine M.run 2 (pc' := 56) (lv' := [some (vr o), some (vi 0)]) (st' := [vi 0]) rfl ?_
        refine M.if_eq (tgt := 61) rfl (qI (by decide)) rfl (fun _ => ?_) (fun z => absurd rfl z)
        refine M.run 1 (pc' := 43) (lv' := [some (vr o), some (vi 0)]) (st' := []) rfl ?_
        exact ih s2 D k v2 e2 wc _ (by omega) hM3 hR3 (rH_G hH hG3) (hp2.symm.trans hp) rfl rfl
      · rw [hE] at qc hp2
        obtain ⟨q1, q2, v2, e2, hM3, hT3, hG3⟩ := qc
        rw [q1]
        refine M.run 2 (pc' := 56) (lv' := [some (vr o), some (vi f)]) (st' := [vi f]) rfl ?_
        refine M.if_eq (tgt := 61) rfl (qI (by omega)) rfl (fun z => absurd z (by omega)) (fun _ => ?_)
        refine M.run 1 (pc' := 60) (lv' := [some (vr o), some (vi f)]) (st' := [vi f]) rfl ?_
        refine M.iret rfl (Nat.zero_le _) (Nat.zero_le _) ?_
        rw [← hp, hp2]
        exact ⟨rfl, q2, v2, e2, hM3, hT3, rH_G hH hG3⟩
/-- what taking a text leaves -/
def QT2 (o : Nat) (am : Nat → Nat) (u a : Nat → Int) (b : Nat → Nat → Int) (L : List (Int × Int × Int)) (n1 : Nat) (r : Option AV) (w' : Wo) : Rr → Prop
  | .inl (s, _) => r = some (vi ((n1 : Nat) : Int)) ∧ ∃ (v : Nat → Int) (e : Nat → Nat → Int) (C : List (Int × Int)), isM o am v (uN a 1 ((n1 + 1 : Nat) : Int)) e w' ∧ (v 4 = 0 ∧ v 5 = 0 ∧ v 6 = -1 ∧ v 23 = u 23) ∧ (∀ k : Nat, ¬ k = 2 → ¬ k = 15 → e k = b k) ∧ (∀ i : Nat, (i < 681 * n1 ∨ 681 * n1 + 681 ≤ i) → e 2 i = b 2 i) ∧ rTs (681 * n1) (e 2) C s ∧ rCl C (681 * n1 + 73) (e 2) ∧ C.length ≤ 301
  | .inr (f, k) => r = some (vi (-1)) ∧ ∃ (v : Nat → Int) (e : Nat → Nat → Int), isM o am v a e w' ∧ (v 4 = 0 ∧ v 5 = f ∧ v 6 = (gTk L k).2.2 ∧ v 23 = u 23) ∧ (1 ≤ f ∧ f ≤ 6) ∧ (∀ k : Nat, ¬ k = 2 → ¬ k = 15 → e k = b k) ∧ ∀ i : Nat, (i < 681 * n1 ∨ 681 * n1 + 681 ≤ i) → e 2 i = b 2 i
set_option maxHeartbeats 4000000 in
set_option maxRecDepth 100000 in
theorem kX11_text (l : Launch) (G : GT) (o : Nat) (am : Nat → Nat) (u a : Nat → Int) (b : Nat → Nat → Int) (t n1 : Nat) (hb : ∀ k : Nat, k < 300 → 0 ≤ b 3 k ∧ b 3 k < 256) (h4 : u 4 = ((t : Nat) : Int)) (ht : t ≤ 300) (h1 : a 1 = ((n1 : Nat) : Int)) (hn1 : n1 ≤ 4) : Ctr l G yX11_text cX11_text 1 ((Option.some Jvm.ClassFile.FieldType.int)) 14 0 0 [vr o] (fun w => isM o am u a b w) (fun w r w' => if n1 = 4 then r = some (vi (-1)) ∧ w' = w else QT2 o am u a b (tkL (b 3) t) n1 r w' (pRea (tkL (b 3) t) 25 ([], none, none) 0)) := by
  refine Ctr.of (t := tX11_text) (lv0 := [some (vr o)]) (by decide +kernel) tX11_text_ok rfl rfl (fun w g hM M => ?_)
  refine M.run 1 (pc' := 1) (lv' := [some (vr o)]) (st' := [vr o]) rfl ?_
  refine M.get fl_X11_7 rfl (isM_o hM) (kf := 0) (v := vr (am 0)) rfl ?_
  refine M.run 1 (pc' := 5) (lv' := [some (vr o)]) (st' := [vi 1, vr (am 0)]) rfl ?_
  refine M.ialdN 1 rfl (isM_a hM) (by decide) (by decide) ?_
  rw [h1]
  refine M.run 1 (pc' := 7) (lv' := [some (vr o)]) (st' := [vi 4, vi ((n1 : Nat) : Int)]) rfl ?_
  refine M.icmp_ne (tgt := 12) rfl (qI (by omega)) (qI (by decide)) rfl (fun hn => ?_) (fun hz => ?_)
  rotate_left
  · skip
    refine M.run 1 (pc' := 11) (lv' := [some (vr o)]) (st' := [vi (-1)]) rfl ?_
    refine M.iret rfl (Nat.zero_le _) (Nat.zero_le _) ?_
    rw [if_pos (by omega)]
    exact ⟨rfl, rfl⟩
  have hn4 : ¬ n1 = 4 := by omega
  refine M.run 2 (pc' := 14) (lv' := [some (vr o)]) (st' := [vr o, vr o]) rfl ?_
  refine M.callV (kX11_readText l G o am u a b t n1 hb h4 ht h1 (by omega)) cv_X11_239 cd_X11_readText rfl (st := [vr o]) rfl (isM_o hM) (by decide) (by decide) rfl (Nat.zero_le _) (Nat.zero_le _) hM (fun rc wc qc => ?_)
  rcases hE : pRea (tkL (b 3) t) 25 ([], none, none) 0 with ⟨s, k⟩ | ⟨f, k⟩
  · rw [hE] at qc
    obtain ⟨q1, v, e, C, hM2, hR2, k301, hH⟩ := qc
    rw [q1]
    change g 0 0 wc 17 [some (vr o)] [vi 0, vr o]
    refine M.put fl_X11_22 rfl (isM_o hM2) rfl rfl (Nat.le_of_ble_eq_true rfl) ?_
    have hMp1 := isM_setU (u' := uN v 5 0) (fs := (Mf am v).set 5 (vi 0)) hM2 rfl
    generalize up wc o (Ob 10 ((Mf am v).set 5 (vi 0))) = wp1 at hMp1 ⊢
    refine M.run 2 (pc' := 22) (lv' := [some (vr o)]) (st' := [vr o, vr o]) rfl ?_
    refine M.get fl_X11_22 rfl (isM_o hMp1) (kf := 5) (v := vi ((uN v 5 0) 5)) rfl ?_
    rw [show (uN v 5 0) 5 = 0 from rfl]
    refine M.if_ne (tgt := 32) rfl (qI (by decide)) rfl (fun z => absurd rfl z) (fun _ => ?_)
    refine M.run 2 (pc' := 36) (lv' := [some (vr o)]) (st' := [vi (-1), vr o]) rfl ?_
    refine M.put fl_X11_26 rfl (isM_o hMp1) rfl rfl (Nat.le_of_ble_eq_true rfl) ?_
    have hMp2 := isM_setU (u' := uN (uN v 5 0) 6 (-1)) (fs := (Mf am (uN v 5 0)).set 6 (vi (-1))) hMp1 rfl
    generalize up wp1 o (Ob 10 ((Mf am (uN v 5 0)).set 6 (vi (-1)))) = wp2 at hMp2 ⊢
    refine M.run 2 (pc' := 41) (lv' := [some (vr o)]) (st' := [vi 0, vr o]) rfl ?_
    refine M.put fl_X11_75 rfl (isM_o hMp2) rfl rfl (Nat.le_of_ble_eq_true rfl) ?_
    have hMp3 := isM_setU (u' := uN ((uN (uN v 5 0) 6 (-1))) 4 0) (fs := (Mf am ((uN (uN v 5 0) 6 (-1)))).set 4 (vi 0)) hMp2 rfl
    generalize up wp2 o (Ob 10 ((Mf am ((uN (uN v 5 0) 6 (-1)))).set 4 (vi 0))) = wp3 at hMp3 ⊢
    refine M.run 1 (pc' := 45) (lv' := [some (vr o)]) (st' := [vr o]) rfl ?_
    refine M.get fl_X11_22 rfl (isM_o hMp3) (kf := 5) (v := vi (((uN ((uN (uN v 5 0) 6 (-1))) 4 0)) 5)) rfl ?_
    rw [show ((uN ((uN (uN v 5 0) 6 (-1))) 4 0)) 5 = 0 from rfl]
    refine M.if_eq (tgt := 53) rfl (qI (by decide)) rfl (fun _ => ?_) (fun z => absurd rfl z)
    refine M.run 1 (pc' := 54) (lv' := [some (vr o)]) (st' := [vr o]) rfl ?_
    refine M.get fl_X11_7 rfl (isM_o hMp3) (kf := 0) (v := vr (am 0)) rfl ?_
    refine M.run 2 (pc' := 59) (lv' := [some (vr o)]) (st' := [vi 1, vr (am 0), vi 1, vr (am 0)]) rfl ?_
    refine M.ialdN 1 rfl (isM_a hMp3) (by decide) (by decide) ?_
    rw [h1]
    refine M.run 2 (pc' := 62) (lv' := [some (vr o)]) (st' := [vi ((n1 + 1 : Nat) : Int), vi 1, vr (am 0)]) rfl ?_
    refine M.iastN 1 rfl (isM_a hMp3) (by decide) (by decide) ?_
    have hM9 := isM_setA hMp3 (uN a 1 ((n1 + 1 : Nat) : Int))
    generalize up wp3 (am 0) (Ar 0 30042 (uN a 1 ((n1 + 1 : Nat) : Int))) = w9 at hM9 ⊢
    refine M.run 1 (pc' := 64) (lv' := [some (vr o)]) (st' := [vr o]) rfl ?_
    refine M.get fl_X11_7 rfl (isM_o hM9) (kf := 0) (v := vr (am 0)) rfl ?_
    refine M.run 1 (pc' := 68) (lv' := [some (vr o)]) (st' := [vi 1, vr (am 0)]) rfl ?_
    refine M.ialdN 1 rfl (isM_a hM9) (by decide) (by decide) ?_
    rw [uN_s]
    refine M.run 2 (pc' := 71) (lv' := [some (vr o)]) (st' := [vi (((n1 + 1 : Nat) : Int) - 1)]) rfl ?_
    rw [show (((n1 + 1 : Nat) : Int) - 1) = ((n1 : Nat) : Int) by omega]
    refine M.iret rfl (Nat.zero_le _) (Nat.zero_le _) ?_
    rw [if_neg hn4, hE]
    obtain ⟨i12, iT, i13, iC, iCj, i19, iTs⟩ := hR2
    exact ⟨rfl, _, e, C, hM9, ⟨rfl, rfl, rfl, hH.1 23 (by decide) (by decide)⟩, hH.2.1, hH.2.2, iTs, iC, by omega⟩
  · rw [hE] at qc
    obtain ⟨q1, q2, v, e, hM2, hT2, hH⟩ := qc
    rw [q1]
    change g 0 0 wc 17 [some (vr o)] [vi f, vr o]
    refine M.put fl_X11_22 rfl (isM_o hM2) rfl rfl (Nat.le_of_ble_eq_true rfl) ?_
    have hMp4 := isM_setU (u' := uN v 5 f) (fs := (Mf am v).set 5 (vi f)) hM2 rfl
    generalize up wc o (Ob 10 ((Mf am v).set 5 (vi f))) = wp4 at hMp4 ⊢
    refine M.run 2 (pc' := 22) (lv' := [some (vr o)]) (st' := [vr o, vr o]) rfl ?_
    refine M.get fl_X11_22 rfl (isM_o hMp4) (kf := 5) (v := vi ((uN v 5 f) 5)) rfl ?_
    rw [show (uN v 5 f) 5 = f from rfl]
    refine M.if_ne (tgt := 32) rfl (qI (by omega)) rfl (fun _ => ?_) (fun z => absurd z (by omega))
    have hpl := tk_pl hT2
    have e3 : e 3 = b 3 := hH.2.1 3 (by decide) (by decide)
    rw [e3] at hpl
    refine M.run 1 (pc' := 33) (lv' := [some (vr o)]) (st' := [vr o, vr o]) rfl ?_
    refine M.get fl_X11_88 rfl (isM_o hMp4) (kf := 8) (v := vi ((uN v 5 f) 8)) rfl ?_
    rw [show (uN v 5 f) 8 = (gTk (tkL (b 3) t) k).2.2 from hpl]
    refine M.put fl_X11_26 rfl (isM_o hMp4) rfl rfl (Nat.le_of_ble_eq_true rfl) ?_
    have hMp5 := isM_setU (u' := uN (uN v 5 f) 6 (((gTk (tkL (b 3) t) k).2.2))) (fs := (Mf am (uN v 5 f)).set 6 (vi (((gTk (tkL (b 3) t) k).2.2)))) hMp4 rfl
    generalize up wp4 o (Ob 10 ((Mf am (uN v 5 f)).set 6 (vi (((gTk (tkL (b 3) t) k).2.2))))) = wp5 at hMp5 ⊢
    refine M.run 2 (pc' := 41) (lv' := [some (vr o)]) (st' := [vi 0, vr o]) rfl ?_
    refine M.put fl_X11_75 rfl (isM_o hMp5) rfl rfl (Nat.le_of_ble_eq_true rfl) ?_
    have hMp6 := isM_setU (u' := uN ((uN (uN v 5 f) 6 (((gTk (tkL (b 3) t) k).2.2)))) 4 0) (fs := (Mf am ((uN (uN v 5 f) 6 (((gTk (tkL (b 3) t) k).2.2))))).set 4 (vi 0)) hMp5 rfl
    generalize up wp5 o (Ob 10 ((Mf am ((uN (uN v 5 f) 6 (((gTk (tkL (b 3) t) k).2.2))))).set 4 (vi 0))) = wp6 at hMp6 ⊢
    refine M.run 1 (pc' := 45) (lv' := [some (vr o)]) (st' := [vr o]) rfl ?_
    refine M.get fl_X11_22 rfl (isM_o hMp6) (kf := 5) (v := vi (((uN ((uN (uN v 5 f) 6 (((gTk (tkL (b 3) t) k).2.2)))) 4 0)) 5)) rfl ?_
    rw [show ((uN ((uN (uN v 5 f) 6 (((gTk (tkL (b 3) t) k).2.2)))) 4 0)) 5 = f from rfl]
    refine M.if_eq (tgt := 53) rfl (qI (by omega)) rfl (fun z => absurd z (by omega)) (fun _ => ?_)
    refine M.run 1 (pc' := 52) (lv' := [some (vr o)]) (st' := [vi (-1)]) rfl ?_
    refine M.iret rfl (Nat.zero_le _) (Nat.zero_le _) ?_
    rw [if_neg hn4, hE]
    exact ⟨rfl, _, e, hMp6, ⟨rfl, rfl, rfl, hH.1 23 (by decide) (by decide)⟩, q2, hH.2.1, hH.2.2⟩
