theorem gLR0 {D : Dy} {i k : Nat} (hi : i < 3) : gR (LR D 0) i k = D.1 (28 + 3 * k + i) := by
  match i, hi with
  | 0, _ => rfl
  | 1, _ => rfl
  | 2, _ => rfl
  | n + 3, h => exact absurd h (by omega)
theorem ofC2 {tl : Nat → Int} {D : Dy} (hT : tl 0 ≤ 3) (x : Int) : (if 0 ≤ x ∧ x < tl 0 then ((bPc (gR (LR D 0) x.toNat 2).toNat : Nat) : Int) else 0) = ofA (stA tl D) 2 x := by
  unfold ofA
  rw [show stA tl D 0 = tl 0 from rfl]
  by_cases h : 0 ≤ x ∧ x < tl 0
  · rw [if_pos h, if_neg (by omega), if_pos rfl, gLR0 (by omega), show stA tl D (34 + x.toNat) = D.1 (34 + x.toNat) from if_neg (by omega)]
  · rw [if_neg h, if_pos (by omega)]
theorem ofC3 {tl : Nat → Int} {D : Dy} (hT : tl 0 ≤ 3) (x : Int) : (if 0 ≤ x ∧ x < tl 0 then ((bPc (gR (LR D 0) x.toNat 3).toNat : Nat) : Int) else 0) = ofA (stA tl D) 4 x := by
  unfold ofA
  rw [show stA tl D 0 = tl 0 from rfl]
  by_cases h : 0 ≤ x ∧ x < tl 0
  · rw [if_pos h, if_neg (by omega), if_neg (by decide), gLR0 (by omega), show stA tl D (37 + x.toNat) = D.1 (37 + x.toNat) from if_neg (by omega)]
  · rw [if_neg h, if_pos (by omega)]
theorem hbt2 {n : Int} {D : Dy} (hd : Dok n D) : ∀ i k : Nat, i < 3 → k = 2 → 0 ≤ gR (LR D 0) i k ∧ gR (LR D 0) i k < 1073741824 := fun i k hi hk => by
  subst hk
  rw [gLR0 hi]
  have := Dok_bit hd (x := i) (by omega)
  rw [show 28 + 3 * 2 + i = 34 + i by omega]
  omega
theorem hbt3 {n : Int} {D : Dy} (hd : Dok n D) : ∀ i k : Nat, i < 3 → k = 3 → 0 ≤ gR (LR D 0) i k ∧ gR (LR D 0) i k < 1073741824 := fun i k hi hk => by
  subst hk
  rw [gLR0 hi]
  have := Dok_bit hd (x := 3 + i) (by omega)
  rw [show 34 + (3 + i) = 28 + 3 * 3 + i by omega] at this
  omega
/-- the law's two cells lie apart from what is told and the state -/
def apL (p q : Nat) (T A : Nat → Nat) : Prop := (∀ j : Nat, j < 6 → T j ≠ p ∧ T j ≠ q) ∧ ∀ j : Nat, j < 13 → A j ≠ p ∧ A j ≠ q
section QAP
variable {p q : Nat} {T A : Nat → Nat} {w w' : Wo} {tl fx sc : Nat → Int} {RL : Nat → List Rw}
theorem apL_T (h : apL p q T A) (hf : Frm p q w w') (ht : isTo T tl fx w) : isTo T tl fx w' := isTo_fr ht (fun j hj => hf _ (h.1 j hj).1 (h.1 j hj).2)
theorem apL_S (h : apL p q T A) (hf : Frm p q w w') (hs : isS2 A sc RL w) : isS2 A sc RL w' := by
  obtain ⟨h1, h2, h3⟩ := hs
  have e : ∀ j : Nat, j < 13 → lk w' (A j) = lk w (A j) := fun j hj => hf _ (h.2 j hj).1 (h.2 j hj).2
  exact ⟨(e 0 (by decide)).trans h1, fun r hr => isRw_fr (h2 r hr) (e _ (by omega)) (e _ (by omega)), h3⟩
end QAP

set_option maxHeartbeats 4000000 in
set_option maxRecDepth 100000 in
theorem kX2_value (l : Launch) (G : GT) (p q a1 m n0 : Nat) (V0 f : Nat → Int) (k0 b0 l0 kd bl la : Int) (T A : Nat → Nat) (tl fx : Nat → Int) (D : Dy) (nn : Int) (hT : Tok tl) (hd : Dok nn D) (hap : apL p q T A) (ha1 : a1 ≠ p ∧ a1 ≠ q) (hm : m ≤ 300) (hf : ∀ j : Nat, j < 2 * m → -2147483648 ≤ f j ∧ f j ≤ 2147483647) (hnm : ∀ k : Nat, k < 7 → bd6 (enC D.1 tl kd bl la k)) (V2 : Nat → Int) (k2 : Int) (hj0 : jrun (enC D.1 tl kd bl la) (ofA (stA tl D)) f m 0 (V0, 0, 0) = some (V2, 1, k2)) : Ctr l G yX2_value cX2_value 9 ((Option.some Jvm.ClassFile.FieldType.int)) 3 0 0 [vr p, vr a1, vi kd, vi bl, vi la] (fun w => isLa p q (T 0) (A 0) n0 V0 k0 b0 l0 w ∧ lk w a1 = some (Ar 0 (2 * m) f) ∧ isTo T tl fx w ∧ isSt A D w) (fun w r w' => r = some (vi (V2 0)) ∧ (∃ V n, isLa p q (T 0) (A 0) n V kd bl la w') ∧ Frm p q w w' ∧ bd6 (V2 0)) := by
  refine Ctr.of (t := tX2_value) (lv0 := [some (vr p), some (vr a1), some (vi kd), some (vi bl), some (vi la), none, none, none, none]) (by decide +kernel) tX2_value_ok rfl rfl (fun w g hP M => ?_)
  have hpq : p ≠ q := hP.1.ne
  have hqp : q ≠ p := fun e => hpq e.symm
  have htl0 : tl 0 ≤ 3 := (hT.1 0 (by decide)).2
  refine M.run 2 (pc' := 2) (lv' := [some (vr p), some (vr a1), some (vi kd), some (vi bl), some (vi la), none, none, none, none]) (st' := [vi kd, vr p]) rfl ?_
  refine M.put fl_X2_50 rfl hP.1.1 rfl rfl (Nat.le_of_ble_eq_true rfl) ?_
  have f2 : lk (up w p (Ob 1 ([vr (T 0), vr (A 0), vr q, vi ((n0 : Nat) : Int), vi k0, vi b0, vi l0].set 4 (vi kd)))) p = some (Ob 1 [vr (T 0), vr (A 0), vr q, vi ((n0 : Nat) : Int), vi kd, vi b0, vi l0]) := lk_up_s hP.1.1
  have f3 : lk (up w p (Ob 1 ([vr (T 0), vr (A 0), vr q, vi ((n0 : Nat) : Int), vi k0, vi b0, vi l0].set 4 (vi kd)))) q = some (Ar 0 300 V0) := (lk_up_n hqp).trans hP.1.2
  have fr4 : Frm p q w (up w p (Ob 1 ([vr (T 0), vr (A 0), vr q, vi ((n0 : Nat) : Int), vi k0, vi b0, vi l0].set 4 (vi kd)))) := (Frm.rf).u1
  generalize up w p (Ob 1 ([vr (T 0), vr (A 0), vr q, vi ((n0 : Nat) : Int), vi k0, vi b0, vi l0].set 4 (vi kd))) = w1 at f2 f3 fr4 ⊢
  refine M.run 2 (pc' := 7) (lv' := [some (vr p), some (vr a1), some (vi kd), some (vi bl), some (vi la), none, none, none, none]) (st' := [vi bl, vr p]) rfl ?_
  refine M.put fl_X2_53 rfl f2 rfl rfl (Nat.le_of_ble_eq_true rfl) ?_
  have f6 : lk (up w1 p (Ob 1 ([vr (T 0), vr (A 0), vr q, vi ((n0 : Nat) : Int), vi kd, vi b0, vi l0].set 5 (vi bl)))) p = some (Ob 1 [vr (T 0), vr (A 0), vr q, vi ((n0 : Nat) : Int), vi kd, vi bl, vi l0]) := lk_up_s f2
  have f7 : lk (up w1 p (Ob 1 ([vr (T 0), vr (A 0), vr q, vi ((n0 : Nat) : Int), vi kd, vi b0, vi l0].set 5 (vi bl)))) q = some (Ar 0 300 V0) := (lk_up_n hqp).trans f3
  have fr8 : Frm p q w (up w1 p (Ob 1 ([vr (T 0), vr (A 0), vr q, vi ((n0 : Nat) : Int), vi kd, vi b0, vi l0].set 5 (vi bl)))) := fr4.u1
  generalize up w1 p (Ob 1 ([vr (T 0), vr (A 0), vr q, vi ((n0 : Nat) : Int), vi kd, vi b0, vi l0].set 5 (vi bl))) = w5 at f6 f7 fr8 ⊢
  refine M.run 2 (pc' := 13) (lv' := [some (vr p), some (vr a1), some (vi kd), some (vi bl), some (vi la), none, none, none, none]) (st' := [vi la, vr p]) rfl ?_
  refine M.put fl_X2_56 rfl f6 rfl rfl (Nat.le_of_ble_eq_true rfl) ?_
  have f10 : lk (up w5 p (Ob 1 ([vr (T 0), vr (A 0), vr q, vi ((n0 : Nat) : Int), vi kd, vi bl, vi l0].set 6 (vi la)))) p = some (Ob 1 [vr (T 0), vr (A 0), vr q, vi ((n0 : Nat) : Int), vi kd, vi bl, vi la]) := lk_up_s f6
  have f11 : lk (up w5 p (Ob 1 ([vr (T 0), vr (A 0), vr q, vi ((n0 : Nat) : Int), vi kd, vi bl, vi l0].set 6 (vi la)))) q = some (Ar 0 300 V0) := (lk_up_n hqp).trans f7
  have fr12 : Frm p q w (up w5 p (Ob 1 ([vr (T 0), vr (A 0), vr q, vi ((n0 : Nat) : Int), vi kd, vi bl, vi l0].set 6 (vi la)))) := fr8.u1
  generalize up w5 p (Ob 1 ([vr (T 0), vr (A 0), vr q, vi ((n0 : Nat) : Int), vi kd, vi bl, vi l0].set 6 (vi la))) = w9 at f10 f11 fr12 ⊢
  refine M.run 2 (pc' := 18) (lv' := [some (vr p), some (vr a1), some (vi kd), some (vi bl), some (vi la), none, none, none, none]) (st' := [vi 0, vr p]) rfl ?_
  refine M.put fl_X2_59 rfl f10 rfl rfl (Nat.le_of_ble_eq_true rfl) ?_
  have f14 : lk (up w9 p (Ob 1 ([vr (T 0), vr (A 0), vr q, vi ((n0 : Nat) : Int), vi kd, vi bl, vi la].set 3 (vi 0)))) p = some (Ob 1 [vr (T 0), vr (A 0), vr q, vi 0, vi kd, vi bl, vi la]) := lk_up_s f10
  have f15 : lk (up w9 p (Ob 1 ([vr (T 0), vr (A 0), vr q, vi ((n0 : Nat) : Int), vi kd, vi bl, vi la].set 3 (vi 0)))) q = some (Ar 0 300 V0) := (lk_up_n hqp).trans f11
  have fr16 : Frm p q w (up w9 p (Ob 1 ([vr (T 0), vr (A 0), vr q, vi ((n0 : Nat) : Int), vi kd, vi bl, vi la].set 3 (vi 0)))) := fr12.u1
  generalize up w9 p (Ob 1 ([vr (T 0), vr (A 0), vr q, vi ((n0 : Nat) : Int), vi kd, vi bl, vi la].set 3 (vi 0))) = w13 at f14 f15 fr16 ⊢
  refine M.run 4 (pc' := 27) (lv' := [some (vr p), some (vr a1), some (vi kd), some (vi bl), some (vi la), some (vi 0), some (vi 0), none, none]) (st' := []) rfl ?_
  have Lp27 : ∀ (N : Nat) (U : Nat → Int) (e : Nat) (i : Nat) (sk : Int) (wv : Wo), (isLa p q (T 0) (A 0) e U kd bl la wv) → (Frm p q w wv) → (∀ k : Nat, k < e → bd6 (U k)) → (e ≤ i) → (i ≤ m) → (-2147483648 ≤ sk ∧ sk ≤ 2147483647) → (jrun (enC D.1 tl kd bl la) (ofA (stA tl D)) f (m - i) i (U, e, sk) = some (V2, 1, k2)) → m - i < N → g 0 0 wv 27 [some (vr p), some (vr a1), some (vi kd), some (vi bl), some (vi la), some (vi sk), some (vi ((2 * i : Nat) : Int)), none, none] [] := by
    intro N
    induction N with
    | zero => intro U e i sk wv _ _ _ _ _ _ _ hN; exact absurd hN (Nat.not_lt_zero _)
    | succ N ih27 =>
      intro U e i sk wv hla hfr hB hni him hsk hj hN
      refine M.run 4 (pc' := 32) (lv' := [some (vr p), some (vr a1), some (vi kd), some (vi bl), some (vi la), some (vi sk), some (vi ((2 * i : Nat) : Int)), none, none]) (st' := [vr a1, vi (((2 * i : Nat) : Int) + 1)]) rfl ?_
      refine M.alen rfl ((hfr a1 ha1.1 ha1.2).trans hP.2.1) (by decide) ?_
      refine M.icmp_ge (tgt := 254) rfl (qI (by omega)) (qI (by omega)) (by decide) (fun h33 => ?_) (fun h33 => ?_)
      · skip
        have him2 : i = m := by omega
        rw [him2, Nat.sub_self] at hj
        have hF : (U, e, sk) = (V2, 1, k2) := Option.some.inj hj
        have hF1 : U = V2 := congrArg Prod.fst hF
        have hF2 : e = 1 := congrArg (fun z : JS => z.2.1) hF
        have hb0 : bd6 (V2 0) := by rw [← hF1]; exact hB 0 (by omega)
        rw [hF1, hF2] at hla
        refine M.run 1 (pc' := 255) (lv' := [some (vr p), some (vr a1), some (vi kd), some (vi bl), some (vi la), some (vi sk), some (vi ((2 * i : Nat) : Int)), none, none]) (st' := [vr p]) rfl ?_
        refine M.callV (kX2_pop l G p q (T 0) (A 0) 0 V2 kd bl la (by omega)) cv_X2_62 cd_X2_pop rfl (st := []) rfl hla.1 (by decide) (by decide) rfl (Nat.zero_le _) (Nat.zero_le _) hla (fun r17 w18 q19 => ?_)
        obtain ⟨q19r, q19l, q19f⟩ := q19
        rw [q19r]
        have q19g : Frm p q w w18 := FrmT hfr q19f
        exact M.iret rfl (Nat.zero_le _) (Nat.zero_le _) ⟨rfl, ⟨_, _, q19l⟩, q19g, hb0⟩
      · skip
        have hf0 := hf (2 * i) (by omega)
        have hf1 := hf (2 * i + 1) (by omega)
        refine M.run 2 (pc' := 40) (lv' := [some (vr p), some (vr a1), some (vi kd), some (vi bl), some (vi la), some (vi sk), some (vi ((2 * i : Nat) : Int)), none, none]) (st' := [vi sk, vi ((2 * i : Nat) : Int)]) rfl ?_
        refine M.icmp_ge (tgt := 46) rfl (qI (by omega)) (qI (by omega)) (by decide) (fun h40 => ?_) (fun h40 => ?_)
        · skip
          obtain ⟨S2, hs, hj1⟩ := jrun_s (S := (U, e, sk)) (by omega) (show ¬ ((2 * i : Nat) : Int) < sk by omega) hj
          obtain ⟨hB2, hn2⟩ := jst_B hnm (ofA_b (stA tl D)) hs hB
          refine M.run 2 (pc' := 49) (lv' := [some (vr p), some (vr a1), some (vi kd), some (vi bl), some (vi la), some (vi sk), some (vi ((2 * i : Nat) : Int)), none, none]) (st' := [vi ((2 * i : Nat) : Int), vr a1]) rfl ?_
          refine M.ialdN (2 * i) rfl ((hfr a1 ha1.1 ha1.2).trans hP.2.1) (by omega) (by omega) ?_
          refine M.run 5 (pc' := 57) (lv' := [some (vr p), some (vr a1), some (vi kd), some (vi bl), some (vi la), some (vi sk), some (vi ((2 * i : Nat) : Int)), some (vi (f (2 * i))), none]) (st' := [vi (((2 * i : Nat) : Int) + 1), vr a1]) rfl ?_
          refine M.ialdN (2 * i + 1) rfl ((hfr a1 ha1.1 ha1.2).trans hP.2.1) (by omega) (by omega) ?_
          refine M.run 2 (pc' := 62) (lv' := [some (vr p), some (vr a1), some (vi kd), some (vi bl), some (vi la), some (vi sk), some (vi ((2 * i : Nat) : Int)), some (vi (f (2 * i))), some (vi (f (2 * i + 1)))]) (st' := [vi (f (2 * i))]) rfl ?_
          by_cases hs62_0 : f (2 * i) = 8
          · refine M.lsw (tgt := 183) (off := 121) rfl (qI (by omega)) (by decide) (by rw [hs62_0]; rfl) (by decide) ?_
            obtain ⟨he1, rfl⟩ := jst_8 hs (Or.inl hs62_0)
            rw [if_pos hs62_0] at hj1 hB2
            have hv1 := (hB (e - 1) (by omega)).1
            have hv2 := (hB (e - 1) (by omega)).2
            refine M.run 3 (pc' := 186) (lv' := [some (vr p), some (vr a1), some (vi kd), some (vi bl), some (vi la), some (vi sk), some (vi ((2 * i : Nat) : Int)), some (vi (f (2 * i))), some (vi (f (2 * i + 1)))]) (st' := [vr p, vr p, vr p]) rfl ?_
            refine M.callV (kX2_pop l G p q (T 0) (A 0) (e - 1) U kd bl la (by omega)) cv_X2_62 cd_X2_pop rfl (st := [vr p, vr p]) rfl hla.1 (by decide) (by decide) rfl (Nat.zero_le _) (Nat.zero_le _) (by rw [Nat.sub_add_cancel (by omega)]; exact hla) (fun r21 w22 q23 => ?_)
            obtain ⟨q23r, q23l, q23f⟩ := q23
            rw [q23r]
            have q23g : Frm p q w w22 := FrmT hfr q23f
            refine M.run 1 (pc' := 190) (lv' := [some (vr p), some (vr a1), some (vi kd), some (vi bl), some (vi la), some (vi sk), some (vi ((2 * i : Nat) : Int)), some (vi (f (2 * i))), some (vi (f (2 * i + 1)))]) (st' := [vi 2, vi (U (e - 1)), vr p, vr p]) rfl ?_
            refine M.callV (kX2_bytesOf l G p q (e - 1) U kd bl la T A tl fx D.1 (LR D) hT rfl (U (e - 1)) ⟨by omega, by omega⟩ 2 (by decide) (hbt2 hd)) cv_X2_70 cd_X2_bytesOf rfl (st := [vr p]) rfl q23l.1 (by decide) (by decide) rfl (Nat.zero_le _) (Nat.zero_le _) ⟨q23l, apL_T hap q23g hP.2.2.1, apL_S hap q23g hP.2.2.2⟩ (fun r25 w26 q27 => ?_)
            rw [q27.1, q27.2, ofC2 htl0]
            refine M.callV (kX2_push l G p q (T 0) (A 0) (e - 1) U kd bl la (ofA (stA tl D) 2 (U (e - 1))) (by omega)) cv_X2_66 cd_X2_push rfl (st := []) rfl q23l.1 (by decide) (by decide) rfl (Nat.zero_le _) (Nat.zero_le _) q23l (fun r29 w30 q31 => ?_)
            obtain ⟨q31r, q31l, q31f⟩ := q31
            rw [q31r]
            have q31g : Frm p q w w30 := FrmT q23g q31f
            refine M.run 1 (pc' := 248) (lv' := [some (vr p), some (vr a1), some (vi kd), some (vi bl), some (vi la), some (vi sk), some (vi ((2 * i : Nat) : Int)), some (vi (f (2 * i))), some (vi (f (2 * i + 1)))]) (st' := []) rfl ?_
            have hlz := q31l
            rw [show e - 1 + 1 = e from by omega] at hlz
            have hjn := hj1
            have hle : e ≤ i + 1 := Nat.le_trans hn2 (by show e + 1 ≤ i + 1; omega)
            refine M.run 1 (pc' := 251) (lv' := [some (vr p), some (vr a1), some (vi kd), some (vi bl), some (vi la), some (vi sk), some (vi (((2 * i : Nat) : Int) + 2)), some (vi (f (2 * i))), some (vi (f (2 * i + 1)))]) (st' := []) rfl ?_
            rw [show ((2 * i : Nat) : Int) + 2 = ((2 * (i + 1) : Nat) : Int) from by omega]
            refine M.run 1 (pc' := 27) (lv' := [some (vr p), some (vr a1), some (vi kd), some (vi bl), some (vi la), some (vi sk), some (vi ((2 * (i + 1) : Nat) : Int)), some (vi (f (2 * i))), some (vi (f (2 * i + 1)))]) (st' := []) rfl ?_
            refine M.fgt [false, false, false, false, false, false, false, true, true] ?_
            exact ih27 (uN U (e - 1) (ofA (stA tl D) 2 (U (e - 1)))) e (i + 1) sk w30 hlz q31g hB2 (by omega) (by omega) ⟨by omega, by omega⟩ hjn (by omega)
          by_cases hs62_1 : f (2 * i) = 9
          · refine M.lsw (tgt := 199) (off := 137) rfl (qI (by omega)) (by decide) (by rw [hs62_1]; rfl) (by decide) ?_
            obtain ⟨he1, rfl⟩ := jst_8 hs (Or.inr hs62_1)
            rw [if_neg hs62_0] at hj1 hB2
            have hv1 := (hB (e - 1) (by omega)).1
            have hv2 := (hB (e - 1) (by omega)).2
            refine M.run 3 (pc' := 202) (lv' := [some (vr p), some (vr a1), some (vi kd), some (vi bl), some (vi la), some (vi sk), some (vi ((2 * i : Nat) : Int)), some (vi (f (2 * i))), some (vi (f (2 * i + 1)))]) (st' := [vr p, vr p, vr p]) rfl ?_
            refine M.callV (kX2_pop l G p q (T 0) (A 0) (e - 1) U kd bl la (by omega)) cv_X2_62 cd_X2_pop rfl (st := [vr p, vr p]) rfl hla.1 (by decide) (by decide) rfl (Nat.zero_le _) (Nat.zero_le _) (by rw [Nat.sub_add_cancel (by omega)]; exact hla) (fun r33 w34 q35 => ?_)
            obtain ⟨q35r, q35l, q35f⟩ := q35
            rw [q35r]
            have q35g : Frm p q w w34 := FrmT hfr q35f
            refine M.run 1 (pc' := 206) (lv' := [some (vr p), some (vr a1), some (vi kd), some (vi bl), some (vi la), some (vi sk), some (vi ((2 * i : Nat) : Int)), some (vi (f (2 * i))), some (vi (f (2 * i + 1)))]) (st' := [vi 3, vi (U (e - 1)), vr p, vr p]) rfl ?_
            refine M.callV (kX2_bytesOf l G p q (e - 1) U kd bl la T A tl fx D.1 (LR D) hT rfl (U (e - 1)) ⟨by omega, by omega⟩ 3 (by decide) (hbt3 hd)) cv_X2_70 cd_X2_bytesOf rfl (st := [vr p]) rfl q35l.1 (by decide) (by decide) rfl (Nat.zero_le _) (Nat.zero_le _) ⟨q35l, apL_T hap q35g hP.2.2.1, apL_S hap q35g hP.2.2.2⟩ (fun r37 w38 q39 => ?_)
            rw [q39.1, q39.2, ofC3 htl0]
            refine M.callV (kX2_push l G p q (T 0) (A 0) (e - 1) U kd bl la (ofA (stA tl D) 4 (U (e - 1))) (by omega)) cv_X2_66 cd_X2_push rfl (st := []) rfl q35l.1 (by decide) (by decide) rfl (Nat.zero_le _) (Nat.zero_le _) q35l (fun r41 w42 q43 => ?_)
            obtain ⟨q43r, q43l, q43f⟩ := q43
            rw [q43r]
            have q43g : Frm p q w w42 := FrmT q35g q43f
            refine M.run 1 (pc' := 248) (lv' := [some (vr p), some (vr a1), some (vi kd), some (vi bl), some (vi la), some (vi sk), some (vi ((2 * i : Nat) : Int)), some (vi (f (2 * i))), some (vi (f (2 * i + 1)))]) (st' := []) rfl ?_
            have hlz := q43l
            rw [show e - 1 + 1 = e from by omega] at hlz
            have hjn := hj1
            have hle : e ≤ i + 1 := Nat.le_trans hn2 (by show e + 1 ≤ i + 1; omega)
            refine M.run 1 (pc' := 251) (lv' := [some (vr p), some (vr a1), some (vi kd), some (vi bl), some (vi la), some (vi sk), some (vi (((2 * i : Nat) : Int) + 2)), some (vi (f (2 * i))), some (vi (f (2 * i + 1)))]) (st' := []) rfl ?_
            rw [show ((2 * i : Nat) : Int) + 2 = ((2 * (i + 1) : Nat) : Int) from by omega]
            refine M.run 1 (pc' := 27) (lv' := [some (vr p), some (vr a1), some (vi kd), some (vi bl), some (vi la), some (vi sk), some (vi ((2 * (i + 1) : Nat) : Int)), some (vi (f (2 * i))), some (vi (f (2 * i + 1)))]) (st' := []) rfl ?_
            refine M.fgt [false, false, false, false, false, false, false, true, true] ?_
            exact ih27 (uN U (e - 1) (ofA (stA tl D) 4 (U (e - 1)))) e (i + 1) sk w42 hlz q43g hB2 (by omega) (by omega) ⟨by omega, by omega⟩ hjn (by omega)
          by_cases hs62_2 : f (2 * i) = 16
          · refine M.lsw (tgt := 170) (off := 108) rfl (qI (by omega)) (by decide) (by rw [hs62_2]; rfl) (by decide) ?_
            obtain ⟨⟨he1, h01⟩, rfl⟩ := jst_16 hs hs62_2
            have hv1 := (hB (e - 1) (by omega)).1
            have hv2 := (hB (e - 1) (by omega)).2
            refine M.run 3 (pc' := 173) (lv' := [some (vr p), some (vr a1), some (vi kd), some (vi bl), some (vi la), some (vi sk), some (vi ((2 * i : Nat) : Int)), some (vi (f (2 * i))), some (vi (f (2 * i + 1)))]) (st' := [vr p, vi 1, vr p]) rfl ?_
            refine M.callV (kX2_pop l G p q (T 0) (A 0) (e - 1) U kd bl la (by omega)) cv_X2_62 cd_X2_pop rfl (st := [vi 1, vr p]) rfl hla.1 (by decide) (by decide) rfl (Nat.zero_le _) (Nat.zero_le _) (by rw [Nat.sub_add_cancel (by omega)]; exact hla) (fun r45 w46 q47 => ?_)
            obtain ⟨q47r, q47l, q47f⟩ := q47
            rw [q47r]
            have q47g : Frm p q w w46 := FrmT hfr q47f
            refine M.run 1 (pc' := 177) (lv' := [some (vr p), some (vr a1), some (vi kd), some (vi bl), some (vi la), some (vi sk), some (vi ((2 * i : Nat) : Int)), some (vi (f (2 * i))), some (vi (f (2 * i + 1)))]) (st' := [vi (1 - (U (e - 1))), vr p]) rfl ?_
            refine M.callV (kX2_push l G p q (T 0) (A 0) (e - 1) U kd bl la (1 - (U (e - 1))) (by omega)) cv_X2_66 cd_X2_push rfl (st := []) rfl q47l.1 (by decide) (by decide) rfl (Nat.zero_le _) (Nat.zero_le _) q47l (fun r49 w50 q51 => ?_)
            obtain ⟨q51r, q51l, q51f⟩ := q51
            rw [q51r]
            have q51g : Frm p q w w50 := FrmT q47g q51f
            refine M.run 1 (pc' := 248) (lv' := [some (vr p), some (vr a1), some (vi kd), some (vi bl), some (vi la), some (vi sk), some (vi ((2 * i : Nat) : Int)), some (vi (f (2 * i))), some (vi (f (2 * i + 1)))]) (st' := []) rfl ?_
            have hlz := q51l
            rw [show e - 1 + 1 = e from by omega] at hlz
            have hjn := hj1
            have hle : e ≤ i + 1 := Nat.le_trans hn2 (by show e + 1 ≤ i + 1; omega)
            refine M.run 1 (pc' := 251) (lv' := [some (vr p), some (vr a1), some (vi kd), some (vi bl), some (vi la), some (vi sk), some (vi (((2 * i : Nat) : Int) + 2)), some (vi (f (2 * i))), some (vi (f (2 * i + 1)))]) (st' := []) rfl ?_
            rw [show ((2 * i : Nat) : Int) + 2 = ((2 * (i + 1) : Nat) : Int) from by omega]
            refine M.run 1 (pc' := 27) (lv' := [some (vr p), some (vr a1), some (vi kd), some (vi bl), some (vi la), some (vi sk), some (vi ((2 * (i + 1) : Nat) : Int)), some (vi (f (2 * i))), some (vi (f (2 * i + 1)))]) (st' := []) rfl ?_
            refine M.fgt [false, false, false, false, false, false, false, true, true] ?_
            exact ih27 (uN U (e - 1) (1 - (U (e - 1)))) e (i + 1) sk w50 hlz q51g hB2 (by omega) (by omega) ⟨by omega, by omega⟩ hjn (by omega)
          by_cases hs62_3 : f (2 * i) = 50
          · refine M.lsw (tgt := 149) (off := 87) rfl (qI (by omega)) (by decide) (by rw [hs62_3]; rfl) (by decide) ?_
            obtain ⟨hq5, rfl⟩ := jst_50 hs hs62_3
            refine M.run 2 (pc' := 152) (lv' := [some (vr p), some (vr a1), some (vi kd), some (vi bl), some (vi la), some (vi sk), some (vi ((2 * i : Nat) : Int)), some (vi (f (2 * i))), some (vi (f (2 * i + 1)))]) (st' := [vi (f (2 * i + 1)), vr p]) rfl ?_
            refine M.callV (kX2_push l G p q (T 0) (A 0) e U kd bl la (f (2 * i + 1)) (by omega)) cv_X2_66 cd_X2_push rfl (st := []) rfl hla.1 (by decide) (by decide) rfl (Nat.zero_le _) (Nat.zero_le _) hla (fun r53 w54 q55 => ?_)
            obtain ⟨q55r, q55l, q55f⟩ := q55
            rw [q55r]
            have q55g : Frm p q w w54 := FrmT hfr q55f
            refine M.run 1 (pc' := 248) (lv' := [some (vr p), some (vr a1), some (vi kd), some (vi bl), some (vi la), some (vi sk), some (vi ((2 * i : Nat) : Int)), some (vi (f (2 * i))), some (vi (f (2 * i + 1)))]) (st' := []) rfl ?_
            have hjn := hj1
            have hle : (e + 1) ≤ i + 1 := Nat.le_trans hn2 (by show e + 1 ≤ i + 1; omega)
            refine M.run 1 (pc' := 251) (lv' := [some (vr p), some (vr a1), some (vi kd), some (vi bl), some (vi la), some (vi sk), some (vi (((2 * i : Nat) : Int) + 2)), some (vi (f (2 * i))), some (vi (f (2 * i + 1)))]) (st' := []) rfl ?_
            rw [show ((2 * i : Nat) : Int) + 2 = ((2 * (i + 1) : Nat) : Int) from by omega]
            refine M.run 1 (pc' := 27) (lv' := [some (vr p), some (vr a1), some (vi kd), some (vi bl), some (vi la), some (vi sk), some (vi ((2 * (i + 1) : Nat) : Int)), some (vi (f (2 * i))), some (vi (f (2 * i + 1)))]) (st' := []) rfl ?_
            refine M.fgt [false, false, false, false, false, false, false, true, true] ?_
            exact ih27 (uN U e (f (2 * i + 1))) (e + 1) (i + 1) sk w54 q55l q55g hB2 (by omega) (by omega) ⟨by omega, by omega⟩ hjn (by omega)
          by_cases hs62_4 : f (2 * i) = 60
          · refine M.lsw (tgt := 158) (off := 96) rfl (qI (by omega)) (by decide) (by rw [hs62_4]; rfl) (by decide) ?_
            obtain ⟨he1, rfl⟩ := jst_60 hs hs62_4
            have hv1 := (hB (e - 1) (by omega)).1
            have hv2 := (hB (e - 1) (by omega)).2
            refine M.run 2 (pc' := 160) (lv' := [some (vr p), some (vr a1), some (vi kd), some (vi bl), some (vi la), some (vi sk), some (vi ((2 * i : Nat) : Int)), some (vi (f (2 * i))), some (vi (f (2 * i + 1)))]) (st' := [vr p, vr p]) rfl ?_
            refine M.callV (kX2_pop l G p q (T 0) (A 0) (e - 1) U kd bl la (by omega)) cv_X2_62 cd_X2_pop rfl (st := [vr p]) rfl hla.1 (by decide) (by decide) rfl (Nat.zero_le _) (Nat.zero_le _) (by rw [Nat.sub_add_cancel (by omega)]; exact hla) (fun r57 w58 q59 => ?_)
            obtain ⟨q59r, q59l, q59f⟩ := q59
            rw [q59r]
            have q59g : Frm p q w w58 := FrmT hfr q59f
            refine M.run 1 (pc' := 164) (lv' := [some (vr p), some (vr a1), some (vi kd), some (vi bl), some (vi la), some (vi sk), some (vi ((2 * i : Nat) : Int)), some (vi (f (2 * i))), some (vi (f (2 * i + 1)))]) (st' := [vi (-(U (e - 1))), vr p]) rfl ?_
            refine M.callV (kX2_push l G p q (T 0) (A 0) (e - 1) U kd bl la (-(U (e - 1))) (by omega)) cv_X2_66 cd_X2_push rfl (st := []) rfl q59l.1 (by decide) (by decide) rfl (Nat.zero_le _) (Nat.zero_le _) q59l (fun r61 w62 q63 => ?_)
            obtain ⟨q63r, q63l, q63f⟩ := q63
            rw [q63r]
            have q63g : Frm p q w w62 := FrmT q59g q63f
            refine M.run 1 (pc' := 248) (lv' := [some (vr p), some (vr a1), some (vi kd), some (vi bl), some (vi la), some (vi sk), some (vi ((2 * i : Nat) : Int)), some (vi (f (2 * i))), some (vi (f (2 * i + 1)))]) (st' := []) rfl ?_
            have hlz := q63l
            rw [show e - 1 + 1 = e from by omega] at hlz
            have hjn := hj1
            have hle : e ≤ i + 1 := Nat.le_trans hn2 (by show e + 1 ≤ i + 1; omega)
            refine M.run 1 (pc' := 251) (lv' := [some (vr p), some (vr a1), some (vi kd), some (vi bl), some (vi la), some (vi sk), some (vi (((2 * i : Nat) : Int) + 2)), some (vi (f (2 * i))), some (vi (f (2 * i + 1)))]) (st' := []) rfl ?_
            rw [show ((2 * i : Nat) : Int) + 2 = ((2 * (i + 1) : Nat) : Int) from by omega]
            refine M.run 1 (pc' := 27) (lv' := [some (vr p), some (vr a1), some (vi kd), some (vi bl), some (vi la), some (vi sk), some (vi ((2 * (i + 1) : Nat) : Int)), some (vi (f (2 * i))), some (vi (f (2 * i + 1)))]) (st' := []) rfl ?_
            refine M.fgt [false, false, false, false, false, false, false, true, true] ?_
            exact ih27 (uN U (e - 1) (-(U (e - 1)))) e (i + 1) sk w62 hlz q63g hB2 (by omega) (by omega) ⟨by omega, by omega⟩ hjn (by omega)
          by_cases hs62_5 : f (2 * i) = 61
          · refine M.lsw (tgt := 128) (off := 66) rfl (qI (by omega)) (by decide) (by rw [hs62_5]; rfl) (by decide) ?_
            obtain ⟨he1, rfl⟩ := jst_61 hs hs62_5
            have hv1 := (hB (e - 1) (by omega)).1
            have hv2 := (hB (e - 1) (by omega)).2
            refine M.run 1 (pc' := 129) (lv' := [some (vr p), some (vr a1), some (vi kd), some (vi bl), some (vi la), some (vi sk), some (vi ((2 * i : Nat) : Int)), some (vi (f (2 * i))), some (vi (f (2 * i + 1)))]) (st' := [vr p]) rfl ?_
            refine M.callV (kX2_pop l G p q (T 0) (A 0) (e - 1) U kd bl la (by omega)) cv_X2_62 cd_X2_pop rfl (st := []) rfl hla.1 (by decide) (by decide) rfl (Nat.zero_le _) (Nat.zero_le _) (by rw [Nat.sub_add_cancel (by omega)]; exact hla) (fun r65 w66 q67 => ?_)
            obtain ⟨q67r, q67l, q67f⟩ := q67
            rw [q67r]
            have q67g : Frm p q w w66 := FrmT hfr q67f
            refine M.if_ne (tgt := 248) rfl (qI (by omega)) (by decide) (fun h132 => ?_) (fun h132 => ?_)
            · skip
              rw [if_neg h132] at hj1
              have hjn := hj1
              have hle : (e - 1) ≤ i + 1 := Nat.le_trans hn2 (by show e + 1 ≤ i + 1; omega)
              refine M.run 1 (pc' := 251) (lv' := [some (vr p), some (vr a1), some (vi kd), some (vi bl), some (vi la), some (vi sk), some (vi (((2 * i : Nat) : Int) + 2)), some (vi (f (2 * i))), some (vi (f (2 * i + 1)))]) (st' := []) rfl ?_
              rw [show ((2 * i : Nat) : Int) + 2 = ((2 * (i + 1) : Nat) : Int) from by omega]
              refine M.run 1 (pc' := 27) (lv' := [some (vr p), some (vr a1), some (vi kd), some (vi bl), some (vi la), some (vi sk), some (vi ((2 * (i + 1) : Nat) : Int)), some (vi (f (2 * i))), some (vi (f (2 * i + 1)))]) (st' := []) rfl ?_
              refine M.fgt [false, false, false, false, false, false, false, true, true] ?_
              exact ih27 U (e - 1) (i + 1) sk w66 q67l q67g hB2 (by omega) (by omega) ⟨by omega, by omega⟩ hjn (by omega)
            · skip
              refine M.run 3 (pc' := 248) (lv' := [some (vr p), some (vr a1), some (vi kd), some (vi bl), some (vi la), some (vi (f (2 * i + 1))), some (vi ((2 * i : Nat) : Int)), some (vi (f (2 * i))), some (vi (f (2 * i + 1)))]) (st' := []) rfl ?_
              rw [if_pos h132] at hj1
              have hjn := hj1
              have hle : (e - 1) ≤ i + 1 := Nat.le_trans hn2 (by show e + 1 ≤ i + 1; omega)
              refine M.run 1 (pc' := 251) (lv' := [some (vr p), some (vr a1), some (vi kd), some (vi bl), some (vi la), some (vi (f (2 * i + 1))), some (vi (((2 * i : Nat) : Int) + 2)), some (vi (f (2 * i))), some (vi (f (2 * i + 1)))]) (st' := []) rfl ?_
              rw [show ((2 * i : Nat) : Int) + 2 = ((2 * (i + 1) : Nat) : Int) from by omega]
              refine M.run 1 (pc' := 27) (lv' := [some (vr p), some (vr a1), some (vi kd), some (vi bl), some (vi la), some (vi (f (2 * i + 1))), some (vi ((2 * (i + 1) : Nat) : Int)), some (vi (f (2 * i))), some (vi (f (2 * i + 1)))]) (st' := []) rfl ?_
              refine M.fgt [false, false, false, false, false, false, false, true, true] ?_
              exact ih27 U (e - 1) (i + 1) (f (2 * i + 1)) w66 q67l q67g hB2 (by omega) (by omega) ⟨by omega, by omega⟩ hjn (by omega)
          by_cases hs62_6 : f (2 * i) = 62
          · refine M.lsw (tgt := 142) (off := 80) rfl (qI (by omega)) (by decide) (by rw [hs62_6]; rfl) (by decide) ?_
            obtain rfl := jst_62 hs hs62_6
            refine M.run 3 (pc' := 248) (lv' := [some (vr p), some (vr a1), some (vi kd), some (vi bl), some (vi la), some (vi (f (2 * i + 1))), some (vi ((2 * i : Nat) : Int)), some (vi (f (2 * i))), some (vi (f (2 * i + 1)))]) (st' := []) rfl ?_
            have hjn := hj1
            have hle : e ≤ i + 1 := Nat.le_trans hn2 (by show e + 1 ≤ i + 1; omega)
            refine M.run 1 (pc' := 251) (lv' := [some (vr p), some (vr a1), some (vi kd), some (vi bl), some (vi la), some (vi (f (2 * i + 1))), some (vi (((2 * i : Nat) : Int) + 2)), some (vi (f (2 * i))), some (vi (f (2 * i + 1)))]) (st' := []) rfl ?_
            rw [show ((2 * i : Nat) : Int) + 2 = ((2 * (i + 1) : Nat) : Int) from by omega]
            refine M.run 1 (pc' := 27) (lv' := [some (vr p), some (vr a1), some (vi kd), some (vi bl), some (vi la), some (vi (f (2 * i + 1))), some (vi ((2 * (i + 1) : Nat) : Int)), some (vi (f (2 * i))), some (vi (f (2 * i + 1)))]) (st' := []) rfl ?_
            refine M.fgt [false, false, false, false, false, false, false, true, true] ?_
            exact ih27 U e (i + 1) (f (2 * i + 1)) wv hla hfr hB2 (by omega) (by omega) ⟨by omega, by omega⟩ hjn (by omega)
          refine M.lsw (tgt := 215) (off := 153) rfl (qI (by omega)) (by decide) (by rw [Op.lookupswitch.offset_cons, if_neg (fun q => hs62_0 q.symm), Op.lookupswitch.offset_cons, if_neg (fun q => hs62_1 q.symm), Op.lookupswitch.offset_cons, if_neg (fun q => hs62_2 q.symm), Op.lookupswitch.offset_cons, if_neg (fun q => hs62_3 q.symm), Op.lookupswitch.offset_cons, if_neg (fun q => hs62_4 q.symm), Op.lookupswitch.offset_cons, if_neg (fun q => hs62_5 q.symm), Op.lookupswitch.offset_cons, if_neg (fun q => hs62_6 q.symm)]; rfl) (by decide) ?_
          refine M.run 2 (pc' := 219) (lv' := [some (vr p), some (vr a1), some (vi kd), some (vi bl), some (vi la), some (vi sk), some (vi ((2 * i : Nat) : Int)), some (vi (f (2 * i))), some (vi (f (2 * i + 1)))]) (st' := [vi 17, vi (f (2 * i))]) rfl ?_
          refine M.icmp_lt (tgt := 242) rfl (qI (by omega)) (qI (by decide)) (by decide) (fun h219 => ?_) (fun h219 => ?_)
          · skip
            have hj2 := jst_2 hs hs62_5 hs62_6 hs62_3 hs62_4 hs62_2 (fun z => z.elim hs62_0 hs62_1) (by omega)
            obtain rfl := hj2.2
            have hee := hj2.1.2.1
            refine M.run 2 (pc' := 245) (lv' := [some (vr p), some (vr a1), some (vi kd), some (vi bl), some (vi la), some (vi sk), some (vi ((2 * i : Nat) : Int)), some (vi (f (2 * i))), some (vi (f (2 * i + 1)))]) (st' := [vi (f (2 * i)), vr p]) rfl ?_
            refine M.callV (kX2_pushOfTwo l G p q (T 0) (A 0) (e - 2) U kd bl la (by omega) (f (2 * i)) hj2.1.1 (hB _ (by omega)) (by rw [show e - 2 + 1 = e - 1 from by omega]; exact hB _ (by omega)) (by rw [show e - 2 + 1 = e - 1 from by omega]; exact hj2.1.2.2)) cv_X2_77 cd_X2_pushOfTwo rfl (st := []) rfl hla.1 (by decide) (by decide) rfl (Nat.zero_le _) (Nat.zero_le _) (by rw [show e - 2 + 2 = e from by omega]; exact hla) (fun r69 w70 q71 => ?_)
            obtain ⟨q71r, q71l, q71f⟩ := q71
            rw [q71r]
            have q71g : Frm p q w w70 := FrmT hfr q71f
            rw [show e - 2 + 1 = e - 1 from by omega] at q71l
            have hjn := hj1
            have hle : (e - 1) ≤ i + 1 := Nat.le_trans hn2 (by show e + 1 ≤ i + 1; omega)
            refine M.run 1 (pc' := 251) (lv' := [some (vr p), some (vr a1), some (vi kd), some (vi bl), some (vi la), some (vi sk), some (vi (((2 * i : Nat) : Int) + 2)), some (vi (f (2 * i))), some (vi (f (2 * i + 1)))]) (st' := []) rfl ?_
            rw [show ((2 * i : Nat) : Int) + 2 = ((2 * (i + 1) : Nat) : Int) from by omega]
            refine M.run 1 (pc' := 27) (lv' := [some (vr p), some (vr a1), some (vi kd), some (vi bl), some (vi la), some (vi sk), some (vi ((2 * (i + 1) : Nat) : Int)), some (vi (f (2 * i))), some (vi (f (2 * i + 1)))]) (st' := []) rfl ?_
            refine M.fgt [false, false, false, false, false, false, false, true, true] ?_
            exact ih27 (uN U (e - 2) (twoC (f (2 * i)) (U (e - 2)) (U (e - 1)))) (e - 1) (i + 1) sk w70 q71l q71g hB2 (by omega) (by omega) ⟨by omega, by omega⟩ hjn (by omega)
          · skip
            refine M.run 2 (pc' := 226) (lv' := [some (vr p), some (vr a1), some (vi kd), some (vi bl), some (vi la), some (vi sk), some (vi ((2 * i : Nat) : Int)), some (vi (f (2 * i))), some (vi (f (2 * i + 1)))]) (st' := [vi 23, vi (f (2 * i))]) rfl ?_
            refine M.icmp_gt (tgt := 242) rfl (qI (by omega)) (qI (by decide)) (by decide) (fun h226 => ?_) (fun h226 => ?_)
            · skip
              have hj2 := jst_2 hs hs62_5 hs62_6 hs62_3 hs62_4 hs62_2 (fun z => z.elim hs62_0 hs62_1) (by omega)
              obtain rfl := hj2.2
              have hee := hj2.1.2.1
              refine M.run 2 (pc' := 245) (lv' := [some (vr p), some (vr a1), some (vi kd), some (vi bl), some (vi la), some (vi sk), some (vi ((2 * i : Nat) : Int)), some (vi (f (2 * i))), some (vi (f (2 * i + 1)))]) (st' := [vi (f (2 * i)), vr p]) rfl ?_
              refine M.callV (kX2_pushOfTwo l G p q (T 0) (A 0) (e - 2) U kd bl la (by omega) (f (2 * i)) hj2.1.1 (hB _ (by omega)) (by rw [show e - 2 + 1 = e - 1 from by omega]; exact hB _ (by omega)) (by rw [show e - 2 + 1 = e - 1 from by omega]; exact hj2.1.2.2)) cv_X2_77 cd_X2_pushOfTwo rfl (st := []) rfl hla.1 (by decide) (by decide) rfl (Nat.zero_le _) (Nat.zero_le _) (by rw [show e - 2 + 2 = e from by omega]; exact hla) (fun r73 w74 q75 => ?_)
              obtain ⟨q75r, q75l, q75f⟩ := q75
              rw [q75r]
              have q75g : Frm p q w w74 := FrmT hfr q75f
              rw [show e - 2 + 1 = e - 1 from by omega] at q75l
              have hjn := hj1
              have hle : (e - 1) ≤ i + 1 := Nat.le_trans hn2 (by show e + 1 ≤ i + 1; omega)
              refine M.run 1 (pc' := 251) (lv' := [some (vr p), some (vr a1), some (vi kd), some (vi bl), some (vi la), some (vi sk), some (vi (((2 * i : Nat) : Int) + 2)), some (vi (f (2 * i))), some (vi (f (2 * i + 1)))]) (st' := []) rfl ?_
              rw [show ((2 * i : Nat) : Int) + 2 = ((2 * (i + 1) : Nat) : Int) from by omega]
              refine M.run 1 (pc' := 27) (lv' := [some (vr p), some (vr a1), some (vi kd), some (vi bl), some (vi la), some (vi sk), some (vi ((2 * (i + 1) : Nat) : Int)), some (vi (f (2 * i))), some (vi (f (2 * i + 1)))]) (st' := []) rfl ?_
              refine M.fgt [false, false, false, false, false, false, false, true, true] ?_
              exact ih27 (uN U (e - 2) (twoC (f (2 * i)) (U (e - 2)) (U (e - 1)))) (e - 1) (i + 1) sk w74 q75l q75g hB2 (by omega) (by omega) ⟨by omega, by omega⟩ hjn (by omega)
            · skip
              obtain rfl := jst_17 hs ⟨by omega, by omega⟩
              refine M.run 3 (pc' := 233) (lv' := [some (vr p), some (vr a1), some (vi kd), some (vi bl), some (vi la), some (vi sk), some (vi ((2 * i : Nat) : Int)), some (vi (f (2 * i))), some (vi (f (2 * i + 1)))]) (st' := [vi (f (2 * i)), vr p, vr p]) rfl ?_
              refine M.callV (kX2_named l G p q e U kd bl la T A tl fx D.1 (LR D) (f (2 * i)) (by omega)) cv_X2_73 cd_X2_named rfl (st := [vr p]) rfl hla.1 (by decide) (by decide) rfl (Nat.zero_le _) (Nat.zero_le _) ⟨hla, apL_T hap hfr hP.2.2.1, apL_S hap hfr hP.2.2.2⟩ (fun r77 w78 q79 => ?_)
              rw [q79.1, q79.2]
              refine M.callV (kX2_push l G p q (T 0) (A 0) e U kd bl la (enC D.1 tl kd bl la ((f (2 * i)) - 17).toNat) (by omega)) cv_X2_66 cd_X2_push rfl (st := []) rfl hla.1 (by decide) (by decide) rfl (Nat.zero_le _) (Nat.zero_le _) hla (fun r81 w82 q83 => ?_)
              obtain ⟨q83r, q83l, q83f⟩ := q83
              rw [q83r]
              have q83g : Frm p q w w82 := FrmT hfr q83f
              refine M.run 1 (pc' := 248) (lv' := [some (vr p), some (vr a1), some (vi kd), some (vi bl), some (vi la), some (vi sk), some (vi ((2 * i : Nat) : Int)), some (vi (f (2 * i))), some (vi (f (2 * i + 1)))]) (st' := []) rfl ?_
              have hjn := hj1
              have hle : (e + 1) ≤ i + 1 := Nat.le_trans hn2 (by show e + 1 ≤ i + 1; omega)
              refine M.run 1 (pc' := 251) (lv' := [some (vr p), some (vr a1), some (vi kd), some (vi bl), some (vi la), some (vi sk), some (vi (((2 * i : Nat) : Int) + 2)), some (vi (f (2 * i))), some (vi (f (2 * i + 1)))]) (st' := []) rfl ?_
              rw [show ((2 * i : Nat) : Int) + 2 = ((2 * (i + 1) : Nat) : Int) from by omega]
              refine M.run 1 (pc' := 27) (lv' := [some (vr p), some (vr a1), some (vi kd), some (vi bl), some (vi la), some (vi sk), some (vi ((2 * (i + 1) : Nat) : Int)), some (vi (f (2 * i))), some (vi (f (2 * i + 1)))]) (st' := []) rfl ?_
              refine M.fgt [false, false, false, false, false, false, false, true, true] ?_
              exact ih27 (uN U e (enC D.1 tl kd bl la ((f (2 * i)) - 17).toNat)) (e + 1) (i + 1) sk w82 q83l q83g hB2 (by omega) (by omega) ⟨by omega, by omega⟩ hjn (by omega)
        · skip
          refine M.run 1 (pc' := 248) (lv' := [some (vr p), some (vr a1), some (vi kd), some (vi bl), some (vi la), some (vi sk), some (vi ((2 * i : Nat) : Int)), none, none]) (st' := []) rfl ?_
          have hjn := jrun_k (S := (U, e, sk)) (by omega) (show ((2 * i : Nat) : Int) < sk by omega) hj
          refine M.run 1 (pc' := 251) (lv' := [some (vr p), some (vr a1), some (vi kd), some (vi bl), some (vi la), some (vi sk), some (vi (((2 * i : Nat) : Int) + 2)), none, none]) (st' := []) rfl ?_
          rw [show ((2 * i : Nat) : Int) + 2 = ((2 * (i + 1) : Nat) : Int) from by omega]
          refine M.run 1 (pc' := 27) (lv' := [some (vr p), some (vr a1), some (vi kd), some (vi bl), some (vi la), some (vi sk), some (vi ((2 * (i + 1) : Nat) : Int)), none, none]) (st' := []) rfl ?_
          exact ih27 U e (i + 1) sk wv hla hfr hB (by omega) (by omega) ⟨by omega, by omega⟩ hjn (by omega)
  exact Lp27 _ V0 0 0 0 w13 ⟨f14, f15⟩ fr16 (fun k hk => absurd hk (Nat.not_lt_zero _)) (Nat.le_refl _) (Nat.zero_le _) ⟨by decide, by decide⟩ hj0 (Nat.lt_succ_self _)
