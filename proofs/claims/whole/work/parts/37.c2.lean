theorem rw_len {p p2 q q2 wd wd2 cap c2 : Nat} {L L2 : List Rw} {w : Wo} (h : isRw p q wd cap L w) (h2 : isRw p2 q2 wd2 c2 L2 w) (hw : wd ≠ wd2) (hb : wd < 100) (hb2 : wd2 < 100) : p ≠ p2 := fun e => by
  have h3 := h.1
  rw [e, h2.1] at h3
  have h4 : ([vi (wd2 : Nat), vr q2, vi ((L2.length : Nat) : Int)] : List AV) = [vi (wd : Nat), vr q, vi ((L.length : Nat) : Int)] := congrArg (fun c : Option Ce => match c with | some (.inl x) => x.2 | _ => []) h3
  have h5 := (List.cons.inj h4).1
  have h6 : ((wd2 : Nat) : Int) = ((wd : Nat) : Int) := Sum.inl.inj h5
  omega
theorem gR_0 {L : List Rw} {i : Nat} (h : L.length ≤ i) : gR L i = fun _ => 0 := by
  unfold gR
  rw [List.getD_eq_getElem?_getD, List.getElem?_eq_none h]
  rfl

set_option maxHeartbeats 4000000 in
set_option maxRecDepth 100000 in
theorem kX4_addFirstOf (l : Launch) (G : GT) (p q p2 q2 cap c2 : Nat) (hcap : cap ≤ 100) (hc2 : 1 ≤ c2 ∧ c2 ≤ 100) (L L2 : List Rw) (hL2 : 0 < L2.length) (when_ side : Int) : Ctr l G yX4_addFirstOf cX4_addFirstOf 5 ((Option.none : Option Jvm.ClassFile.FieldType)) 1 0 0 [vr p, vr p2, vi when_, vi side] (fun w => isRw p q 9 cap L w ∧ isRw p2 q2 7 c2 L2 w ∧ q ≠ q2) (fun w r w' => r = none ∧ isRw p q 9 cap (if L.length = cap then L else L ++ [rwF (gR L2 0) when_ side]) w' ∧ Frm p q w w') := by
  refine Ctr.of (t := tX4_addFirstOf) (lv0 := [some (vr p), some (vr p2), some (vi when_), some (vi side), none]) (by decide +kernel) tX4_addFirstOf_ok rfl rfl (fun w g hP M => ?_)
  have hP0 := hP.1
  have hP2 := hP.2.1
  obtain ⟨⟨hO, f, hC, hlc, hf⟩, ⟨hO2, fo, hC2, hlc2, hf2⟩, hqq⟩ := hP
  have hp_q : p ≠ q := fun e => by rw [e, hC] at hO; cases hO
  have hq_p : q ≠ p := fun e => hp_q e.symm
  have hp2_q2 : p2 ≠ q2 := fun e => by rw [e, hC2] at hO2; cases hO2
  have hq2_p2 : q2 ≠ p2 := fun e => hp2_q2 e.symm
  have hp_q2 : p ≠ q2 := fun e => by rw [e, hC2] at hO; cases hO
  have hq2_p : q2 ≠ p := fun e => hp_q2 e.symm
  have hp2_q : p2 ≠ q := fun e => by rw [e, hC] at hO2; cases hO2
  have hq_p2 : q ≠ p2 := fun e => hp2_q e.symm
  have hp_p2 : p ≠ p2 := rw_len hP0 hP2 (by decide) (by decide) (by decide)
  have hp2_p : p2 ≠ p := fun e => hp_p2 e.symm
  have hq_q2 : q ≠ q2 := hqq
  have hq2_q : q2 ≠ q := fun e => hqq e.symm
  refine M.run 1 (pc' := 1) (lv' := [some (vr p), some (vr p2), some (vi when_), some (vi side), none]) (st' := [vr p]) rfl ?_
  refine M.get fl_X4_25 rfl hO (kf := 2) (v := vi ((L.length : Nat) : Int)) rfl ?_
  refine M.run 1 (pc' := 5) (lv' := [some (vr p), some (vr p2), some (vi when_), some (vi side), none]) (st' := [vr p, vi ((L.length : Nat) : Int)]) rfl ?_
  refine M.get fl_X4_15 rfl hO (kf := 0) (v := vi ((9 : Nat) : Int)) rfl ?_
  refine M.run 3 (pc' := 12) (lv' := [some (vr p), some (vr p2), some (vi when_), some (vi side), some (vi (((L.length : Nat) : Int) * ((9 : Nat) : Int)))]) (st' := [vr p]) rfl ?_
  refine M.get fl_X4_15 rfl hO (kf := 0) (v := vi ((9 : Nat) : Int)) rfl ?_
  refine M.run 1 (pc' := 17) (lv' := [some (vr p), some (vr p2), some (vi when_), some (vi side), some (vi (((L.length : Nat) : Int) * ((9 : Nat) : Int)))]) (st' := [vi 9, vi ((9 : Nat) : Int)]) rfl ?_
  refine M.icmp_lt (tgt := 40) rfl (qI (by omega)) (qI (by decide)) (by decide) (fun h17 => ?_) (fun h17 => ?_)
  · skip
    omega
  · skip
    refine M.run 1 (pc' := 22) (lv' := [some (vr p), some (vr p2), some (vi when_), some (vi side), some (vi (((L.length : Nat) : Int) * ((9 : Nat) : Int)))]) (st' := [vi (((L.length : Nat) : Int) * ((9 : Nat) : Int))]) rfl ?_
    refine M.if_lt (tgt := 40) rfl (qI (by omega)) (by decide) (fun h22 => ?_) (fun h22 => ?_)
    · skip
      omega
    · skip
      refine M.run 1 (pc' := 26) (lv' := [some (vr p), some (vr p2), some (vi when_), some (vi side), some (vi (((L.length : Nat) : Int) * ((9 : Nat) : Int)))]) (st' := [vr p]) rfl ?_
      refine M.get fl_X4_15 rfl hO (kf := 0) (v := vi ((9 : Nat) : Int)) rfl ?_
      refine M.run 1 (pc' := 30) (lv' := [some (vr p), some (vr p2), some (vi when_), some (vi side), some (vi (((L.length : Nat) : Int) * ((9 : Nat) : Int)))]) (st' := [vr p, vi ((9 : Nat) : Int)]) rfl ?_
      refine M.get fl_X4_21 rfl hO (kf := 1) (v := vr q) rfl ?_
      refine M.alen rfl hC (by decide) ?_
      refine M.run 2 (pc' := 37) (lv' := [some (vr p), some (vr p2), some (vi when_), some (vi side), some (vi (((L.length : Nat) : Int) * ((9 : Nat) : Int)))]) (st' := [vi ((((cap * 9) : Nat) : Int) - (((L.length : Nat) : Int) * ((9 : Nat) : Int))), vi ((9 : Nat) : Int)]) rfl ?_
      refine M.icmp_le (tgt := 41) rfl (qI (by omega)) (qI (by omega)) (by decide) (fun h37 => ?_) (fun h37 => ?_)
      · skip
        refine M.run 1 (pc' := 42) (lv' := [some (vr p), some (vr p2), some (vi when_), some (vi side), some (vi (((L.length : Nat) : Int) * ((9 : Nat) : Int)))]) (st' := [vr p2]) rfl ?_
        refine M.get fl_X4_15 rfl hO2 (kf := 0) (v := vi ((7 : Nat) : Int)) rfl ?_
        refine M.run 1 (pc' := 47) (lv' := [some (vr p), some (vr p2), some (vi when_), some (vi side), some (vi (((L.length : Nat) : Int) * ((9 : Nat) : Int)))]) (st' := [vi 7, vi ((7 : Nat) : Int)]) rfl ?_
        refine M.icmp_lt (tgt := 60) rfl (qI (by omega)) (qI (by decide)) (by decide) (fun h47 => ?_) (fun h47 => ?_)
        · skip
          omega
        · skip
          refine M.run 1 (pc' := 51) (lv' := [some (vr p), some (vr p2), some (vi when_), some (vi side), some (vi (((L.length : Nat) : Int) * ((9 : Nat) : Int)))]) (st' := [vr p2]) rfl ?_
          refine M.get fl_X4_21 rfl hO2 (kf := 1) (v := vr q2) rfl ?_
          refine M.alen rfl hC2 (by decide) ?_
          refine M.run 1 (pc' := 57) (lv' := [some (vr p), some (vr p2), some (vi when_), some (vi side), some (vi (((L.length : Nat) : Int) * ((9 : Nat) : Int)))]) (st' := [vi 7, vi (((c2 * 7) : Nat) : Int)]) rfl ?_
          refine M.icmp_ge (tgt := 61) rfl (qI (by omega)) (qI (by decide)) (by decide) (fun h57 => ?_) (fun h57 => ?_)
          · skip
            refine M.run 1 (pc' := 62) (lv' := [some (vr p), some (vr p2), some (vi when_), some (vi side), some (vi (((L.length : Nat) : Int) * ((9 : Nat) : Int)))]) (st' := [vr p2]) rfl ?_
            refine M.get fl_X4_21 rfl hO2 (kf := 1) (v := vr q2) rfl ?_
            refine M.run 2 (pc' := 67) (lv' := [some (vr p), some (vr p2), some (vi when_), some (vi side), some (vi (((L.length : Nat) : Int) * ((9 : Nat) : Int)))]) (st' := [vr p, vi 0, vr q2]) rfl ?_
            refine M.get fl_X4_21 rfl hO (kf := 1) (v := vr q) rfl ?_
            refine M.run 2 (pc' := 74) (lv' := [some (vr p), some (vr p2), some (vi when_), some (vi side), some (vi (((L.length : Nat) : Int) * ((9 : Nat) : Int)))]) (st' := [vi 7, vi (((L.length : Nat) : Int) * ((9 : Nat) : Int)), vr q, vi 0, vr q2]) rfl ?_
            refine M.acopy 0 (L.length * 9) 7 ac_X4_31 rfl hC2 hC (by omega) (by omega) (by omega) (by omega) (by decide) rfl ?_
            have f2 : lk (up w q (Ar 0 (cap * 9) (cpN fo f 0 (L.length * 9) 7))) p = some (Ob 3 [vi ((9 : Nat) : Int), vr q, vi ((L.length : Nat) : Int)]) := (lk_up_n hp_q).trans hO
            have f3 : lk (up w q (Ar 0 (cap * 9) (cpN fo f 0 (L.length * 9) 7))) q = some (Ar 0 (cap * 9) (cpN fo f 0 (L.length * 9) 7)) := lk_up_s hC
            have f4 : lk (up w q (Ar 0 (cap * 9) (cpN fo f 0 (L.length * 9) 7))) p2 = some (Ob 3 [vi ((7 : Nat) : Int), vr q2, vi ((L2.length : Nat) : Int)]) := (lk_up_n hp2_q).trans hO2
            have f5 : lk (up w q (Ar 0 (cap * 9) (cpN fo f 0 (L.length * 9) 7))) q2 = some (Ar 0 (c2 * 7) fo) := (lk_up_n hq2_q).trans hC2
            have fr6 : Frm p q w (up w q (Ar 0 (cap * 9) (cpN fo f 0 (L.length * 9) 7))) := (Frm.rf).u2
            generalize up w q (Ar 0 (cap * 9) (cpN fo f 0 (L.length * 9) 7)) = w1 at f2 f3 f4 f5 fr6 ⊢
            refine M.run 1 (pc' := 78) (lv' := [some (vr p), some (vr p2), some (vi when_), some (vi side), some (vi (((L.length : Nat) : Int) * ((9 : Nat) : Int)))]) (st' := [vr p]) rfl ?_
            refine M.get fl_X4_21 rfl f2 (kf := 1) (v := vr q) rfl ?_
            refine M.run 4 (pc' := 87) (lv' := [some (vr p), some (vr p2), some (vi when_), some (vi side), some (vi (((L.length : Nat) : Int) * ((9 : Nat) : Int)))]) (st' := [vi when_, vi ((((L.length : Nat) : Int) * ((9 : Nat) : Int)) + 7), vr q]) rfl ?_
            refine M.iastN (L.length * 9 + 7) rfl f3 (by omega) (by omega) ?_
            have f8 : lk (up w1 q (Ar 0 (cap * 9) (uN (cpN fo f 0 (L.length * 9) 7) (L.length * 9 + 7) when_))) p = some (Ob 3 [vi ((9 : Nat) : Int), vr q, vi ((L.length : Nat) : Int)]) := (lk_up_n hp_q).trans f2
            have f9 : lk (up w1 q (Ar 0 (cap * 9) (uN (cpN fo f 0 (L.length * 9) 7) (L.length * 9 + 7) when_))) q = some (Ar 0 (cap * 9) (uN (cpN fo f 0 (L.length * 9) 7) (L.length * 9 + 7) when_)) := lk_up_s f3
            have f10 : lk (up w1 q (Ar 0 (cap * 9) (uN (cpN fo f 0 (L.length * 9) 7) (L.length * 9 + 7) when_))) p2 = some (Ob 3 [vi ((7 : Nat) : Int), vr q2, vi ((L2.length : Nat) : Int)]) := (lk_up_n hp2_q).trans f4
            have f11 : lk (up w1 q (Ar 0 (cap * 9) (uN (cpN fo f 0 (L.length * 9) 7) (L.length * 9 + 7) when_))) q2 = some (Ar 0 (c2 * 7) fo) := (lk_up_n hq2_q).trans f5
            have fr12 : Frm p q w (up w1 q (Ar 0 (cap * 9) (uN (cpN fo f 0 (L.length * 9) 7) (L.length * 9 + 7) when_))) := fr6.u2
            generalize up w1 q (Ar 0 (cap * 9) (uN (cpN fo f 0 (L.length * 9) 7) (L.length * 9 + 7) when_)) = w7 at f8 f9 f10 f11 fr12 ⊢
            refine M.run 1 (pc' := 89) (lv' := [some (vr p), some (vr p2), some (vi when_), some (vi side), some (vi (((L.length : Nat) : Int) * ((9 : Nat) : Int)))]) (st' := [vr p]) rfl ?_
            refine M.get fl_X4_21 rfl f8 (kf := 1) (v := vr q) rfl ?_
            refine M.run 4 (pc' := 98) (lv' := [some (vr p), some (vr p2), some (vi when_), some (vi side), some (vi (((L.length : Nat) : Int) * ((9 : Nat) : Int)))]) (st' := [vi side, vi ((((L.length : Nat) : Int) * ((9 : Nat) : Int)) + 8), vr q]) rfl ?_
            refine M.iastN (L.length * 9 + 8) rfl f9 (by omega) (by omega) ?_
            have f14 : lk (up w7 q (Ar 0 (cap * 9) (uN (uN (cpN fo f 0 (L.length * 9) 7) (L.length * 9 + 7) when_) (L.length * 9 + 8) side))) p = some (Ob 3 [vi ((9 : Nat) : Int), vr q, vi ((L.length : Nat) : Int)]) := (lk_up_n hp_q).trans f8
            have f15 : lk (up w7 q (Ar 0 (cap * 9) (uN (uN (cpN fo f 0 (L.length * 9) 7) (L.length * 9 + 7) when_) (L.length * 9 + 8) side))) q = some (Ar 0 (cap * 9) (uN (uN (cpN fo f 0 (L.length * 9) 7) (L.length * 9 + 7) when_) (L.length * 9 + 8) side)) := lk_up_s f9
            have f16 : lk (up w7 q (Ar 0 (cap * 9) (uN (uN (cpN fo f 0 (L.length * 9) 7) (L.length * 9 + 7) when_) (L.length * 9 + 8) side))) p2 = some (Ob 3 [vi ((7 : Nat) : Int), vr q2, vi ((L2.length : Nat) : Int)]) := (lk_up_n hp2_q).trans f10
            have f17 : lk (up w7 q (Ar 0 (cap * 9) (uN (uN (cpN fo f 0 (L.length * 9) 7) (L.length * 9 + 7) when_) (L.length * 9 + 8) side))) q2 = some (Ar 0 (c2 * 7) fo) := (lk_up_n hq2_q).trans f11
            have fr18 : Frm p q w (up w7 q (Ar 0 (cap * 9) (uN (uN (cpN fo f 0 (L.length * 9) 7) (L.length * 9 + 7) when_) (L.length * 9 + 8) side))) := fr12.u2
            generalize up w7 q (Ar 0 (cap * 9) (uN (uN (cpN fo f 0 (L.length * 9) 7) (L.length * 9 + 7) when_) (L.length * 9 + 8) side)) = w13 at f14 f15 f16 f17 fr18 ⊢
            refine M.run 2 (pc' := 101) (lv' := [some (vr p), some (vr p2), some (vi when_), some (vi side), some (vi (((L.length : Nat) : Int) * ((9 : Nat) : Int)))]) (st' := [vr p, vr p]) rfl ?_
            refine M.get fl_X4_25 rfl f14 (kf := 2) (v := vi ((L.length : Nat) : Int)) rfl ?_
            refine M.run 2 (pc' := 106) (lv' := [some (vr p), some (vr p2), some (vi when_), some (vi side), some (vi (((L.length : Nat) : Int) * ((9 : Nat) : Int)))]) (st' := [vi (((L.length : Nat) : Int) + 1), vr p]) rfl ?_
            refine M.put fl_X4_25 rfl f14 rfl rfl (Nat.le_of_ble_eq_true rfl) ?_
            have f20 : lk (up w13 p (Ob 3 ([vi ((9 : Nat) : Int), vr q, vi ((L.length : Nat) : Int)].set 2 (vi (((L.length : Nat) : Int) + 1))))) p = some (Ob 3 [vi ((9 : Nat) : Int), vr q, vi (((L.length : Nat) : Int) + 1)]) := lk_up_s f14
            have f21 : lk (up w13 p (Ob 3 ([vi ((9 : Nat) : Int), vr q, vi ((L.length : Nat) : Int)].set 2 (vi (((L.length : Nat) : Int) + 1))))) q = some (Ar 0 (cap * 9) (uN (uN (cpN fo f 0 (L.length * 9) 7) (L.length * 9 + 7) when_) (L.length * 9 + 8) side)) := (lk_up_n hq_p).trans f15
            have f22 : lk (up w13 p (Ob 3 ([vi ((9 : Nat) : Int), vr q, vi ((L.length : Nat) : Int)].set 2 (vi (((L.length : Nat) : Int) + 1))))) p2 = some (Ob 3 [vi ((7 : Nat) : Int), vr q2, vi ((L2.length : Nat) : Int)]) := (lk_up_n hp2_p).trans f16
            have f23 : lk (up w13 p (Ob 3 ([vi ((9 : Nat) : Int), vr q, vi ((L.length : Nat) : Int)].set 2 (vi (((L.length : Nat) : Int) + 1))))) q2 = some (Ar 0 (c2 * 7) fo) := (lk_up_n hq2_p).trans f17
            have fr24 : Frm p q w (up w13 p (Ob 3 ([vi ((9 : Nat) : Int), vr q, vi ((L.length : Nat) : Int)].set 2 (vi (((L.length : Nat) : Int) + 1))))) := fr18.u1
            generalize up w13 p (Ob 3 ([vi ((9 : Nat) : Int), vr q, vi ((L.length : Nat) : Int)].set 2 (vi (((L.length : Nat) : Int) + 1)))) = w19 at f20 f21 f22 f23 fr24 ⊢
            exact M.vret rfl (Nat.zero_le _) (Nat.zero_le _) (by
                rw [if_neg (by omega)]
                refine ⟨rfl, ⟨by rw [List.length_append]; exact f20, _, f21, by rw [List.length_append]; show L.length + 1 ≤ cap; omega, fun i k hi hk => ?_⟩, fr24⟩
                rw [List.length_append] at hi
                have hi2 : i < L.length + 1 := hi
                by_cases e : i < L.length
                · rw [gR_app e, uN_o (by omega), uN_o (by omega)]
                  unfold cpN
                  rw [if_neg (by omega)]; exact hf i k e hk
                · have e2 : i = L.length := by omega
                  subst e2
                  rw [gR_last]
                  by_cases k8 : k = 8
                  · subst k8; rw [show 9 * L.length + 8 = L.length * 9 + 8 by omega, uN_s]; rfl
                  · rw [uN_o (by omega)]
                    by_cases k7 : k = 7
                    · subst k7; rw [show 9 * L.length + 7 = L.length * 9 + 7 by omega, uN_s]; rfl
                    · rw [uN_o (by omega)]
                      unfold cpN rwF
                      rw [if_pos (by omega), if_pos (by omega), ← hf2 0 k hL2 (by omega)]
                      congr 1
                      omega)
          · skip
            omega
      · skip
        exact M.vret rfl (Nat.zero_le _) (Nat.zero_le _) ⟨rfl, by rw [if_pos (by omega)]; exact ⟨hO, f, hC, hlc, hf⟩, Frm.rf⟩
set_option maxHeartbeats 4000000 in
set_option maxRecDepth 100000 in
theorem kX4_isOf7 (l : Launch) (G : GT) (p q cap : Nat) (hcap : cap ≤ 100) (L : List Rw) (i : Nat) (hil : i < L.length) (v : Int) (kind : Int) (lo : Int) (hi : Int) (hv : -2147483648 ≤ v ∧ v ≤ 2147483647) (hkind : -2147483648 ≤ kind ∧ kind ≤ 2147483647) (hlo : -2147483648 ≤ lo ∧ lo ≤ 2147483647) (hhi : -2147483648 ≤ hi ∧ hi ≤ 2147483647) (hb : ∀ k : Nat, k < 3 → -2147483648 ≤ gR L i k ∧ gR L i k ≤ 2147483647) : Ctr l G yX4_isOf cX4_isOf 9 ((Option.some Jvm.ClassFile.FieldType.boolean)) 1 0 0 [vr p, vi ((i : Nat) : Int), vi v, vi kind, vi lo, vi hi] (fun w => isRw p q 7 cap L w) (fun w r w' => r = some (vi (zb (decide (gR L i 1 = v ∧ (kind = -1 ∨ gR L i 0 = kind) ∧ lo ≤ gR L i 2 ∧ gR L i 2 ≤ hi)))) ∧ w' = w) := by
  refine Ctr.of (t := tX4_isOf) (lv0 := [some (vr p), some (vi ((i : Nat) : Int)), some (vi v), some (vi kind), some (vi lo), some (vi hi), none, none, none]) (by decide +kernel) tX4_isOf_ok rfl rfl (fun w g hP M => ?_)
  have hP0 := hP
  obtain ⟨hO, f, hC, hlc, hf⟩ := hP
  have hpq : p ≠ q := fun e => by rw [e, hC] at hO; cases hO
  have hqp : q ≠ p := fun e => hpq e.symm
  refine M.run 2 (pc' := 2) (lv' := [some (vr p), some (vi ((i : Nat) : Int)), some (vi v), some (vi kind), some (vi lo), some (vi hi), none, none, none]) (st' := [vr p, vi ((i : Nat) : Int)]) rfl ?_
  refine M.get fl_X4_15 rfl hO (kf := 0) (v := vi ((7 : Nat) : Int)) rfl ?_
  refine M.run 3 (pc' := 9) (lv' := [some (vr p), some (vi ((i : Nat) : Int)), some (vi v), some (vi kind), some (vi lo), some (vi hi), some (vi (((i : Nat) : Int) * ((7 : Nat) : Int))), none, none]) (st' := [vi ((i : Nat) : Int)]) rfl ?_
  refine M.if_lt (tgt := 46) rfl (qI (by omega)) (by decide) (fun h9 => ?_) (fun h9 => ?_)
  · skip
    omega
  · skip
    refine M.run 2 (pc' := 14) (lv' := [some (vr p), some (vi ((i : Nat) : Int)), some (vi v), some (vi kind), some (vi lo), some (vi hi), some (vi (((i : Nat) : Int) * ((7 : Nat) : Int))), none, none]) (st' := [vr p, vi ((i : Nat) : Int)]) rfl ?_
    refine M.get fl_X4_25 rfl hO (kf := 2) (v := vi ((L.length : Nat) : Int)) rfl ?_
    refine M.icmp_ge (tgt := 46) rfl (qI (by omega)) (qI (by omega)) (by decide) (fun h17 => ?_) (fun h17 => ?_)
    · skip
      omega
    · skip
      refine M.run 1 (pc' := 21) (lv' := [some (vr p), some (vi ((i : Nat) : Int)), some (vi v), some (vi kind), some (vi lo), some (vi hi), some (vi (((i : Nat) : Int) * ((7 : Nat) : Int))), none, none]) (st' := [vr p]) rfl ?_
      refine M.get fl_X4_15 rfl hO (kf := 0) (v := vi ((7 : Nat) : Int)) rfl ?_
      refine M.run 1 (pc' := 26) (lv' := [some (vr p), some (vi ((i : Nat) : Int)), some (vi v), some (vi kind), some (vi lo), some (vi hi), some (vi (((i : Nat) : Int) * ((7 : Nat) : Int))), none, none]) (st' := [vi 7, vi ((7 : Nat) : Int)]) rfl ?_
      refine M.icmp_lt (tgt := 46) rfl (qI (by omega)) (qI (by decide)) (by decide) (fun h26 => ?_) (fun h26 => ?_)
      · skip
        omega
      · skip
        refine M.run 1 (pc' := 31) (lv' := [some (vr p), some (vi ((i : Nat) : Int)), some (vi v), some (vi kind), some (vi lo), some (vi hi), some (vi (((i : Nat) : Int) * ((7 : Nat) : Int))), none, none]) (st' := [vi (((i : Nat) : Int) * ((7 : Nat) : Int))]) rfl ?_
        refine M.if_lt (tgt := 46) rfl (qI (by omega)) (by decide) (fun h31 => ?_) (fun h31 => ?_)
        · skip
          omega
        · skip
          refine M.run 2 (pc' := 37) (lv' := [some (vr p), some (vi ((i : Nat) : Int)), some (vi v), some (vi kind), some (vi lo), some (vi hi), some (vi (((i : Nat) : Int) * ((7 : Nat) : Int))), none, none]) (st' := [vr p, vi (((i : Nat) : Int) * ((7 : Nat) : Int))]) rfl ?_
          refine M.get fl_X4_21 rfl hO (kf := 1) (v := vr q) rfl ?_
          refine M.alen rfl hC (by decide) ?_
          refine M.run 2 (pc' := 43) (lv' := [some (vr p), some (vi ((i : Nat) : Int)), some (vi v), some (vi kind), some (vi lo), some (vi hi), some (vi (((i : Nat) : Int) * ((7 : Nat) : Int))), none, none]) (st' := [vi ((((cap * 7) : Nat) : Int) - 2), vi (((i : Nat) : Int) * ((7 : Nat) : Int))]) rfl ?_
          refine M.icmp_lt (tgt := 48) rfl (qI (by omega)) (qI (by omega)) (by decide) (fun h43 => ?_) (fun h43 => ?_)
          · skip
            have hb0 := hb 0 (by decide)
            have hb1 := hb 1 (by decide)
            have hb2 := hb 2 (by decide)
            refine M.run 1 (pc' := 49) (lv' := [some (vr p), some (vi ((i : Nat) : Int)), some (vi v), some (vi kind), some (vi lo), some (vi hi), some (vi (((i : Nat) : Int) * ((7 : Nat) : Int))), none, none]) (st' := [vr p]) rfl ?_
            refine M.get fl_X4_21 rfl hO (kf := 1) (v := vr q) rfl ?_
            refine M.run 3 (pc' := 56) (lv' := [some (vr p), some (vi ((i : Nat) : Int)), some (vi v), some (vi kind), some (vi lo), some (vi hi), some (vi (((i : Nat) : Int) * ((7 : Nat) : Int))), none, none]) (st' := [vi ((((i : Nat) : Int) * ((7 : Nat) : Int)) + 2), vr q]) rfl ?_
            refine M.ialdN (i * 7 + 2) rfl hC (by omega) (by omega) ?_
            rw [show f (i * 7 + 2) = gR L i 2 from by rw [show i * 7 + 2 = 7 * i + 2 by omega]; exact hf i 2 (by omega) (by omega)]
            refine M.run 3 (pc' := 61) (lv' := [some (vr p), some (vi ((i : Nat) : Int)), some (vi v), some (vi kind), some (vi lo), some (vi hi), some (vi (((i : Nat) : Int) * ((7 : Nat) : Int))), some (vi (gR L i 2)), none]) (st' := [vi (-1), vi kind]) rfl ?_
            refine M.icmp_eq (tgt := 77) rfl (qI (by omega)) (qI (by decide)) (by decide) (fun h61 => ?_) (fun h61 => ?_)
            · skip
              have hk9 : kind = -1 ∨ gR L i 0 = kind := Or.inl h61
              refine M.run 4 (pc' := 85) (lv' := [some (vr p), some (vi ((i : Nat) : Int)), some (vi v), some (vi kind), some (vi lo), some (vi hi), some (vi (((i : Nat) : Int) * ((7 : Nat) : Int))), some (vi (gR L i 2)), some (vi 1)]) (st' := [vr p]) rfl ?_
              refine M.get fl_X4_21 rfl hO (kf := 1) (v := vr q) rfl ?_
              refine M.run 3 (pc' := 92) (lv' := [some (vr p), some (vi ((i : Nat) : Int)), some (vi v), some (vi kind), some (vi lo), some (vi hi), some (vi (((i : Nat) : Int) * ((7 : Nat) : Int))), some (vi (gR L i 2)), some (vi 1)]) (st' := [vi ((((i : Nat) : Int) * ((7 : Nat) : Int)) + 1), vr q]) rfl ?_
              refine M.ialdN (i * 7 + 1) rfl hC (by omega) (by omega) ?_
              rw [show f (i * 7 + 1) = gR L i 1 from by rw [show i * 7 + 1 = 7 * i + 1 by omega]; exact hf i 1 (by omega) (by omega)]
              refine M.run 1 (pc' := 94) (lv' := [some (vr p), some (vi ((i : Nat) : Int)), some (vi v), some (vi kind), some (vi lo), some (vi hi), some (vi (((i : Nat) : Int) * ((7 : Nat) : Int))), some (vi (gR L i 2)), some (vi 1)]) (st' := [vi v, vi (gR L i 1)]) rfl ?_
              refine M.icmp_ne (tgt := 120) rfl (qI (by omega)) (qI (by omega)) (by decide) (fun h94 => ?_) (fun h94 => ?_)
              · skip
                have hno : ¬ (gR L i 1 = v ∧ (kind = -1 ∨ gR L i 0 = kind) ∧ lo ≤ gR L i 2 ∧ gR L i 2 ≤ hi) := fun z => h94 z.1
                refine M.run 1 (pc' := 121) (lv' := [some (vr p), some (vi ((i : Nat) : Int)), some (vi v), some (vi kind), some (vi lo), some (vi hi), some (vi (((i : Nat) : Int) * ((7 : Nat) : Int))), some (vi (gR L i 2)), some (vi 1)]) (st' := [vi 0]) rfl ?_
                exact M.zret rfl (Or.inl rfl) (Nat.zero_le _) (Nat.zero_le _) ⟨reI (zbd (fun z => absurd z hno) (fun _ => rfl)), rfl⟩
              · skip
                refine M.run 1 (pc' := 99) (lv' := [some (vr p), some (vi ((i : Nat) : Int)), some (vi v), some (vi kind), some (vi lo), some (vi hi), some (vi (((i : Nat) : Int) * ((7 : Nat) : Int))), some (vi (gR L i 2)), some (vi 1)]) (st' := [vi 1]) rfl ?_
                refine M.if_eq (tgt := 120) rfl (qI (by decide)) (by decide) (fun q => absurd q (by decide)) (fun _ => ?_)
                refine M.run 2 (pc' := 106) (lv' := [some (vr p), some (vi ((i : Nat) : Int)), some (vi v), some (vi kind), some (vi lo), some (vi hi), some (vi (((i : Nat) : Int) * ((7 : Nat) : Int))), some (vi (gR L i 2)), some (vi 1)]) (st' := [vi lo, vi (gR L i 2)]) rfl ?_
                refine M.icmp_lt (tgt := 120) rfl (qI (by omega)) (qI (by omega)) (by decide) (fun h106 => ?_) (fun h106 => ?_)
                · skip
                  have hno : ¬ (gR L i 1 = v ∧ (kind = -1 ∨ gR L i 0 = kind) ∧ lo ≤ gR L i 2 ∧ gR L i 2 ≤ hi) := fun z => absurd z.2.2.1 (by omega)
                  refine M.run 1 (pc' := 121) (lv' := [some (vr p), some (vi ((i : Nat) : Int)), some (vi v), some (vi kind), some (vi lo), some (vi hi), some (vi (((i : Nat) : Int) * ((7 : Nat) : Int))), some (vi (gR L i 2)), some (vi 1)]) (st' := [vi 0]) rfl ?_
                  exact M.zret rfl (Or.inl rfl) (Nat.zero_le _) (Nat.zero_le _) ⟨reI (zbd (fun z => absurd z hno) (fun _ => rfl)), rfl⟩
                · skip
                  refine M.run 2 (pc' := 113) (lv' := [some (vr p), some (vi ((i : Nat) : Int)), some (vi v), some (vi kind), some (vi lo), some (vi hi), some (vi (((i : Nat) : Int) * ((7 : Nat) : Int))), some (vi (gR L i 2)), some (vi 1)]) (st' := [vi hi, vi (gR L i 2)]) rfl ?_
                  refine M.icmp_gt (tgt := 120) rfl (qI (by omega)) (qI (by omega)) (by decide) (fun h113 => ?_) (fun h113 => ?_)
                  · skip
                    have hno : ¬ (gR L i 1 = v ∧ (kind = -1 ∨ gR L i 0 = kind) ∧ lo ≤ gR L i 2 ∧ gR L i 2 ≤ hi) := fun z => absurd z.2.2.2 (by omega)
                    refine M.run 1 (pc' := 121) (lv' := [some (vr p), some (vi ((i : Nat) : Int)), some (vi v), some (vi kind), some (vi lo), some (vi hi), some (vi (((i : Nat) : Int) * ((7 : Nat) : Int))), some (vi (gR L i 2)), some (vi 1)]) (st' := [vi 0]) rfl ?_
                    exact M.zret rfl (Or.inl rfl) (Nat.zero_le _) (Nat.zero_le _) ⟨reI (zbd (fun z => absurd z hno) (fun _ => rfl)), rfl⟩
                  · skip
                    have hys : gR L i 1 = v ∧ (kind = -1 ∨ gR L i 0 = kind) ∧ lo ≤ gR L i 2 ∧ gR L i 2 ≤ hi := And.intro h94 (And.intro hk9 (And.intro (by omega) (by omega)))
                    refine M.run 2 (pc' := 121) (lv' := [some (vr p), some (vi ((i : Nat) : Int)), some (vi v), some (vi kind), some (vi lo), some (vi hi), some (vi (((i : Nat) : Int) * ((7 : Nat) : Int))), some (vi (gR L i 2)), some (vi 1)]) (st' := [vi 1]) rfl ?_
                    exact M.zret rfl (Or.inr rfl) (Nat.zero_le _) (Nat.zero_le _) ⟨reI (zbd (fun _ => rfl) (fun z => absurd hys z)), rfl⟩
            · skip
              refine M.run 1 (pc' := 65) (lv' := [some (vr p), some (vi ((i : Nat) : Int)), some (vi v), some (vi kind), some (vi lo), some (vi hi), some (vi (((i : Nat) : Int) * ((7 : Nat) : Int))), some (vi (gR L i 2)), none]) (st' := [vr p]) rfl ?_
              refine M.get fl_X4_21 rfl hO (kf := 1) (v := vr q) rfl ?_
              refine M.run 3 (pc' := 72) (lv' := [some (vr p), some (vi ((i : Nat) : Int)), some (vi v), some (vi kind), some (vi lo), some (vi hi), some (vi (((i : Nat) : Int) * ((7 : Nat) : Int))), some (vi (gR L i 2)), none]) (st' := [vi ((((i : Nat) : Int) * ((7 : Nat) : Int)) + 0), vr q]) rfl ?_
              refine M.ialdN (i * 7 + 0) rfl hC (by omega) (by omega) ?_
              rw [show f (i * 7 + 0) = gR L i 0 from by rw [show i * 7 + 0 = 7 * i + 0 by omega]; exact hf i 0 (by omega) (by omega)]
              refine M.run 1 (pc' := 74) (lv' := [some (vr p), some (vi ((i : Nat) : Int)), some (vi v), some (vi kind), some (vi lo), some (vi hi), some (vi (((i : Nat) : Int) * ((7 : Nat) : Int))), some (vi (gR L i 2)), none]) (st' := [vi kind, vi (gR L i 0)]) rfl ?_
              refine M.icmp_ne (tgt := 81) rfl (qI (by omega)) (qI (by omega)) (by decide) (fun h74 => ?_) (fun h74 => ?_)
              · skip
                have hk8 : ¬ (kind = -1 ∨ gR L i 0 = kind) := by omega
                refine M.run 3 (pc' := 85) (lv' := [some (vr p), some (vi ((i : Nat) : Int)), some (vi v), some (vi kind), some (vi lo), some (vi hi), some (vi (((i : Nat) : Int) * ((7 : Nat) : Int))), some (vi (gR L i 2)), some (vi 0)]) (st' := [vr p]) rfl ?_
                refine M.get fl_X4_21 rfl hO (kf := 1) (v := vr q) rfl ?_
                refine M.run 3 (pc' := 92) (lv' := [some (vr p), some (vi ((i : Nat) : Int)), some (vi v), some (vi kind), some (vi lo), some (vi hi), some (vi (((i : Nat) : Int) * ((7 : Nat) : Int))), some (vi (gR L i 2)), some (vi 0)]) (st' := [vi ((((i : Nat) : Int) * ((7 : Nat) : Int)) + 1), vr q]) rfl ?_
                refine M.ialdN (i * 7 + 1) rfl hC (by omega) (by omega) ?_
                rw [show f (i * 7 + 1) = gR L i 1 from by rw [show i * 7 + 1 = 7 * i + 1 by omega]; exact hf i 1 (by omega) (by omega)]
                refine M.run 1 (pc' := 94) (lv' := [some (vr p), some (vi ((i : Nat) : Int)), some (vi v), some (vi kind), some (vi lo), some (vi hi), some (vi (((i : Nat) : Int) * ((7 : Nat) : Int))), some (vi (gR L i 2)), some (vi 0)]) (st' := [vi v, vi (gR L i 1)]) rfl ?_
                refine M.icmp_ne (tgt := 120) rfl (qI (by omega)) (qI (by omega)) (by decide) (fun h94 => ?_) (fun h94 => ?_)
                · skip
                  have hno : ¬ (gR L i 1 = v ∧ (kind = -1 ∨ gR L i 0 = kind) ∧ lo ≤ gR L i 2 ∧ gR L i 2 ≤ hi) := fun z => h94 z.1
                  refine M.run 1 (pc' := 121) (lv' := [some (vr p), some (vi ((i : Nat) : Int)), some (vi v), some (vi kind), some (vi lo), some (vi hi), some (vi (((i : Nat) : Int) * ((7 : Nat) : Int))), some (vi (gR L i 2)), some (vi 0)]) (st' := [vi 0]) rfl ?_
                  exact M.zret rfl (Or.inl rfl) (Nat.zero_le _) (Nat.zero_le _) ⟨reI (zbd (fun z => absurd z hno) (fun _ => rfl)), rfl⟩
                · skip
                  refine M.run 1 (pc' := 99) (lv' := [some (vr p), some (vi ((i : Nat) : Int)), some (vi v), some (vi kind), some (vi lo), some (vi hi), some (vi (((i : Nat) : Int) * ((7 : Nat) : Int))), some (vi (gR L i 2)), some (vi 0)]) (st' := [vi 0]) rfl ?_
                  refine M.if_eq (tgt := 120) rfl (qI (by decide)) (by decide) (fun _ => ?_) (fun q => absurd q (by decide))
                  have hno : ¬ (gR L i 1 = v ∧ (kind = -1 ∨ gR L i 0 = kind) ∧ lo ≤ gR L i 2 ∧ gR L i 2 ≤ hi) := fun z => hk8 z.2.1
                  refine M.run 1 (pc' := 121) (lv' := [some (vr p), some (vi ((i : Nat) : Int)), some (vi v), some (vi kind), some (vi lo), some (vi hi), some (vi (((i : Nat) : Int) * ((7 : Nat) : Int))), some (vi (gR L i 2)), some (vi 0)]) (st' := [vi 0]) rfl ?_
                  exact M.zret rfl (Or.inl rfl) (Nat.zero_le _) (Nat.zero_le _) ⟨reI (zbd (fun z => absurd z hno) (fun _ => rfl)), rfl⟩
              · skip
                have hk9 : kind = -1 ∨ gR L i 0 = kind := Or.inr h74
                refine M.run 4 (pc' := 85) (lv' := [some (vr p), some (vi ((i : Nat) : Int)), some (vi v), some (vi kind), some (vi lo), some (vi hi), some (vi (((i : Nat) : Int) * ((7 : Nat) : Int))), some (vi (gR L i 2)), some (vi 1)]) (st' := [vr p]) rfl ?_
                refine M.get fl_X4_21 rfl hO (kf := 1) (v := vr q) rfl ?_
                refine M.run 3 (pc' := 92) (lv' := [some (vr p), some (vi ((i : Nat) : Int)), some (vi v), some (vi kind), some (vi lo), some (vi hi), some (vi (((i : Nat) : Int) * ((7 : Nat) : Int))), some (vi (gR L i 2)), some (vi 1)]) (st' := [vi ((((i : Nat) : Int) * ((7 : Nat) : Int)) + 1), vr q]) rfl ?_
                refine M.ialdN (i * 7 + 1) rfl hC (by omega) (by omega) ?_
                rw [show f (i * 7 + 1) = gR L i 1 from by rw [show i * 7 + 1 = 7 * i + 1 by omega]; exact hf i 1 (by omega) (by omega)]
                refine M.run 1 (pc' := 94) (lv' := [some (vr p), some (vi ((i : Nat) : Int)), some (vi v), some (vi kind), some (vi lo), some (vi hi), some (vi (((i : Nat) : Int) * ((7 : Nat) : Int))), some (vi (gR L i 2)), some (vi 1)]) (st' := [vi v, vi (gR L i 1)]) rfl ?_
                refine M.icmp_ne (tgt := 120) rfl (qI (by omega)) (qI (by omega)) (by decide) (fun h94 => ?_) (fun h94 => ?_)
                · skip
                  have hno : ¬ (gR L i 1 = v ∧ (kind = -1 ∨ gR L i 0 = kind) ∧ lo ≤ gR L i 2 ∧ gR L i 2 ≤ hi) := fun z => h94 z.1
                  refine M.run 1 (pc' := 121) (lv' := [some (vr p), some (vi ((i : Nat) : Int)), some (vi v), some (vi kind), some (vi lo), some (vi hi), some (vi (((i : Nat) : Int) * ((7 : Nat) : Int))), some (vi (gR L i 2)), some (vi 1)]) (st' := [vi 0]) rfl ?_
                  exact M.zret rfl (Or.inl rfl) (Nat.zero_le _) (Nat.zero_le _) ⟨reI (zbd (fun z => absurd z hno) (fun _ => rfl)), rfl⟩
                · skip
                  refine M.run 1 (pc' := 99) (lv' := [some (vr p), some (vi ((i : Nat) : Int)), some (vi v), some (vi kind), some (vi lo), some (vi hi), some (vi (((i : Nat) : Int) * ((7 : Nat) : Int))), some (vi (gR L i 2)), some (vi 1)]) (st' := [vi 1]) rfl ?_
                  refine M.if_eq (tgt := 120) rfl (qI (by decide)) (by decide) (fun q => absurd q (by decide)) (fun _ => ?_)
                  refine M.run 2 (pc' := 106) (lv' := [some (vr p), some (vi ((i : Nat) : Int)), some (vi v), some (vi kind), some (vi lo), some (vi hi), some (vi (((i : Nat) : Int) * ((7 : Nat) : Int))), some (vi (gR L i 2)), some (vi 1)]) (st' := [vi lo, vi (gR L i 2)]) rfl ?_
                  refine M.icmp_lt (tgt := 120) rfl (qI (by omega)) (qI (by omega)) (by decide) (fun h106 => ?_) (fun h106 => ?_)
                  · skip
                    have hno : ¬ (gR L i 1 = v ∧ (kind = -1 ∨ gR L i 0 = kind) ∧ lo ≤ gR L i 2 ∧ gR L i 2 ≤ hi) := fun z => absurd z.2.2.1 (by omega)
                    refine M.run 1 (pc' := 121) (lv' := [some (vr p), some (vi ((i : Nat) : Int)), some (vi v), some (vi kind), some (vi lo), some (vi hi), some (vi (((i : Nat) : Int) * ((7 : Nat) : Int))), some (vi (gR L i 2)), some (vi 1)]) (st' := [vi 0]) rfl ?_
                    exact M.zret rfl (Or.inl rfl) (Nat.zero_le _) (Nat.zero_le _) ⟨reI (zbd (fun z => absurd z hno) (fun _ => rfl)), rfl⟩
                  · skip
                    refine M.run 2 (pc' := 113) (lv' := [some (vr p), some (vi ((i : Nat) : Int)), some (vi v), some (vi kind), some (vi lo), some (vi hi), some (vi (((i : Nat) : Int) * ((7 : Nat) : Int))), some (vi (gR L i 2)), some (vi 1)]) (st' := [vi hi, vi (gR L i 2)]) rfl ?_
                    refine M.icmp_gt (tgt := 120) rfl (qI (by omega)) (qI (by omega)) (by decide) (fun h113 => ?_) (fun h113 => ?_)
                    · skip
                      have hno : ¬ (gR L i 1 = v ∧ (kind = -1 ∨ gR L i 0 = kind) ∧ lo ≤ gR L i 2 ∧ gR L i 2 ≤ hi) := fun z => absurd z.2.2.2 (by omega)
                      refine M.run 1 (pc' := 121) (lv' := [some (vr p), some (vi ((i : Nat) : Int)), some (vi v), some (vi kind), some (vi lo), some (vi hi), some (vi (((i : Nat) : Int) * ((7 : Nat) : Int))), some (vi (gR L i 2)), some (vi 1)]) (st' := [vi 0]) rfl ?_
                      exact M.zret rfl (Or.inl rfl) (Nat.zero_le _) (Nat.zero_le _) ⟨reI (zbd (fun z => absurd z hno) (fun _ => rfl)), rfl⟩
                    · skip
                      have hys : gR L i 1 = v ∧ (kind = -1 ∨ gR L i 0 = kind) ∧ lo ≤ gR L i 2 ∧ gR L i 2 ≤ hi := And.intro h94 (And.intro hk9 (And.intro (by omega) (by omega)))
                      refine M.run 2 (pc' := 121) (lv' := [some (vr p), some (vi ((i : Nat) : Int)), some (vi v), some (vi kind), some (vi lo), some (vi hi), some (vi (((i : Nat) : Int) * ((7 : Nat) : Int))), some (vi (gR L i 2)), some (vi 1)]) (st' := [vi 1]) rfl ?_
                      exact M.zret rfl (Or.inr rfl) (Nat.zero_le _) (Nat.zero_le _) ⟨reI (zbd (fun _ => rfl) (fun z => absurd hys z)), rfl⟩
          · skip
            omega
set_option maxHeartbeats 4000000 in
set_option maxRecDepth 100000 in
theorem kX4_isOf9 (l : Launch) (G : GT) (p q cap : Nat) (hcap : cap ≤ 100) (L : List Rw) (i : Nat) (hil : i < L.length) (v : Int) (kind : Int) (lo : Int) (hi : Int) (hv : -2147483648 ≤ v ∧ v ≤ 2147483647) (hkind : -2147483648 ≤ kind ∧ kind ≤ 2147483647) (hlo : -2147483648 ≤ lo ∧ lo ≤ 2147483647) (hhi : -2147483648 ≤ hi ∧ hi ≤ 2147483647) (hb : ∀ k : Nat, k < 3 → -2147483648 ≤ gR L i k ∧ gR L i k ≤ 2147483647) : Ctr l G yX4_isOf cX4_isOf 9 ((Option.some Jvm.ClassFile.FieldType.boolean)) 1 0 0 [vr p, vi ((i : Nat) : Int), vi v, vi kind, vi lo, vi hi] (fun w => isRw p q 9 cap L w) (fun w r w' => r = some (vi (zb (decide (gR L i 1 = v ∧ (kind = -1 ∨ gR L i 0 = kind) ∧ lo ≤ gR L i 2 ∧ gR L i 2 ≤ hi)))) ∧ w' = w) := by
  refine Ctr.of (t := tX4_isOf) (lv0 := [some (vr p), some (vi ((i : Nat) : Int)), some (vi v), some (vi kind), some (vi lo), some (vi hi), none, none, none]) (by decide +kernel) tX4_isOf_ok rfl rfl (fun w g hP M => ?_)
  have hP0 := hP
  obtain ⟨hO, f, hC, hlc, hf⟩ := hP
  have hpq : p ≠ q := fun e => by rw [e, hC] at hO; cases hO
  have hqp : q ≠ p := fun e => hpq e.symm
  refine M.run 2 (pc' := 2) (lv' := [some (vr p), some (vi ((i : Nat) : Int)), some (vi v), some (vi kind), some (vi lo), some (vi hi), none, none, none]) (st' := [vr p, vi ((i : Nat) : Int)]) rfl ?_
  refine M.get fl_X4_15 rfl hO (kf := 0) (v := vi ((9 : Nat) : Int)) rfl ?_
  refine M.run 3 (pc' := 9) (lv' := [some (vr p), some (vi ((i : Nat) : Int)), some (vi v), some (vi kind), some (vi lo), some (vi hi), some (vi (((i : Nat) : Int) * ((9 : Nat) : Int))), none, none]) (st' := [vi ((i : Nat) : Int)]) rfl ?_
  refine M.if_lt (tgt := 46) rfl (qI (by omega)) (by decide) (fun h9 => ?_) (fun h9 => ?_)
  · skip
    omega
  · skip
    refine M.run 2 (pc' := 14) (lv' := [some (vr p), some (vi ((i : Nat) : Int)), some (vi v), some (vi kind), some (vi lo), some (vi hi), some (vi (((i : Nat) : Int) * ((9 : Nat) : Int))), none, none]) (st' := [vr p, vi ((i : Nat) : Int)]) rfl ?_
    refine M.get fl_X4_25 rfl hO (kf := 2) (v := vi ((L.length : Nat) : Int)) rfl ?_
    refine M.icmp_ge (tgt := 46) rfl (qI (by omega)) (qI (by omega)) (by decide) (fun h17 => ?_) (fun h17 => ?_)
    · skip
      omega
    · skip
      refine M.run 1 (pc' := 21) (lv' := [some (vr p), some (vi ((i : Nat) : Int)), some (vi v), some (vi kind), some (vi lo), some (vi hi), some (vi (((i : Nat) : Int) * ((9 : Nat) : Int))), none, none]) (st' := [vr p]) rfl ?_
      refine M.get fl_X4_15 rfl hO (kf := 0) (v := vi ((9 : Nat) : Int)) rfl ?_
      refine M.run 1 (pc' := 26) (lv' := [some (vr p), some (vi ((i : Nat) : Int)), some (vi v), some (vi kind), some (vi lo), some (vi hi), some (vi (((i : Nat) : Int) * ((9 : Nat) : Int))), none, none]) (st' := [vi 7, vi ((9 : Nat) : Int)]) rfl ?_
      refine M.icmp_lt (tgt := 46) rfl (qI (by omega)) (qI (by decide)) (by decide) (fun h26 => ?_) (fun h26 => ?_)
      · skip
        omega
      · skip
        refine M.run 1 (pc' := 31) (lv' := [some (vr p), some (vi ((i : Nat) : Int)), some (vi v), some (vi kind), some (vi lo), some (vi hi), some (vi (((i : Nat) : Int) * ((9 : Nat) : Int))), none, none]) (st' := [vi (((i : Nat) : Int) * ((9 : Nat) : Int))]) rfl ?_
        refine M.if_lt (tgt := 46) rfl (qI (by omega)) (by decide) (fun h31 => ?_) (fun h31 => ?_)
        · skip
          omega
        · skip
          refine M.run 2 (pc' := 37) (lv' := [some (vr p), some (vi ((i : Nat) : Int)), some (vi v), some (vi kind), some (vi lo), some (vi hi), some (vi (((i : Nat) : Int) * ((9 : Nat) : Int))), none, none]) (st' := [vr p, vi (((i : Nat) : Int) * ((9 : Nat) : Int))]) rfl ?_
          refine M.get fl_X4_21 rfl hO (kf := 1) (v := vr q) rfl ?_
          refine M.alen rfl hC (by decide) ?_
          refine M.run 2 (pc' := 43) (lv' := [some (vr p), some (vi ((i : Nat) : Int)), some (vi v), some (vi kind), some (vi lo), some (vi hi), some (vi (((i : Nat) : Int) * ((9 : Nat) : Int))), none, none]) (st' := [vi ((((cap * 9) : Nat) : Int) - 2), vi (((i : Nat) : Int) * ((9 : Nat) : Int))]) rfl ?_
          refine M.icmp_lt (tgt := 48) rfl (qI (by omega)) (qI (by omega)) (by decide) (fun h43 => ?_) (fun h43 => ?_)
          · skip
            have hb0 := hb 0 (by decide)
            have hb1 := hb 1 (by decide)
            have hb2 := hb 2 (by decide)
            refine M.run 1 (pc' := 49) (lv' := [some (vr p), some (vi ((i : Nat) : Int)), some (vi v), some (vi kind), some (vi lo), some (vi hi), some (vi (((i : Nat) : Int) * ((9 : Nat) : Int))), none, none]) (st' := [vr p]) rfl ?_
            refine M.get fl_X4_21 rfl hO (kf := 1) (v := vr q) rfl ?_
            refine M.run 3 (pc' := 56) (lv' := [some (vr p), some (vi ((i : Nat) : Int)), some (vi v), some (vi kind), some (vi lo), some (vi hi), some (vi (((i : Nat) : Int) * ((9 : Nat) : Int))), none, none]) (st' := [vi ((((i : Nat) : Int) * ((9 : Nat) : Int)) + 2), vr q]) rfl ?_
            refine M.ialdN (i * 9 + 2) rfl hC (by omega) (by omega) ?_
            rw [show f (i * 9 + 2) = gR L i 2 from by rw [show i * 9 + 2 = 9 * i + 2 by omega]; exact hf i 2 (by omega) (by omega)]
            refine M.run 3 (pc' := 61) (lv' := [some (vr p), some (vi ((i : Nat) : Int)), some (vi v), some (vi kind), some (vi lo), some (vi hi), some (vi (((i : Nat) : Int) * ((9 : Nat) : Int))), some (vi (gR L i 2)), none]) (st' := [vi (-1), vi kind]) rfl ?_
            refine M.icmp_eq (tgt := 77) rfl (qI (by omega)) (qI (by decide)) (by decide) (fun h61 => ?_) (fun h61 => ?_)
            · skip
              have hk9 : kind = -1 ∨ gR L i 0 = kind := Or.inl h61
              refine M.run 4 (pc' := 85) (lv' := [some (vr p), some (vi ((i : Nat) : Int)), some (vi v), some (vi kind), some (vi lo), some (vi hi), some (vi (((i : Nat) : Int) * ((9 : Nat) : Int))), some (vi (gR L i 2)), some (vi 1)]) (st' := [vr p]) rfl ?_
              refine M.get fl_X4_21 rfl hO (kf := 1) (v := vr q) rfl ?_
              refine M.run 3 (pc' := 92) (lv' := [some (vr p), some (vi ((i : Nat) : Int)), some (vi v), some (vi kind), some (vi lo), some (vi hi), some (vi (((i : Nat) : Int) * ((9 : Nat) : Int))), some (vi (gR L i 2)), some (vi 1)]) (st' := [vi ((((i : Nat) : Int) * ((9 : Nat) : Int)) + 1), vr q]) rfl ?_
              refine M.ialdN (i * 9 + 1) rfl hC (by omega) (by omega) ?_
              rw [show f (i * 9 + 1) = gR L i 1 from by rw [show i * 9 + 1 = 9 * i + 1 by omega]; exact hf i 1 (by omega) (by omega)]
              refine M.run 1 (pc' := 94) (lv' := [some (vr p), some (vi ((i : Nat) : Int)), some (vi v), some (vi kind), some (vi lo), some (vi hi), some (vi (((i : Nat) : Int) * ((9 : Nat) : Int))), some (vi (gR L i 2)), some (vi 1)]) (st' := [vi v, vi (gR L i 1)]) rfl ?_
              refine M.icmp_ne (tgt := 120) rfl (qI (by omega)) (qI (by omega)) (by decide) (fun h94 => ?_) (fun h94 => ?_)
              · skip
                have hno : ¬ (gR L i 1 = v ∧ (kind = -1 ∨ gR L i 0 = kind) ∧ lo ≤ gR L i 2 ∧ gR L i 2 ≤ hi) := fun z => h94 z.1
                refine M.run 1 (pc' := 121) (lv' := [some (vr p), some (vi ((i : Nat) : Int)), some (vi v), some (vi kind), some (vi lo), some (vi hi), some (vi (((i : Nat) : Int) * ((9 : Nat) : Int))), some (vi (gR L i 2)), some (vi 1)]) (st' := [vi 0]) rfl ?_
                exact M.zret rfl (Or.inl rfl) (Nat.zero_le _) (Nat.zero_le _) ⟨reI (zbd (fun z => absurd z hno) (fun _ => rfl)), rfl⟩
              · skip
                refine M.run 1 (pc' := 99) (lv' := [some (vr p), some (vi ((i : Nat) : Int)), some (vi v), some (vi kind), some (vi lo), some (vi hi), some (vi (((i : Nat) : Int) * ((9 : Nat) : Int))), some (vi (gR L i 2)), some (vi 1)]) (st' := [vi 1]) rfl ?_
                refine M.if_eq (tgt := 120) rfl (qI (by decide)) (by decide) (fun q => absurd q (by decide)) (fun _ => ?_)
                refine M.run 2 (pc' := 106) (lv' := [some (vr p), some (vi ((i : Nat) : Int)), some (vi v), some (vi kind), some (vi lo), some (vi hi), some (vi (((i : Nat) : Int) * ((9 : Nat) : Int))), some (vi (gR L i 2)), some (vi 1)]) (st' := [vi lo, vi (gR L i 2)]) rfl ?_
                refine M.icmp_lt (tgt := 120) rfl (qI (by omega)) (qI (by omega)) (by decide) (fun h106 => ?_) (fun h106 => ?_)
                · skip
                  have hno : ¬ (gR L i 1 = v ∧ (kind = -1 ∨ gR L i 0 = kind) ∧ lo ≤ gR L i 2 ∧ gR L i 2 ≤ hi) := fun z => absurd z.2.2.1 (by omega)
                  refine M.run 1 (pc' := 121) (lv' := [some (vr p), some (vi ((i : Nat) : Int)), some (vi v), some (vi kind), some (vi lo), some (vi hi), some (vi (((i : Nat) : Int) * ((9 : Nat) : Int))), some (vi (gR L i 2)), some (vi 1)]) (st' := [vi 0]) rfl ?_
                  exact M.zret rfl (Or.inl rfl) (Nat.zero_le _) (Nat.zero_le _) ⟨reI (zbd (fun z => absurd z hno) (fun _ => rfl)), rfl⟩
                · skip
                  refine M.run 2 (pc' := 113) (lv' := [some (vr p), some (vi ((i : Nat) : Int)), some (vi v), some (vi kind), some (vi lo), some (vi hi), some (vi (((i : Nat) : Int) * ((9 : Nat) : Int))), some (vi (gR L i 2)), some (vi 1)]) (st' := [vi hi, vi (gR L i 2)]) rfl ?_
                  refine M.icmp_gt (tgt := 120) rfl (qI (by omega)) (qI (by omega)) (by decide) (fun h113 => ?_) (fun h113 => ?_)
                  · skip
                    have hno : ¬ (gR L i 1 = v ∧ (kind = -1 ∨ gR L i 0 = kind) ∧ lo ≤ gR L i 2 ∧ gR L i 2 ≤ hi) := fun z => absurd z.2.2.2 (by omega)
                    refine M.run 1 (pc' := 121) (lv' := [some (vr p), some (vi ((i : Nat) : Int)), some (vi v), some (vi kind), some (vi lo), some (vi hi), some (vi (((i : Nat) : Int) * ((9 : Nat) : Int))), some (vi (gR L i 2)), some (vi 1)]) (st' := [vi 0]) rfl ?_
                    exact M.zret rfl (Or.inl rfl) (Nat.zero_le _) (Nat.zero_le _) ⟨reI (zbd (fun z => absurd z hno) (fun _ => rfl)), rfl⟩
                  · skip
                    have hys : gR L i 1 = v ∧ (kind = -1 ∨ gR L i 0 = kind) ∧ lo ≤ gR L i 2 ∧ gR L i 2 ≤ hi := And.intro h94 (And.intro hk9 (And.intro (by omega) (by omega)))
                    refine M.run 2 (pc' := 121) (lv' := [some (vr p), some (vi ((i : Nat) : Int)), some (vi v), some (vi kind), some (vi lo), some (vi hi), some (vi (((i : Nat) : Int) * ((9 : Nat) : Int))), some (vi (gR L i 2)), some (vi 1)]) (st' := [vi 1]) rfl ?_
                    exact M.zret rfl (Or.inr rfl) (Nat.zero_le _) (Nat.zero_le _) ⟨reI (zbd (fun _ => rfl) (fun z => absurd hys z)), rfl⟩
            · skip
              refine M.run 1 (pc' := 65) (lv' := [some (vr p), some (vi ((i : Nat) : Int)), some (vi v), some (vi kind), some (vi lo), some (vi hi), some (vi (((i : Nat) : Int) * ((9 : Nat) : Int))), some (vi (gR L i 2)), none]) (st' := [vr p]) rfl ?_
              refine M.get fl_X4_21 rfl hO (kf := 1) (v := vr q) rfl ?_
              refine M.run 3 (pc' := 72) (lv' := [some (vr p), some (vi ((i : Nat) : Int)), some (vi v), some (vi kind), some (vi lo), some (vi hi), some (vi (((i : Nat) : Int) * ((9 : Nat) : Int))), some (vi (gR L i 2)), none]) (st' := [vi ((((i : Nat) : Int) * ((9 : Nat) : Int)) + 0), vr q]) rfl ?_
              refine M.ialdN (i * 9 + 0) rfl hC (by omega) (by omega) ?_
              rw [show f (i * 9 + 0) = gR L i 0 from by rw [show i * 9 + 0 = 9 * i + 0 by omega]; exact hf i 0 (by omega) (by omega)]
              refine M.run 1 (pc' := 74) (lv' := [some (vr p), some (vi ((i : Nat) : Int)), some (vi v), some (vi kind), some (vi lo), some (vi hi), some (vi (((i : Nat) : Int) * ((9 : Nat) : Int))), some (vi (gR L i 2)), none]) (st' := [vi kind, vi (gR L i 0)]) rfl ?_
              refine M.icmp_ne (tgt := 81) rfl (qI (by omega)) (qI (by omega)) (by decide) (fun h74 => ?_) (fun h74 => ?_)
              · skip
                have hk8 : ¬ (kind = -1 ∨ gR L i 0 = kind) := by omega
                refine M.run 3 (pc' := 85) (lv' := [some (vr p), some (vi ((i : Nat) : Int)), some (vi v), some (vi kind), some (vi lo), some (vi hi), some (vi (((i : Nat) : Int) * ((9 : Nat) : Int))), some (vi (gR L i 2)), some (vi 0)]) (st' := [vr p]) rfl ?_
                refine M.get fl_X4_21 rfl hO (kf := 1) (v := vr q) rfl ?_
                refine M.run 3 (pc' := 92) (lv' := [some (vr p), some (vi ((i : Nat) : Int)), some (vi v), some (vi kind), some (vi lo), some (vi hi), some (vi (((i : Nat) : Int) * ((9 : Nat) : Int))), some (vi (gR L i 2)), some (vi 0)]) (st' := [vi ((((i : Nat) : Int) * ((9 : Nat) : Int)) + 1), vr q]) rfl ?_
                refine M.ialdN (i * 9 + 1) rfl hC (by omega) (by omega) ?_
                rw [show f (i * 9 + 1) = gR L i 1 from by rw [show i * 9 + 1 = 9 * i + 1 by omega]; exact hf i 1 (by omega) (by omega)]
                refine M.run 1 (pc' := 94) (lv' := [some (vr p), some (vi ((i : Nat) : Int)), some (vi v), some (vi kind), some (vi lo), some (vi hi), some (vi (((i : Nat) : Int) * ((9 : Nat) : Int))), some (vi (gR L i 2)), some (vi 0)]) (st' := [vi v, vi (gR L i 1)]) rfl ?_
                refine M.icmp_ne (tgt := 120) rfl (qI (by omega)) (qI (by omega)) (by decide) (fun h94 => ?_) (fun h94 => ?_)
                · skip
                  have hno : ¬ (gR L i 1 = v ∧ (kind = -1 ∨ gR L i 0 = kind) ∧ lo ≤ gR L i 2 ∧ gR L i 2 ≤ hi) := fun z => h94 z.1
                  refine M.run 1 (pc' := 121) (lv' := [some (vr p), some (vi ((i : Nat) : Int)), some (vi v), some (vi kind), some (vi lo), some (vi hi), some (vi (((i : Nat) : Int) * ((9 : Nat) : Int))), some (vi (gR L i 2)), some (vi 0)]) (st' := [vi 0]) rfl ?_
                  exact M.zret rfl (Or.inl rfl) (Nat.zero_le _) (Nat.zero_le _) ⟨reI (zbd (fun z => absurd z hno) (fun _ => rfl)), rfl⟩
                · skip
                  refine M.run 1 (pc' := 99) (lv' := [some (vr p), some (vi ((i : Nat) : Int)), some (vi v), some (vi kind), some (vi lo), some (vi hi), some (vi (((i : Nat) : Int) * ((9 : Nat) : Int))), some (vi (gR L i 2)), some (vi 0)]) (st' := [vi 0]) rfl ?_
                  refine M.if_eq (tgt := 120) rfl (qI (by decide)) (by decide) (fun _ => ?_) (fun q => absurd q (by decide))
                  have hno : ¬ (gR L i 1 = v ∧ (kind = -1 ∨ gR L i 0 = kind) ∧ lo ≤ gR L i 2 ∧ gR L i 2 ≤ hi) := fun z => hk8 z.2.1
                  refine M.run 1 (pc' := 121) (lv' := [some (vr p), some (vi ((i : Nat) : Int)), some (vi v), some (vi kind), some (vi lo), some (vi hi), some (vi (((i : Nat) : Int) * ((9 : Nat) : Int))), some (vi (gR L i 2)), some (vi 0)]) (st' := [vi 0]) rfl ?_
                  exact M.zret rfl (Or.inl rfl) (Nat.zero_le _) (Nat.zero_le _) ⟨reI (zbd (fun z => absurd z hno) (fun _ => rfl)), rfl⟩
              · skip
                have hk9 : kind = -1 ∨ gR L i 0 = kind := Or.inr h74
                refine M.run 4 (pc' := 85) (lv' := [some (vr p), some (vi ((i : Nat) : Int)), some (vi v), some (vi kind), some (vi lo), some (vi hi), some (vi (((i : Nat) : Int) * ((9 : Nat) : Int))), some (vi (gR L i 2)), some (vi 1)]) (st' := [vr p]) rfl ?_
                refine M.get fl_X4_21 rfl hO (kf := 1) (v := vr q) rfl ?_
                refine M.run 3 (pc' := 92) (lv' := [some (vr p), some (vi ((i : Nat) : Int)), some (vi v), some (vi kind), some (vi lo), some (vi hi), some (vi (((i : Nat) : Int) * ((9 : Nat) : Int))), some (vi (gR L i 2)), some (vi 1)]) (st' := [vi ((((i : Nat) : Int) * ((9 : Nat) : Int)) + 1), vr q]) rfl ?_
                refine M.ialdN (i * 9 + 1) rfl hC (by omega) (by omega) ?_
                rw [show f (i * 9 + 1) = gR L i 1 from by rw [show i * 9 + 1 = 9 * i + 1 by omega]; exact hf i 1 (by omega) (by omega)]
                refine M.run 1 (pc' := 94) (lv' := [some (vr p), some (vi ((i : Nat) : Int)), some (vi v), some (vi kind), some (vi lo), some (vi hi), some (vi (((i : Nat) : Int) * ((9 : Nat) : Int))), some (vi (gR L i 2)), some (vi 1)]) (st' := [vi v, vi (gR L i 1)]) rfl ?_
                refine M.icmp_ne (tgt := 120) rfl (qI (by omega)) (qI (by omega)) (by decide) (fun h94 => ?_) (fun h94 => ?_)
                · skip
                  have hno : ¬ (gR L i 1 = v ∧ (kind = -1 ∨ gR L i 0 = kind) ∧ lo ≤ gR L i 2 ∧ gR L i 2 ≤ hi) := fun z => h94 z.1
                  refine M.run 1 (pc' := 121) (lv' := [some (vr p), some (vi ((i : Nat) : Int)), some (vi v), some (vi kind), some (vi lo), some (vi hi), some (vi (((i : Nat) : Int) * ((9 : Nat) : Int))), some (vi (gR L i 2)), some (vi 1)]) (st' := [vi 0]) rfl ?_
                  exact M.zret rfl (Or.inl rfl) (Nat.zero_le _) (Nat.zero_le _) ⟨reI (zbd (fun z => absurd z hno) (fun _ => rfl)), rfl⟩
                · skip
                  refine M.run 1 (pc' := 99) (lv' := [some (vr p), some (vi ((i : Nat) : Int)), some (vi v), some (vi kind), some (vi lo), some (vi hi), some (vi (((i : Nat) : Int) * ((9 : Nat) : Int))), some (vi (gR L i 2)), some (vi 1)]) (st' := [vi 1]) rfl ?_
                  refine M.if_eq (tgt := 120) rfl (qI (by decide)) (by decide) (fun q => absurd q (by decide)) (fun _ => ?_)
                  refine M.run 2 (pc' := 106) (lv' := [some (vr p), some (vi ((i : Nat) : Int)), some (vi v), some (vi kind), some (vi lo), some (vi hi), some (vi (((i : Nat) : Int) * ((9 : Nat) : Int))), some (vi (gR L i 2)), some (vi 1)]) (st' := [vi lo, vi (gR L i 2)]) rfl ?_
                  refine M.icmp_lt (tgt := 120) rfl (qI (by omega)) (qI (by omega)) (by decide) (fun h106 => ?_) (fun h106 => ?_)
                  · skip
                    have hno : ¬ (gR L i 1 = v ∧ (kind = -1 ∨ gR L i 0 = kind) ∧ lo ≤ gR L i 2 ∧ gR L i 2 ≤ hi) := fun z => absurd z.2.2.1 (by omega)
                    refine M.run 1 (pc' := 121) (lv' := [some (vr p), some (vi ((i : Nat) : Int)), some (vi v), some (vi kind), some (vi lo), some (vi hi), some (vi (((i : Nat) : Int) * ((9 : Nat) : Int))), some (vi (gR L i 2)), some (vi 1)]) (st' := [vi 0]) rfl ?_
                    exact M.zret rfl (Or.inl rfl) (Nat.zero_le _) (Nat.zero_le _) ⟨reI (zbd (fun z => absurd z hno) (fun _ => rfl)), rfl⟩
                  · skip
                    refine M.run 2 (pc' := 113) (lv' := [some (vr p), some (vi ((i : Nat) : Int)), some (vi v), some (vi kind), some (vi lo), some (vi hi), some (vi (((i : Nat) : Int) * ((9 : Nat) : Int))), some (vi (gR L i 2)), some (vi 1)]) (st' := [vi hi, vi (gR L i 2)]) rfl ?_
                    refine M.icmp_gt (tgt := 120) rfl (qI (by omega)) (qI (by omega)) (by decide) (fun h113 => ?_) (fun h113 => ?_)
                    · skip
                      have hno : ¬ (gR L i 1 = v ∧ (kind = -1 ∨ gR L i 0 = kind) ∧ lo ≤ gR L i 2 ∧ gR L i 2 ≤ hi) := fun z => absurd z.2.2.2 (by omega)
                      refine M.run 1 (pc' := 121) (lv' := [some (vr p), some (vi ((i : Nat) : Int)), some (vi v), some (vi kind), some (vi lo), some (vi hi), some (vi (((i : Nat) : Int) * ((9 : Nat) : Int))), some (vi (gR L i 2)), some (vi 1)]) (st' := [vi 0]) rfl ?_
                      exact M.zret rfl (Or.inl rfl) (Nat.zero_le _) (Nat.zero_le _) ⟨reI (zbd (fun z => absurd z hno) (fun _ => rfl)), rfl⟩
                    · skip
                      have hys : gR L i 1 = v ∧ (kind = -1 ∨ gR L i 0 = kind) ∧ lo ≤ gR L i 2 ∧ gR L i 2 ≤ hi := And.intro h94 (And.intro hk9 (And.intro (by omega) (by omega)))
                      refine M.run 2 (pc' := 121) (lv' := [some (vr p), some (vi ((i : Nat) : Int)), some (vi v), some (vi kind), some (vi lo), some (vi hi), some (vi (((i : Nat) : Int) * ((9 : Nat) : Int))), some (vi (gR L i 2)), some (vi 1)]) (st' := [vi 1]) rfl ?_
                      exact M.zret rfl (Or.inr rfl) (Nat.zero_le _) (Nat.zero_le _) ⟨reI (zbd (fun _ => rfl) (fun z => absurd hys z)), rfl⟩
          · skip
            omega
set_option maxHeartbeats 4000000 in
set_option maxRecDepth 100000 in
theorem kX4_addNote4 (l : Launch) (G : GT) (p q cap : Nat) (hcap : cap ≤ 100) (L : List Rw) (hc25 : cap = 25) (clk what bl kind : Int) : Ctr l G yX4_addNote cX4_addNote 6 ((Option.none : Option Jvm.ClassFile.FieldType)) 1 0 0 [vr p, vi clk, vi what, vi bl, vi kind] (fun w => isRw p q 4 cap L w) (fun w r w' => r = none ∧ isRw p q 4 cap (bkA L (rwB clk what bl kind)) w' ∧ Frm p q w w') := by
  refine Ctr.of (t := tX4_addNote) (lv0 := [some (vr p), some (vi clk), some (vi what), some (vi bl), some (vi kind), none]) (by decide +kernel) tX4_addNote_ok rfl rfl (fun w g hP M => ?_)
  have hP0 := hP
  obtain ⟨hO, f, hC, hlc, hf⟩ := hP
  have hpq : p ≠ q := fun e => by rw [e, hC] at hO; cases hO
  have hqp : q ≠ p := fun e => hpq e.symm
  refine M.run 1 (pc' := 1) (lv' := [some (vr p), some (vi clk), some (vi what), some (vi bl), some (vi kind), none]) (st' := [vr p]) rfl ?_
  refine M.get fl_X4_15 rfl hO (kf := 0) (v := vi ((4 : Nat) : Int)) rfl ?_
  refine M.run 1 (pc' := 5) (lv' := [some (vr p), some (vi clk), some (vi what), some (vi bl), some (vi kind), none]) (st' := [vi 4, vi ((4 : Nat) : Int)]) rfl ?_
  refine M.icmp_lt (tgt := 20) rfl (qI (by omega)) (qI (by decide)) (by decide) (fun h5 => ?_) (fun h5 => ?_)
  · skip
    omega
  · skip
    refine M.run 1 (pc' := 9) (lv' := [some (vr p), some (vi clk), some (vi what), some (vi bl), some (vi kind), none]) (st' := [vr p]) rfl ?_
    refine M.get fl_X4_21 rfl hO (kf := 1) (v := vr q) rfl ?_
    refine M.alen rfl hC (by decide) ?_
    refine M.run 1 (pc' := 14) (lv' := [some (vr p), some (vi clk), some (vi what), some (vi bl), some (vi kind), none]) (st' := [vr p, vi (((cap * 4) : Nat) : Int)]) rfl ?_
    refine M.get fl_X4_15 rfl hO (kf := 0) (v := vi ((4 : Nat) : Int)) rfl ?_
    refine M.icmp_ge (tgt := 21) rfl (qI (by omega)) (qI (by omega)) (by decide) (fun h17 => ?_) (fun h17 => ?_)
    · skip
      refine M.run 1 (pc' := 22) (lv' := [some (vr p), some (vi clk), some (vi what), some (vi bl), some (vi kind), none]) (st' := [vr p]) rfl ?_
      refine M.get fl_X4_25 rfl hO (kf := 2) (v := vi ((L.length : Nat) : Int)) rfl ?_
      refine M.run 3 (pc' := 28) (lv' := [some (vr p), some (vi clk), some (vi what), some (vi bl), some (vi kind), none]) (st' := [vr p, vi (((L.length : Nat) : Int) + 1)]) rfl ?_
      refine M.get fl_X4_15 rfl hO (kf := 0) (v := vi ((4 : Nat) : Int)) rfl ?_
      refine M.run 2 (pc' := 33) (lv' := [some (vr p), some (vi clk), some (vi what), some (vi bl), some (vi kind), none]) (st' := [vr p, vi ((((L.length : Nat) : Int) + 1) * ((4 : Nat) : Int))]) rfl ?_
      refine M.get fl_X4_21 rfl hO (kf := 1) (v := vr q) rfl ?_
      refine M.alen rfl hC (by decide) ?_
      refine M.icmp_le (tgt := 76) rfl (qI (by omega)) (qI (by omega)) (by decide) (fun h37 => ?_) (fun h37 => ?_)
      · skip
        refine M.run 1 (pc' := 77) (lv' := [some (vr p), some (vi clk), some (vi what), some (vi bl), some (vi kind), none]) (st' := [vr p]) rfl ?_
        refine M.get fl_X4_25 rfl hO (kf := 2) (v := vi ((L.length : Nat) : Int)) rfl ?_
        refine M.run 1 (pc' := 81) (lv' := [some (vr p), some (vi clk), some (vi what), some (vi bl), some (vi kind), none]) (st' := [vr p, vi ((L.length : Nat) : Int)]) rfl ?_
        refine M.get fl_X4_15 rfl hO (kf := 0) (v := vi ((4 : Nat) : Int)) rfl ?_
        refine M.run 3 (pc' := 89) (lv' := [some (vr p), some (vi clk), some (vi what), some (vi bl), some (vi kind), some (vi (((L.length : Nat) : Int) * ((4 : Nat) : Int)))]) (st' := [vi (((L.length : Nat) : Int) * ((4 : Nat) : Int))]) rfl ?_
        refine M.if_lt (tgt := 107) rfl (qI (by omega)) (by decide) (fun h89 => ?_) (fun h89 => ?_)
        · skip
          omega
        · skip
          refine M.run 1 (pc' := 93) (lv' := [some (vr p), some (vi clk), some (vi what), some (vi bl), some (vi kind), some (vi (((L.length : Nat) : Int) * ((4 : Nat) : Int)))]) (st' := [vr p]) rfl ?_
          refine M.get fl_X4_15 rfl hO (kf := 0) (v := vi ((4 : Nat) : Int)) rfl ?_
          refine M.run 1 (pc' := 97) (lv' := [some (vr p), some (vi clk), some (vi what), some (vi bl), some (vi kind), some (vi (((L.length : Nat) : Int) * ((4 : Nat) : Int)))]) (st' := [vr p, vi ((4 : Nat) : Int)]) rfl ?_
          refine M.get fl_X4_21 rfl hO (kf := 1) (v := vr q) rfl ?_
          refine M.alen rfl hC (by decide) ?_
          refine M.run 2 (pc' := 104) (lv' := [some (vr p), some (vi clk), some (vi what), some (vi bl), some (vi kind), some (vi (((L.length : Nat) : Int) * ((4 : Nat) : Int)))]) (st' := [vi ((((cap * 4) : Nat) : Int) - (((L.length : Nat) : Int) * ((4 : Nat) : Int))), vi ((4 : Nat) : Int)]) rfl ?_
          refine M.icmp_le (tgt := 108) rfl (qI (by omega)) (qI (by omega)) (by decide) (fun h104 => ?_) (fun h104 => ?_)
          · skip
            refine M.run 1 (pc' := 109) (lv' := [some (vr p), some (vi clk), some (vi what), some (vi bl), some (vi kind), some (vi (((L.length : Nat) : Int) * ((4 : Nat) : Int)))]) (st' := [vr p]) rfl ?_
            refine M.get fl_X4_21 rfl hO (kf := 1) (v := vr q) rfl ?_
            refine M.run 2 (pc' := 115) (lv' := [some (vr p), some (vi clk), some (vi what), some (vi bl), some (vi kind), some (vi (((L.length : Nat) : Int) * ((4 : Nat) : Int)))]) (st' := [vi clk, vi (((L.length : Nat) : Int) * ((4 : Nat) : Int)), vr q]) rfl ?_
            refine M.iastN (L.length * 4) rfl hC (by omega) (by omega) ?_
            have f2 : lk (up w q (Ar 0 (cap * 4) (uN f (L.length * 4) clk))) p = some (Ob 3 [vi ((4 : Nat) : Int), vr q, vi ((L.length : Nat) : Int)]) := (lk_up_n hpq).trans hO
            have f3 : lk (up w q (Ar 0 (cap * 4) (uN f (L.length * 4) clk))) q = some (Ar 0 (cap * 4) (uN f (L.length * 4) clk)) := lk_up_s hC
            have fr4 : Frm p q w (up w q (Ar 0 (cap * 4) (uN f (L.length * 4) clk))) := (Frm.rf).u2
            generalize up w q (Ar 0 (cap * 4) (uN f (L.length * 4) clk)) = w1 at f2 f3 fr4 ⊢
            refine M.run 1 (pc' := 117) (lv' := [some (vr p), some (vi clk), some (vi what), some (vi bl), some (vi kind), some (vi (((L.length : Nat) : Int) * ((4 : Nat) : Int)))]) (st' := [vr p]) rfl ?_
            refine M.get fl_X4_21 rfl f2 (kf := 1) (v := vr q) rfl ?_
            refine M.run 4 (pc' := 125) (lv' := [some (vr p), some (vi clk), some (vi what), some (vi bl), some (vi kind), some (vi (((L.length : Nat) : Int) * ((4 : Nat) : Int)))]) (st' := [vi what, vi ((((L.length : Nat) : Int) * ((4 : Nat) : Int)) + 1), vr q]) rfl ?_
            refine M.iastN (L.length * 4 + 1) rfl f3 (by omega) (by omega) ?_
            have f6 : lk (up w1 q (Ar 0 (cap * 4) (uN (uN f (L.length * 4) clk) (L.length * 4 + 1) what))) p = some (Ob 3 [vi ((4 : Nat) : Int), vr q, vi ((L.length : Nat) : Int)]) := (lk_up_n hpq).trans f2
            have f7 : lk (up w1 q (Ar 0 (cap * 4) (uN (uN f (L.length * 4) clk) (L.length * 4 + 1) what))) q = some (Ar 0 (cap * 4) (uN (uN f (L.length * 4) clk) (L.length * 4 + 1) what)) := lk_up_s f3
            have fr8 : Frm p q w (up w1 q (Ar 0 (cap * 4) (uN (uN f (L.length * 4) clk) (L.length * 4 + 1) what))) := fr4.u2
            generalize up w1 q (Ar 0 (cap * 4) (uN (uN f (L.length * 4) clk) (L.length * 4 + 1) what)) = w5 at f6 f7 fr8 ⊢
            refine M.run 1 (pc' := 127) (lv' := [some (vr p), some (vi clk), some (vi what), some (vi bl), some (vi kind), some (vi (((L.length : Nat) : Int) * ((4 : Nat) : Int)))]) (st' := [vr p]) rfl ?_
            refine M.get fl_X4_21 rfl f6 (kf := 1) (v := vr q) rfl ?_
            refine M.run 4 (pc' := 135) (lv' := [some (vr p), some (vi clk), some (vi what), some (vi bl), some (vi kind), some (vi (((L.length : Nat) : Int) * ((4 : Nat) : Int)))]) (st' := [vi bl, vi ((((L.length : Nat) : Int) * ((4 : Nat) : Int)) + 2), vr q]) rfl ?_
            refine M.iastN (L.length * 4 + 2) rfl f7 (by omega) (by omega) ?_
            have f10 : lk (up w5 q (Ar 0 (cap * 4) (uN (uN (uN f (L.length * 4) clk) (L.length * 4 + 1) what) (L.length * 4 + 2) bl))) p = some (Ob 3 [vi ((4 : Nat) : Int), vr q, vi ((L.length : Nat) : Int)]) := (lk_up_n hpq).trans f6
            have f11 : lk (up w5 q (Ar 0 (cap * 4) (uN (uN (uN f (L.length * 4) clk) (L.length * 4 + 1) what) (L.length * 4 + 2) bl))) q = some (Ar 0 (cap * 4) (uN (uN (uN f (L.length * 4) clk) (L.length * 4 + 1) what) (L.length * 4 + 2) bl)) := lk_up_s f7
            have fr12 : Frm p q w (up w5 q (Ar 0 (cap * 4) (uN (uN (uN f (L.length * 4) clk) (L.length * 4 + 1) what) (L.length * 4 + 2) bl))) := fr8.u2
            generalize up w5 q (Ar 0 (cap * 4) (uN (uN (uN f (L.length * 4) clk) (L.length * 4 + 1) what) (L.length * 4 + 2) bl)) = w9 at f10 f11 fr12 ⊢
            refine M.run 1 (pc' := 137) (lv' := [some (vr p), some (vi clk), some (vi what), some (vi bl), some (vi kind), some (vi (((L.length : Nat) : Int) * ((4 : Nat) : Int)))]) (st' := [vr p]) rfl ?_
            refine M.get fl_X4_21 rfl f10 (kf := 1) (v := vr q) rfl ?_
            refine M.run 4 (pc' := 146) (lv' := [some (vr p), some (vi clk), some (vi what), some (vi bl), some (vi kind), some (vi (((L.length : Nat) : Int) * ((4 : Nat) : Int)))]) (st' := [vi kind, vi ((((L.length : Nat) : Int) * ((4 : Nat) : Int)) + 3), vr q]) rfl ?_
            refine M.iastN (L.length * 4 + 3) rfl f11 (by omega) (by omega) ?_
            have f14 : lk (up w9 q (Ar 0 (cap * 4) (uN (uN (uN (uN f (L.length * 4) clk) (L.length * 4 + 1) what) (L.length * 4 + 2) bl) (L.length * 4 + 3) kind))) p = some (Ob 3 [vi ((4 : Nat) : Int), vr q, vi ((L.length : Nat) : Int)]) := (lk_up_n hpq).trans f10
            have f15 : lk (up w9 q (Ar 0 (cap * 4) (uN (uN (uN (uN f (L.length * 4) clk) (L.length * 4 + 1) what) (L.length * 4 + 2) bl) (L.length * 4 + 3) kind))) q = some (Ar 0 (cap * 4) (uN (uN (uN (uN f (L.length * 4) clk) (L.length * 4 + 1) what) (L.length * 4 + 2) bl) (L.length * 4 + 3) kind)) := lk_up_s f11
            have fr16 : Frm p q w (up w9 q (Ar 0 (cap * 4) (uN (uN (uN (uN f (L.length * 4) clk) (L.length * 4 + 1) what) (L.length * 4 + 2) bl) (L.length * 4 + 3) kind))) := fr12.u2
            generalize up w9 q (Ar 0 (cap * 4) (uN (uN (uN (uN f (L.length * 4) clk) (L.length * 4 + 1) what) (L.length * 4 + 2) bl) (L.length * 4 + 3) kind)) = w13 at f14 f15 fr16 ⊢
            refine M.run 2 (pc' := 149) (lv' := [some (vr p), some (vi clk), some (vi what), some (vi bl), some (vi kind), some (vi (((L.length : Nat) : Int) * ((4 : Nat) : Int)))]) (st' := [vr p, vr p]) rfl ?_
            refine M.get fl_X4_25 rfl f14 (kf := 2) (v := vi ((L.length : Nat) : Int)) rfl ?_
            refine M.run 2 (pc' := 154) (lv' := [some (vr p), some (vi clk), some (vi what), some (vi bl), some (vi kind), some (vi (((L.length : Nat) : Int) * ((4 : Nat) : Int)))]) (st' := [vi (((L.length : Nat) : Int) + 1), vr p]) rfl ?_
            refine M.put fl_X4_25 rfl f14 rfl rfl (Nat.le_of_ble_eq_true rfl) ?_
            have f18 : lk (up w13 p (Ob 3 ([vi ((4 : Nat) : Int), vr q, vi ((L.length : Nat) : Int)].set 2 (vi (((L.length : Nat) : Int) + 1))))) p = some (Ob 3 [vi ((4 : Nat) : Int), vr q, vi (((L.length : Nat) : Int) + 1)]) := lk_up_s f14
            have f19 : lk (up w13 p (Ob 3 ([vi ((4 : Nat) : Int), vr q, vi ((L.length : Nat) : Int)].set 2 (vi (((L.length : Nat) : Int) + 1))))) q = some (Ar 0 (cap * 4) (uN (uN (uN (uN f (L.length * 4) clk) (L.length * 4 + 1) what) (L.length * 4 + 2) bl) (L.length * 4 + 3) kind)) := (lk_up_n hqp).trans f15
            have fr20 : Frm p q w (up w13 p (Ob 3 ([vi ((4 : Nat) : Int), vr q, vi ((L.length : Nat) : Int)].set 2 (vi (((L.length : Nat) : Int) + 1))))) := fr16.u1
            generalize up w13 p (Ob 3 ([vi ((4 : Nat) : Int), vr q, vi ((L.length : Nat) : Int)].set 2 (vi (((L.length : Nat) : Int) + 1)))) = w17 at f18 f19 fr20 ⊢
            exact M.vret rfl (Nat.zero_le _) (Nat.zero_le _) (by
                have hb : bkA L (rwB clk what bl kind) = L ++ [rwB clk what bl kind] := by unfold bkA; rw [if_neg (by omega)]
                rw [hb]
                refine ⟨rfl, ⟨by rw [List.length_append]; exact f18, _, f19, by rw [List.length_append]; show L.length + 1 ≤ cap; omega, fun i k hi hk => ?_⟩, fr20⟩
                rw [List.length_append] at hi
                have hi2 : i < L.length + 1 := hi
                by_cases e : i < L.length
                · rw [gR_app e, uN_o (by omega), uN_o (by omega), uN_o (by omega), uN_o (by omega)]; exact hf i k e hk
                · have e2 : i = L.length := by omega
                  subst e2
                  rw [gR_last]
                  match k, hk with
                  | 0, _ => rw [uN_o (by omega), uN_o (by omega), uN_o (by omega)]; exact (congrArg _ (by omega)).trans (uN_s _ _ _)
                  | 1, _ => rw [uN_o (by omega), uN_o (by omega)]; exact (congrArg _ (by omega)).trans (uN_s _ _ _)
                  | 2, _ => rw [uN_o (by omega)]; exact (congrArg _ (by omega)).trans (uN_s _ _ _)
                  | 3, _ => exact (congrArg _ (by omega)).trans (uN_s _ _ _)
                  | k + 4, h => exact absurd h (by omega))
          · skip
            omega
      · skip
        refine M.run 1 (pc' := 41) (lv' := [some (vr p), some (vi clk), some (vi what), some (vi bl), some (vi kind), none]) (st' := [vr p]) rfl ?_
        refine M.get fl_X4_21 rfl hO (kf := 1) (v := vr q) rfl ?_
        refine M.run 1 (pc' := 45) (lv' := [some (vr p), some (vi clk), some (vi what), some (vi bl), some (vi kind), none]) (st' := [vr p, vr q]) rfl ?_
        refine M.get fl_X4_15 rfl hO (kf := 0) (v := vi ((4 : Nat) : Int)) rfl ?_
        refine M.run 1 (pc' := 49) (lv' := [some (vr p), some (vi clk), some (vi what), some (vi bl), some (vi kind), none]) (st' := [vr p, vi ((4 : Nat) : Int), vr q]) rfl ?_
        refine M.get fl_X4_21 rfl hO (kf := 1) (v := vr q) rfl ?_
        refine M.run 2 (pc' := 54) (lv' := [some (vr p), some (vi clk), some (vi what), some (vi bl), some (vi kind), none]) (st' := [vr p, vi 0, vr q, vi ((4 : Nat) : Int), vr q]) rfl ?_
        refine M.get fl_X4_21 rfl hO (kf := 1) (v := vr q) rfl ?_
        refine M.alen rfl hC (by decide) ?_
        refine M.run 1 (pc' := 59) (lv' := [some (vr p), some (vi clk), some (vi what), some (vi bl), some (vi kind), none]) (st' := [vr p, vi (((cap * 4) : Nat) : Int), vi 0, vr q, vi ((4 : Nat) : Int), vr q]) rfl ?_
        refine M.get fl_X4_15 rfl hO (kf := 0) (v := vi ((4 : Nat) : Int)) rfl ?_
        refine M.run 1 (pc' := 63) (lv' := [some (vr p), some (vi clk), some (vi what), some (vi bl), some (vi kind), none]) (st' := [vi ((((cap * 4) : Nat) : Int) - ((4 : Nat) : Int)), vi 0, vr q, vi ((4 : Nat) : Int), vr q]) rfl ?_
        rw [show (((cap * 4) : Nat) : Int) - ((4 : Nat) : Int) = ((96 : Nat) : Int) from by omega]
        refine M.acopy 4 0 96 ac_X4_31 rfl hC hC (by omega) (by omega) (by omega) (by omega) (by decide) rfl ?_
        have f22 : lk (up w q (Ar 0 (cap * 4) (cpN f f 4 0 96))) p = some (Ob 3 [vi ((4 : Nat) : Int), vr q, vi ((L.length : Nat) : Int)]) := (lk_up_n hpq).trans hO
        have f23 : lk (up w q (Ar 0 (cap * 4) (cpN f f 4 0 96))) q = some (Ar 0 (cap * 4) (cpN f f 4 0 96)) := lk_up_s hC
        have fr24 : Frm p q w (up w q (Ar 0 (cap * 4) (cpN f f 4 0 96))) := (Frm.rf).u2
        generalize up w q (Ar 0 (cap * 4) (cpN f f 4 0 96)) = w21 at f22 f23 fr24 ⊢
        refine M.run 2 (pc' := 68) (lv' := [some (vr p), some (vi clk), some (vi what), some (vi bl), some (vi kind), none]) (st' := [vr p, vr p]) rfl ?_
        refine M.get fl_X4_25 rfl f22 (kf := 2) (v := vi ((L.length : Nat) : Int)) rfl ?_
        refine M.run 2 (pc' := 73) (lv' := [some (vr p), some (vi clk), some (vi what), some (vi bl), some (vi kind), none]) (st' := [vi (((L.length : Nat) : Int) - 1), vr p]) rfl ?_
        rw [show ((L.length : Nat) : Int) - 1 = ((24 : Nat) : Int) from by omega]
        refine M.put fl_X4_25 rfl f22 rfl rfl (Nat.le_of_ble_eq_true rfl) ?_
        have f26 : lk (up w21 p (Ob 3 ([vi ((4 : Nat) : Int), vr q, vi ((L.length : Nat) : Int)].set 2 (vi ((24 : Nat) : Int))))) p = some (Ob 3 [vi ((4 : Nat) : Int), vr q, vi ((24 : Nat) : Int)]) := lk_up_s f22
        have f27 : lk (up w21 p (Ob 3 ([vi ((4 : Nat) : Int), vr q, vi ((L.length : Nat) : Int)].set 2 (vi ((24 : Nat) : Int))))) q = some (Ar 0 (cap * 4) (cpN f f 4 0 96)) := (lk_up_n hqp).trans f23
        have fr28 : Frm p q w (up w21 p (Ob 3 ([vi ((4 : Nat) : Int), vr q, vi ((L.length : Nat) : Int)].set 2 (vi ((24 : Nat) : Int))))) := fr24.u1
        generalize up w21 p (Ob 3 ([vi ((4 : Nat) : Int), vr q, vi ((L.length : Nat) : Int)].set 2 (vi ((24 : Nat) : Int)))) = w25 at f26 f27 fr28 ⊢
        refine M.run 1 (pc' := 77) (lv' := [some (vr p), some (vi clk), some (vi what), some (vi bl), some (vi kind), none]) (st' := [vr p]) rfl ?_
        refine M.get fl_X4_25 rfl f26 (kf := 2) (v := vi ((24 : Nat) : Int)) rfl ?_
        refine M.run 1 (pc' := 81) (lv' := [some (vr p), some (vi clk), some (vi what), some (vi bl), some (vi kind), none]) (st' := [vr p, vi ((24 : Nat) : Int)]) rfl ?_
        refine M.get fl_X4_15 rfl f26 (kf := 0) (v := vi ((4 : Nat) : Int)) rfl ?_
        refine M.run 3 (pc' := 89) (lv' := [some (vr p), some (vi clk), some (vi what), some (vi bl), some (vi kind), some (vi (((24 : Nat) : Int) * ((4 : Nat) : Int)))]) (st' := [vi (((24 : Nat) : Int) * ((4 : Nat) : Int))]) rfl ?_
        refine M.if_lt (tgt := 107) rfl (qI (by omega)) (by decide) (fun h89 => ?_) (fun h89 => ?_)
        · skip
          omega
        · skip
          refine M.run 1 (pc' := 93) (lv' := [some (vr p), some (vi clk), some (vi what), some (vi bl), some (vi kind), some (vi (((24 : Nat) : Int) * ((4 : Nat) : Int)))]) (st' := [vr p]) rfl ?_
          refine M.get fl_X4_15 rfl f26 (kf := 0) (v := vi ((4 : Nat) : Int)) rfl ?_
          refine M.run 1 (pc' := 97) (lv' := [some (vr p), some (vi clk), some (vi what), some (vi bl), some (vi kind), some (vi (((24 : Nat) : Int) * ((4 : Nat) : Int)))]) (st' := [vr p, vi ((4 : Nat) : Int)]) rfl ?_
          refine M.get fl_X4_21 rfl f26 (kf := 1) (v := vr q) rfl ?_
          refine M.alen rfl f27 (by decide) ?_
          refine M.run 2 (pc' := 104) (lv' := [some (vr p), some (vi clk), some (vi what), some (vi bl), some (vi kind), some (vi (((24 : Nat) : Int) * ((4 : Nat) : Int)))]) (st' := [vi ((((cap * 4) : Nat) : Int) - (((24 : Nat) : Int) * ((4 : Nat) : Int))), vi ((4 : Nat) : Int)]) rfl ?_
          refine M.icmp_le (tgt := 108) rfl (qI (by omega)) (qI (by omega)) (by decide) (fun h104 => ?_) (fun h104 => ?_)
          · skip
            refine M.run 1 (pc' := 109) (lv' := [some (vr p), some (vi clk), some (vi what), some (vi bl), some (vi kind), some (vi (((24 : Nat) : Int) * ((4 : Nat) : Int)))]) (st' := [vr p]) rfl ?_
            refine M.get fl_X4_21 rfl f26 (kf := 1) (v := vr q) rfl ?_
            refine M.run 2 (pc' := 115) (lv' := [some (vr p), some (vi clk), some (vi what), some (vi bl), some (vi kind), some (vi (((24 : Nat) : Int) * ((4 : Nat) : Int)))]) (st' := [vi clk, vi (((24 : Nat) : Int) * ((4 : Nat) : Int)), vr q]) rfl ?_
            refine M.iastN (24 * 4) rfl f27 (by omega) (by omega) ?_
            have f30 : lk (up w25 q (Ar 0 (cap * 4) (uN (cpN f f 4 0 96) (24 * 4) clk))) p = some (Ob 3 [vi ((4 : Nat) : Int), vr q, vi ((24 : Nat) : Int)]) := (lk_up_n hpq).trans f26
            have f31 : lk (up w25 q (Ar 0 (cap * 4) (uN (cpN f f 4 0 96) (24 * 4) clk))) q = some (Ar 0 (cap * 4) (uN (cpN f f 4 0 96) (24 * 4) clk)) := lk_up_s f27
            have fr32 : Frm p q w (up w25 q (Ar 0 (cap * 4) (uN (cpN f f 4 0 96) (24 * 4) clk))) := fr28.u2
            generalize up w25 q (Ar 0 (cap * 4) (uN (cpN f f 4 0 96) (24 * 4) clk)) = w29 at f30 f31 fr32 ⊢
            refine M.run 1 (pc' := 117) (lv' := [some (vr p), some (vi clk), some (vi what), some (vi bl), some (vi kind), some (vi (((24 : Nat) : Int) * ((4 : Nat) : Int)))]) (st' := [vr p]) rfl ?_
            refine M.get fl_X4_21 rfl f30 (kf := 1) (v := vr q) rfl ?_
            refine M.run 4 (pc' := 125) (lv' := [some (vr p), some (vi clk), some (vi what), some (vi bl), some (vi kind), some (vi (((24 : Nat) : Int) * ((4 : Nat) : Int)))]) (st' := [vi what, vi ((((24 : Nat) : Int) * ((4 : Nat) : Int)) + 1), vr q]) rfl ?_
            refine M.iastN (24 * 4 + 1) rfl f31 (by omega) (by omega) ?_
            have f34 : lk (up w29 q (Ar 0 (cap * 4) (uN (uN (cpN f f 4 0 96) (24 * 4) clk) (24 * 4 + 1) what))) p = some (Ob 3 [vi ((4 : Nat) : Int), vr q, vi ((24 : Nat) : Int)]) := (lk_up_n hpq).trans f30
            have f35 : lk (up w29 q (Ar 0 (cap * 4) (uN (uN (cpN f f 4 0 96) (24 * 4) clk) (24 * 4 + 1) what))) q = some (Ar 0 (cap * 4) (uN (uN (cpN f f 4 0 96) (24 * 4) clk) (24 * 4 + 1) what)) := lk_up_s f31
            have fr36 : Frm p q w (up w29 q (Ar 0 (cap * 4) (uN (uN (cpN f f 4 0 96) (24 * 4) clk) (24 * 4 + 1) what))) := fr32.u2
            generalize up w29 q (Ar 0 (cap * 4) (uN (uN (cpN f f 4 0 96) (24 * 4) clk) (24 * 4 + 1) what)) = w33 at f34 f35 fr36 ⊢
            refine M.run 1 (pc' := 127) (lv' := [some (vr p), some (vi clk), some (vi what), some (vi bl), some (vi kind), some (vi (((24 : Nat) : Int) * ((4 : Nat) : Int)))]) (st' := [vr p]) rfl ?_
            refine M.get fl_X4_21 rfl f34 (kf := 1) (v := vr q) rfl ?_
            refine M.run 4 (pc' := 135) (lv' := [some (vr p), some (vi clk), some (vi what), some (vi bl), some (vi kind), some (vi (((24 : Nat) : Int) * ((4 : Nat) : Int)))]) (st' := [vi bl, vi ((((24 : Nat) : Int) * ((4 : Nat) : Int)) + 2), vr q]) rfl ?_
            refine M.iastN (24 * 4 + 2) rfl f35 (by omega) (by omega) ?_
            have f38 : lk (up w33 q (Ar 0 (cap * 4) (uN (uN (uN (cpN f f 4 0 96) (24 * 4) clk) (24 * 4 + 1) what) (24 * 4 + 2) bl))) p = some (Ob 3 [vi ((4 : Nat) : Int), vr q, vi ((24 : Nat) : Int)]) := (lk_up_n hpq).trans f34
            have f39 : lk (up w33 q (Ar 0 (cap * 4) (uN (uN (uN (cpN f f 4 0 96) (24 * 4) clk) (24 * 4 + 1) what) (24 * 4 + 2) bl))) q = some (Ar 0 (cap * 4) (uN (uN (uN (cpN f f 4 0 96) (24 * 4) clk) (24 * 4 + 1) what) (24 * 4 + 2) bl)) := lk_up_s f35
            have fr40 : Frm p q w (up w33 q (Ar 0 (cap * 4) (uN (uN (uN (cpN f f 4 0 96) (24 * 4) clk) (24 * 4 + 1) what) (24 * 4 + 2) bl))) := fr36.u2
            generalize up w33 q (Ar 0 (cap * 4) (uN (uN (uN (cpN f f 4 0 96) (24 * 4) clk) (24 * 4 + 1) what) (24 * 4 + 2) bl)) = w37 at f38 f39 fr40 ⊢
            refine M.run 1 (pc' := 137) (lv' := [some (vr p), some (vi clk), some (vi what), some (vi bl), some (vi kind), some (vi (((24 : Nat) : Int) * ((4 : Nat) : Int)))]) (st' := [vr p]) rfl ?_
            refine M.get fl_X4_21 rfl f38 (kf := 1) (v := vr q) rfl ?_
            refine M.run 4 (pc' := 146) (lv' := [some (vr p), some (vi clk), some (vi what), some (vi bl), some (vi kind), some (vi (((24 : Nat) : Int) * ((4 : Nat) : Int)))]) (st' := [vi kind, vi ((((24 : Nat) : Int) * ((4 : Nat) : Int)) + 3), vr q]) rfl ?_
            refine M.iastN (24 * 4 + 3) rfl f39 (by omega) (by omega) ?_
            have f42 : lk (up w37 q (Ar 0 (cap * 4) (uN (uN (uN (uN (cpN f f 4 0 96) (24 * 4) clk) (24 * 4 + 1) what) (24 * 4 + 2) bl) (24 * 4 + 3) kind))) p = some (Ob 3 [vi ((4 : Nat) : Int), vr q, vi ((24 : Nat) : Int)]) := (lk_up_n hpq).trans f38
            have f43 : lk (up w37 q (Ar 0 (cap * 4) (uN (uN (uN (uN (cpN f f 4 0 96) (24 * 4) clk) (24 * 4 + 1) what) (24 * 4 + 2) bl) (24 * 4 + 3) kind))) q = some (Ar 0 (cap * 4) (uN (uN (uN (uN (cpN f f 4 0 96) (24 * 4) clk) (24 * 4 + 1) what) (24 * 4 + 2) bl) (24 * 4 + 3) kind)) := lk_up_s f39
            have fr44 : Frm p q w (up w37 q (Ar 0 (cap * 4) (uN (uN (uN (uN (cpN f f 4 0 96) (24 * 4) clk) (24 * 4 + 1) what) (24 * 4 + 2) bl) (24 * 4 + 3) kind))) := fr40.u2
            generalize up w37 q (Ar 0 (cap * 4) (uN (uN (uN (uN (cpN f f 4 0 96) (24 * 4) clk) (24 * 4 + 1) what) (24 * 4 + 2) bl) (24 * 4 + 3) kind)) = w41 at f42 f43 fr44 ⊢
            refine M.run 2 (pc' := 149) (lv' := [some (vr p), some (vi clk), some (vi what), some (vi bl), some (vi kind), some (vi (((24 : Nat) : Int) * ((4 : Nat) : Int)))]) (st' := [vr p, vr p]) rfl ?_
            refine M.get fl_X4_25 rfl f42 (kf := 2) (v := vi ((24 : Nat) : Int)) rfl ?_
            refine M.run 2 (pc' := 154) (lv' := [some (vr p), some (vi clk), some (vi what), some (vi bl), some (vi kind), some (vi (((24 : Nat) : Int) * ((4 : Nat) : Int)))]) (st' := [vi (((24 : Nat) : Int) + 1), vr p]) rfl ?_
            refine M.put fl_X4_25 rfl f42 rfl rfl (Nat.le_of_ble_eq_true rfl) ?_
            have f46 : lk (up w41 p (Ob 3 ([vi ((4 : Nat) : Int), vr q, vi ((24 : Nat) : Int)].set 2 (vi (((24 : Nat) : Int) + 1))))) p = some (Ob 3 [vi ((4 : Nat) : Int), vr q, vi (((24 : Nat) : Int) + 1)]) := lk_up_s f42
            have f47 : lk (up w41 p (Ob 3 ([vi ((4 : Nat) : Int), vr q, vi ((24 : Nat) : Int)].set 2 (vi (((24 : Nat) : Int) + 1))))) q = some (Ar 0 (cap * 4) (uN (uN (uN (uN (cpN f f 4 0 96) (24 * 4) clk) (24 * 4 + 1) what) (24 * 4 + 2) bl) (24 * 4 + 3) kind)) := (lk_up_n hqp).trans f43
            have fr48 : Frm p q w (up w41 p (Ob 3 ([vi ((4 : Nat) : Int), vr q, vi ((24 : Nat) : Int)].set 2 (vi (((24 : Nat) : Int) + 1))))) := fr44.u1
            generalize up w41 p (Ob 3 ([vi ((4 : Nat) : Int), vr q, vi ((24 : Nat) : Int)].set 2 (vi (((24 : Nat) : Int) + 1)))) = w45 at f46 f47 fr48 ⊢
            exact M.vret rfl (Nat.zero_le _) (Nat.zero_le _) (by
                have hl25 : L.length = 25 := by omega
                have hb : bkA L (rwB clk what bl kind) = L.tail ++ [rwB clk what bl kind] := by unfold bkA; rw [if_pos hl25]
                have ht : L.tail.length = 24 := by rw [List.length_tail, hl25]
                rw [hb]
                refine ⟨rfl, ⟨by rw [List.length_append, ht, show ((24 + [rwB clk what bl kind].length : Nat) : Int) = ((24 : Nat) : Int) + 1 from rfl]; exact f46, _, f47, by rw [List.length_append, ht]; show 25 ≤ cap; omega, fun i k hi hk => ?_⟩, fr48⟩
                rw [List.length_append, ht] at hi
                have hi2 : i < 24 + 1 := hi
                by_cases e : i < 24
                · rw [gR_app (by omega), gR_tail, uN_o (by omega), uN_o (by omega), uN_o (by omega), uN_o (by omega)]
                  unfold cpN
                  rw [if_pos (by omega), ← hf (i + 1) k (by omega) hk]; congr 1; omega
                · have e2 : i = L.tail.length := by omega
                  rw [e2, gR_last, ht]
                  match k, hk with
                  | 0, _ => rw [uN_o (by omega), uN_o (by omega), uN_o (by omega)]; exact (congrArg _ (by omega)).trans (uN_s _ _ _)
                  | 1, _ => rw [uN_o (by omega), uN_o (by omega)]; exact (congrArg _ (by omega)).trans (uN_s _ _ _)
                  | 2, _ => rw [uN_o (by omega)]; exact (congrArg _ (by omega)).trans (uN_s _ _ _)
                  | 3, _ => exact (congrArg _ (by omega)).trans (uN_s _ _ _)
                  | k + 4, h => exact absurd h (by omega))
          · skip
            omega
    · skip
      omega
set_option maxHeartbeats 4000000 in
set_option maxRecDepth 100000 in
theorem kX4_copyFrom7 (l : Launch) (G : GT) (p q p2 q2 cap : Nat) (hcap : cap ≤ 100) (L L2 : List Rw) : Ctr l G yX4_copyFrom cX4_copyFrom 3 ((Option.none : Option Jvm.ClassFile.FieldType)) 1 0 0 [vr p, vr p2] (fun w => isRw p q 7 cap L w ∧ isRw p2 q2 7 cap L2 w ∧ q ≠ q2 ∧ p ≠ p2) (fun w r w' => r = none ∧ isRw p q 7 cap L2 w' ∧ Frm p q w w') := by
  refine Ctr.of (t := tX4_copyFrom) (lv0 := [some (vr p), some (vr p2), none]) (by decide +kernel) tX4_copyFrom_ok rfl rfl (fun w g hP M => ?_)
  have hP0 := hP.1
  have hP2 := hP.2.1
  obtain ⟨⟨hO, f, hC, hlc, hf⟩, ⟨hO2, fo, hC2, hlc2, hf2⟩, hqq, hp_p2⟩ := hP
  have hp_q : p ≠ q := fun e => by rw [e, hC] at hO; cases hO
  have hq_p : q ≠ p := fun e => hp_q e.symm
  have hp2_q2 : p2 ≠ q2 := fun e => by rw [e, hC2] at hO2; cases hO2
  have hq2_p2 : q2 ≠ p2 := fun e => hp2_q2 e.symm
  have hp_q2 : p ≠ q2 := fun e => by rw [e, hC2] at hO; cases hO
  have hq2_p : q2 ≠ p := fun e => hp_q2 e.symm
  have hp2_q : p2 ≠ q := fun e => by rw [e, hC] at hO2; cases hO2
  have hq_p2 : q ≠ p2 := fun e => hp2_q e.symm
  have hp2_p : p2 ≠ p := fun e => hp_p2 e.symm
  have hq_q2 : q ≠ q2 := hqq
  have hq2_q : q2 ≠ q := fun e => hqq e.symm
  refine M.run 1 (pc' := 1) (lv' := [some (vr p), some (vr p2), none]) (st' := [vr p2]) rfl ?_
  refine M.get fl_X4_25 rfl hO2 (kf := 2) (v := vi ((L2.length : Nat) : Int)) rfl ?_
  refine M.run 1 (pc' := 5) (lv' := [some (vr p), some (vr p2), none]) (st' := [vr p2, vi ((L2.length : Nat) : Int)]) rfl ?_
  refine M.get fl_X4_15 rfl hO2 (kf := 0) (v := vi ((7 : Nat) : Int)) rfl ?_
  refine M.run 3 (pc' := 11) (lv' := [some (vr p), some (vr p2), some (vi (((L2.length : Nat) : Int) * ((7 : Nat) : Int)))]) (st' := [vi (((L2.length : Nat) : Int) * ((7 : Nat) : Int))]) rfl ?_
  refine M.if_lt (tgt := 32) rfl (qI (by omega)) (by decide) (fun h11 => ?_) (fun h11 => ?_)
  · skip
    omega
  · skip
    refine M.run 2 (pc' := 16) (lv' := [some (vr p), some (vr p2), some (vi (((L2.length : Nat) : Int) * ((7 : Nat) : Int)))]) (st' := [vr p, vi (((L2.length : Nat) : Int) * ((7 : Nat) : Int))]) rfl ?_
    refine M.get fl_X4_21 rfl hO (kf := 1) (v := vr q) rfl ?_
    refine M.alen rfl hC (by decide) ?_
    refine M.icmp_gt (tgt := 32) rfl (qI (by omega)) (qI (by omega)) (by decide) (fun h20 => ?_) (fun h20 => ?_)
    · skip
      omega
    · skip
      refine M.run 2 (pc' := 25) (lv' := [some (vr p), some (vr p2), some (vi (((L2.length : Nat) : Int) * ((7 : Nat) : Int)))]) (st' := [vr p2, vi (((L2.length : Nat) : Int) * ((7 : Nat) : Int))]) rfl ?_
      refine M.get fl_X4_21 rfl hO2 (kf := 1) (v := vr q2) rfl ?_
      refine M.alen rfl hC2 (by decide) ?_
      refine M.icmp_le (tgt := 33) rfl (qI (by omega)) (qI (by omega)) (by decide) (fun h29 => ?_) (fun h29 => ?_)
      · skip
        refine M.run 1 (pc' := 34) (lv' := [some (vr p), some (vr p2), some (vi (((L2.length : Nat) : Int) * ((7 : Nat) : Int)))]) (st' := [vr p2]) rfl ?_
        refine M.get fl_X4_21 rfl hO2 (kf := 1) (v := vr q2) rfl ?_
        refine M.run 2 (pc' := 39) (lv' := [some (vr p), some (vr p2), some (vi (((L2.length : Nat) : Int) * ((7 : Nat) : Int)))]) (st' := [vr p, vi 0, vr q2]) rfl ?_
        refine M.get fl_X4_21 rfl hO (kf := 1) (v := vr q) rfl ?_
        refine M.run 2 (pc' := 44) (lv' := [some (vr p), some (vr p2), some (vi (((L2.length : Nat) : Int) * ((7 : Nat) : Int)))]) (st' := [vi (((L2.length : Nat) : Int) * ((7 : Nat) : Int)), vi 0, vr q, vi 0, vr q2]) rfl ?_
        refine M.acopy 0 0 (L2.length * 7) ac_X4_31 rfl hC2 hC (by omega) (by omega) (by omega) (by omega) (by decide) rfl ?_
        have f2 : lk (up w q (Ar 0 (cap * 7) (cpN fo f 0 0 (L2.length * 7)))) p = some (Ob 3 [vi ((7 : Nat) : Int), vr q, vi ((L.length : Nat) : Int)]) := (lk_up_n hp_q).trans hO
        have f3 : lk (up w q (Ar 0 (cap * 7) (cpN fo f 0 0 (L2.length * 7)))) q = some (Ar 0 (cap * 7) (cpN fo f 0 0 (L2.length * 7))) := lk_up_s hC
        have f4 : lk (up w q (Ar 0 (cap * 7) (cpN fo f 0 0 (L2.length * 7)))) p2 = some (Ob 3 [vi ((7 : Nat) : Int), vr q2, vi ((L2.length : Nat) : Int)]) := (lk_up_n hp2_q).trans hO2
        have f5 : lk (up w q (Ar 0 (cap * 7) (cpN fo f 0 0 (L2.length * 7)))) q2 = some (Ar 0 (cap * 7) fo) := (lk_up_n hq2_q).trans hC2
        have fr6 : Frm p q w (up w q (Ar 0 (cap * 7) (cpN fo f 0 0 (L2.length * 7)))) := (Frm.rf).u2
        generalize up w q (Ar 0 (cap * 7) (cpN fo f 0 0 (L2.length * 7))) = w1 at f2 f3 f4 f5 fr6 ⊢
        refine M.run 2 (pc' := 49) (lv' := [some (vr p), some (vr p2), some (vi (((L2.length : Nat) : Int) * ((7 : Nat) : Int)))]) (st' := [vr p2, vr p]) rfl ?_
        refine M.get fl_X4_25 rfl f4 (kf := 2) (v := vi ((L2.length : Nat) : Int)) rfl ?_
        refine M.put fl_X4_25 rfl f2 rfl rfl (Nat.le_of_ble_eq_true rfl) ?_
        have f8 : lk (up w1 p (Ob 3 ([vi ((7 : Nat) : Int), vr q, vi ((L.length : Nat) : Int)].set 2 (vi ((L2.length : Nat) : Int))))) p = some (Ob 3 [vi ((7 : Nat) : Int), vr q, vi ((L2.length : Nat) : Int)]) := lk_up_s f2
        have f9 : lk (up w1 p (Ob 3 ([vi ((7 : Nat) : Int), vr q, vi ((L.length : Nat) : Int)].set 2 (vi ((L2.length : Nat) : Int))))) q = some (Ar 0 (cap * 7) (cpN fo f 0 0 (L2.length * 7))) := (lk_up_n hq_p).trans f3
        have f10 : lk (up w1 p (Ob 3 ([vi ((7 : Nat) : Int), vr q, vi ((L.length : Nat) : Int)].set 2 (vi ((L2.length : Nat) : Int))))) p2 = some (Ob 3 [vi ((7 : Nat) : Int), vr q2, vi ((L2.length : Nat) : Int)]) := (lk_up_n hp2_p).trans f4
        have f11 : lk (up w1 p (Ob 3 ([vi ((7 : Nat) : Int), vr q, vi ((L.length : Nat) : Int)].set 2 (vi ((L2.length : Nat) : Int))))) q2 = some (Ar 0 (cap * 7) fo) := (lk_up_n hq2_p).trans f5
        have fr12 : Frm p q w (up w1 p (Ob 3 ([vi ((7 : Nat) : Int), vr q, vi ((L.length : Nat) : Int)].set 2 (vi ((L2.length : Nat) : Int))))) := fr6.u1
        generalize up w1 p (Ob 3 ([vi ((7 : Nat) : Int), vr q, vi ((L.length : Nat) : Int)].set 2 (vi ((L2.length : Nat) : Int)))) = w7 at f8 f9 f10 f11 fr12 ⊢
        exact M.vret rfl (Nat.zero_le _) (Nat.zero_le _) (by
            refine ⟨rfl, ⟨f8, _, f9, hlc2, fun i k hi hk => ?_⟩, fr12⟩
            unfold cpN
            rw [if_pos (by omega), ← hf2 i k hi hk]
            congr 1
            omega)
      · skip
        omega
set_option maxHeartbeats 4000000 in
set_option maxRecDepth 100000 in
theorem kX4_copyFrom9 (l : Launch) (G : GT) (p q p2 q2 cap : Nat) (hcap : cap ≤ 100) (L L2 : List Rw) : Ctr l G yX4_copyFrom cX4_copyFrom 3 ((Option.none : Option Jvm.ClassFile.FieldType)) 1 0 0 [vr p, vr p2] (fun w => isRw p q 9 cap L w ∧ isRw p2 q2 9 cap L2 w ∧ q ≠ q2 ∧ p ≠ p2) (fun w r w' => r = none ∧ isRw p q 9 cap L2 w' ∧ Frm p q w w') := by
  refine Ctr.of (t := tX4_copyFrom) (lv0 := [some (vr p), some (vr p2), none]) (by decide +kernel) tX4_copyFrom_ok rfl rfl (fun w g hP M => ?_)
  have hP0 := hP.1
  have hP2 := hP.2.1
  obtain ⟨⟨hO, f, hC, hlc, hf⟩, ⟨hO2, fo, hC2, hlc2, hf2⟩, hqq, hp_p2⟩ := hP
  have hp_q : p ≠ q := fun e => by rw [e, hC] at hO; cases hO
  have hq_p : q ≠ p := fun e => hp_q e.symm
  have hp2_q2 : p2 ≠ q2 := fun e => by rw [e, hC2] at hO2; cases hO2
  have hq2_p2 : q2 ≠ p2 := fun e => hp2_q2 e.symm
  have hp_q2 : p ≠ q2 := fun e => by rw [e, hC2] at hO; cases hO
  have hq2_p : q2 ≠ p := fun e => hp_q2 e.symm
  have hp2_q : p2 ≠ q := fun e => by rw [e, hC] at hO2; cases hO2
  have hq_p2 : q ≠ p2 := fun e => hp2_q e.symm
  have hp2_p : p2 ≠ p := fun e => hp_p2 e.symm
  have hq_q2 : q ≠ q2 := hqq
  have hq2_q : q2 ≠ q := fun e => hqq e.symm
  refine M.run 1 (pc' := 1) (lv' := [some (vr p), some (vr p2), none]) (st' := [vr p2]) rfl ?_
  refine M.get fl_X4_25 rfl hO2 (kf := 2) (v := vi ((L2.length : Nat) : Int)) rfl ?_
  refine M.run 1 (pc' := 5) (lv' := [some (vr p), some (vr p2), none]) (st' := [vr p2, vi ((L2.length : Nat) : Int)]) rfl ?_
  refine M.get fl_X4_15 rfl hO2 (kf := 0) (v := vi ((9 : Nat) : Int)) rfl ?_
  refine M.run 3 (pc' := 11) (lv' := [some (vr p), some (vr p2), some (vi (((L2.length : Nat) : Int) * ((9 : Nat) : Int)))]) (st' := [vi (((L2.length : Nat) : Int) * ((9 : Nat) : Int))]) rfl ?_
  refine M.if_lt (tgt := 32) rfl (qI (by omega)) (by decide) (fun h11 => ?_) (fun h11 => ?_)
  · skip
    omega
  · skip
    refine M.run 2 (pc' := 16) (lv' := [some (vr p), some (vr p2), some (vi (((L2.length : Nat) : Int) * ((9 : Nat) : Int)))]) (st' := [vr p, vi (((L2.length : Nat) : Int) * ((9 : Nat) : Int))]) rfl ?_
    refine M.get fl_X4_21 rfl hO (kf := 1) (v := vr q) rfl ?_
    refine M.alen rfl hC (by decide) ?_
    refine M.icmp_gt (tgt := 32) rfl (qI (by omega)) (qI (by omega)) (by decide) (fun h20 => ?_) (fun h20 => ?_)
    · skip
      omega
    · skip
      refine M.run 2 (pc' := 25) (lv' := [some (vr p), some (vr p2), some (vi (((L2.length : Nat) : Int) * ((9 : Nat) : Int)))]) (st' := [vr p2, vi (((L2.length : Nat) : Int) * ((9 : Nat) : Int))]) rfl ?_
      refine M.get fl_X4_21 rfl hO2 (kf := 1) (v := vr q2) rfl ?_
      refine M.alen rfl hC2 (by decide) ?_
      refine M.icmp_le (tgt := 33) rfl (qI (by omega)) (qI (by omega)) (by decide) (fun h29 => ?_) (fun h29 => ?_)
      · skip
        refine M.run 1 (pc' := 34) (lv' := [some (vr p), some (vr p2), some (vi (((L2.length : Nat) : Int) * ((9 : Nat) : Int)))]) (st' := [vr p2]) rfl ?_
        refine M.get fl_X4_21 rfl hO2 (kf := 1) (v := vr q2) rfl ?_
        refine M.run 2 (pc' := 39) (lv' := [some (vr p), some (vr p2), some (vi (((L2.length : Nat) : Int) * ((9 : Nat) : Int)))]) (st' := [vr p, vi 0, vr q2]) rfl ?_
        refine M.get fl_X4_21 rfl hO (kf := 1) (v := vr q) rfl ?_
        refine M.run 2 (pc' := 44) (lv' := [some (vr p), some (vr p2), some (vi (((L2.length : Nat) : Int) * ((9 : Nat) : Int)))]) (st' := [vi (((L2.length : Nat) : Int) * ((9 : Nat) : Int)), vi 0, vr q, vi 0, vr q2]) rfl ?_
        refine M.acopy 0 0 (L2.length * 9) ac_X4_31 rfl hC2 hC (by omega) (by omega) (by omega) (by omega) (by decide) rfl ?_
        have f2 : lk (up w q (Ar 0 (cap * 9) (cpN fo f 0 0 (L2.length * 9)))) p = some (Ob 3 [vi ((9 : Nat) : Int), vr q, vi ((L.length : Nat) : Int)]) := (lk_up_n hp_q).trans hO
        have f3 : lk (up w q (Ar 0 (cap * 9) (cpN fo f 0 0 (L2.length * 9)))) q = some (Ar 0 (cap * 9) (cpN fo f 0 0 (L2.length * 9))) := lk_up_s hC
        have f4 : lk (up w q (Ar 0 (cap * 9) (cpN fo f 0 0 (L2.length * 9)))) p2 = some (Ob 3 [vi ((9 : Nat) : Int), vr q2, vi ((L2.length : Nat) : Int)]) := (lk_up_n hp2_q).trans hO2
        have f5 : lk (up w q (Ar 0 (cap * 9) (cpN fo f 0 0 (L2.length * 9)))) q2 = some (Ar 0 (cap * 9) fo) := (lk_up_n hq2_q).trans hC2
        have fr6 : Frm p q w (up w q (Ar 0 (cap * 9) (cpN fo f 0 0 (L2.length * 9)))) := (Frm.rf).u2
        generalize up w q (Ar 0 (cap * 9) (cpN fo f 0 0 (L2.length * 9))) = w1 at f2 f3 f4 f5 fr6 ⊢
        refine M.run 2 (pc' := 49) (lv' := [some (vr p), some (vr p2), some (vi (((L2.length : Nat) : Int) * ((9 : Nat) : Int)))]) (st' := [vr p2, vr p]) rfl ?_
        refine M.get fl_X4_25 rfl f4 (kf := 2) (v := vi ((L2.length : Nat) : Int)) rfl ?_
        refine M.put fl_X4_25 rfl f2 rfl rfl (Nat.le_of_ble_eq_true rfl) ?_
        have f8 : lk (up w1 p (Ob 3 ([vi ((9 : Nat) : Int), vr q, vi ((L.length : Nat) : Int)].set 2 (vi ((L2.length : Nat) : Int))))) p = some (Ob 3 [vi ((9 : Nat) : Int), vr q, vi ((L2.length : Nat) : Int)]) := lk_up_s f2
        have f9 : lk (up w1 p (Ob 3 ([vi ((9 : Nat) : Int), vr q, vi ((L.length : Nat) : Int)].set 2 (vi ((L2.length : Nat) : Int))))) q = some (Ar 0 (cap * 9) (cpN fo f 0 0 (L2.length * 9))) := (lk_up_n hq_p).trans f3
        have f10 : lk (up w1 p (Ob 3 ([vi ((9 : Nat) : Int), vr q, vi ((L.length : Nat) : Int)].set 2 (vi ((L2.length : Nat) : Int))))) p2 = some (Ob 3 [vi ((9 : Nat) : Int), vr q2, vi ((L2.length : Nat) : Int)]) := (lk_up_n hp2_p).trans f4
        have f11 : lk (up w1 p (Ob 3 ([vi ((9 : Nat) : Int), vr q, vi ((L.length : Nat) : Int)].set 2 (vi ((L2.length : Nat) : Int))))) q2 = some (Ar 0 (cap * 9) fo) := (lk_up_n hq2_p).trans f5
        have fr12 : Frm p q w (up w1 p (Ob 3 ([vi ((9 : Nat) : Int), vr q, vi ((L.length : Nat) : Int)].set 2 (vi ((L2.length : Nat) : Int))))) := fr6.u1
        generalize up w1 p (Ob 3 ([vi ((9 : Nat) : Int), vr q, vi ((L.length : Nat) : Int)].set 2 (vi ((L2.length : Nat) : Int)))) = w7 at f8 f9 f10 f11 fr12 ⊢
        exact M.vret rfl (Nat.zero_le _) (Nat.zero_le _) (by
            refine ⟨rfl, ⟨f8, _, f9, hlc2, fun i k hi hk => ?_⟩, fr12⟩
            unfold cpN
            rw [if_pos (by omega), ← hf2 i k hi hk]
            congr 1
            omega)
      · skip
        omega
set_option maxHeartbeats 4000000 in
set_option maxRecDepth 100000 in
theorem kX4_copyFrom4 (l : Launch) (G : GT) (p q p2 q2 cap : Nat) (hcap : cap ≤ 100) (L L2 : List Rw) : Ctr l G yX4_copyFrom cX4_copyFrom 3 ((Option.none : Option Jvm.ClassFile.FieldType)) 1 0 0 [vr p, vr p2] (fun w => isRw p q 4 cap L w ∧ isRw p2 q2 4 cap L2 w ∧ q ≠ q2 ∧ p ≠ p2) (fun w r w' => r = none ∧ isRw p q 4 cap L2 w' ∧ Frm p q w w') := by
  refine Ctr.of (t := tX4_copyFrom) (lv0 := [some (vr p), some (vr p2), none]) (by decide +kernel) tX4_copyFrom_ok rfl rfl (fun w g hP M => ?_)
  have hP0 := hP.1
  have hP2 := hP.2.1
  obtain ⟨⟨hO, f, hC, hlc, hf⟩, ⟨hO2, fo, hC2, hlc2, hf2⟩, hqq, hp_p2⟩ := hP
  have hp_q : p ≠ q := fun e => by rw [e, hC] at hO; cases hO
  have hq_p : q ≠ p := fun e => hp_q e.symm
  have hp2_q2 : p2 ≠ q2 := fun e => by rw [e, hC2] at hO2; cases hO2
  have hq2_p2 : q2 ≠ p2 := fun e => hp2_q2 e.symm
  have hp_q2 : p ≠ q2 := fun e => by rw [e, hC2] at hO; cases hO
  have hq2_p : q2 ≠ p := fun e => hp_q2 e.symm
  have hp2_q : p2 ≠ q := fun e => by rw [e, hC] at hO2; cases hO2
  have hq_p2 : q ≠ p2 := fun e => hp2_q e.symm
  have hp2_p : p2 ≠ p := fun e => hp_p2 e.symm
  have hq_q2 : q ≠ q2 := hqq
  have hq2_q : q2 ≠ q := fun e => hqq e.symm
  refine M.run 1 (pc' := 1) (lv' := [some (vr p), some (vr p2), none]) (st' := [vr p2]) rfl ?_
  refine M.get fl_X4_25 rfl hO2 (kf := 2) (v := vi ((L2.length : Nat) : Int)) rfl ?_
  refine M.run 1 (pc' := 5) (lv' := [some (vr p), some (vr p2), none]) (st' := [vr p2, vi ((L2.length : Nat) : Int)]) rfl ?_
  refine M.get fl_X4_15 rfl hO2 (kf := 0) (v := vi ((4 : Nat) : Int)) rfl ?_
  refine M.run 3 (pc' := 11) (lv' := [some (vr p), some (vr p2), some (vi (((L2.length : Nat) : Int) * ((4 : Nat) : Int)))]) (st' := [vi (((L2.length : Nat) : Int) * ((4 : Nat) : Int))]) rfl ?_
  refine M.if_lt (tgt := 32) rfl (qI (by omega)) (by decide) (fun h11 => ?_) (fun h11 => ?_)
  · skip
    omega
  · skip
    refine M.run 2 (pc' := 16) (lv' := [some (vr p), some (vr p2), some (vi (((L2.length : Nat) : Int) * ((4 : Nat) : Int)))]) (st' := [vr p, vi (((L2.length : Nat) : Int) * ((4 : Nat) : Int))]) rfl ?_
    refine M.get fl_X4_21 rfl hO (kf := 1) (v := vr q) rfl ?_
    refine M.alen rfl hC (by decide) ?_
    refine M.icmp_gt (tgt := 32) rfl (qI (by omega)) (qI (by omega)) (by decide) (fun h20 => ?_) (fun h20 => ?_)
    · skip
      omega
    · skip
      refine M.run 2 (pc' := 25) (lv' := [some (vr p), some (vr p2), some (vi (((L2.length : Nat) : Int) * ((4 : Nat) : Int)))]) (st' := [vr p2, vi (((L2.length : Nat) : Int) * ((4 : Nat) : Int))]) rfl ?_
      refine M.get fl_X4_21 rfl hO2 (kf := 1) (v := vr q2) rfl ?_
      refine M.alen rfl hC2 (by decide) ?_
      refine M.icmp_le (tgt := 33) rfl (qI (by omega)) (qI (by omega)) (by decide) (fun h29 => ?_) (fun h29 => ?_)
      · skip
        refine M.run 1 (pc' := 34) (lv' := [some (vr p), some (vr p2), some (vi (((L2.length : Nat) : Int) * ((4 : Nat) : Int)))]) (st' := [vr p2]) rfl ?_
        refine M.get fl_X4_21 rfl hO2 (kf := 1) (v := vr q2) rfl ?_
        refine M.run 2 (pc' := 39) (lv' := [some (vr p), some (vr p2), some (vi (((L2.length : Nat) : Int) * ((4 : Nat) : Int)))]) (st' := [vr p, vi 0, vr q2]) rfl ?_
        refine M.get fl_X4_21 rfl hO (kf := 1) (v := vr q) rfl ?_
        refine M.run 2 (pc' := 44) (lv' := [some (vr p), some (vr p2), some (vi (((L2.length : Nat) : Int) * ((4 : Nat) : Int)))]) (st' := [vi (((L2.length : Nat) : Int) * ((4 : Nat) : Int)), vi 0, vr q, vi 0, vr q2]) rfl ?_
        refine M.acopy 0 0 (L2.length * 4) ac_X4_31 rfl hC2 hC (by omega) (by omega) (by omega) (by omega) (by decide) rfl ?_
        have f2 : lk (up w q (Ar 0 (cap * 4) (cpN fo f 0 0 (L2.length * 4)))) p = some (Ob 3 [vi ((4 : Nat) : Int), vr q, vi ((L.length : Nat) : Int)]) := (lk_up_n hp_q).trans hO
        have f3 : lk (up w q (Ar 0 (cap * 4) (cpN fo f 0 0 (L2.length * 4)))) q = some (Ar 0 (cap * 4) (cpN fo f 0 0 (L2.length * 4))) := lk_up_s hC
        have f4 : lk (up w q (Ar 0 (cap * 4) (cpN fo f 0 0 (L2.length * 4)))) p2 = some (Ob 3 [vi ((4 : Nat) : Int), vr q2, vi ((L2.length : Nat) : Int)]) := (lk_up_n hp2_q).trans hO2
        have f5 : lk (up w q (Ar 0 (cap * 4) (cpN fo f 0 0 (L2.length * 4)))) q2 = some (Ar 0 (cap * 4) fo) := (lk_up_n hq2_q).trans hC2
        have fr6 : Frm p q w (up w q (Ar 0 (cap * 4) (cpN fo f 0 0 (L2.length * 4)))) := (Frm.rf).u2
        generalize up w q (Ar 0 (cap * 4) (cpN fo f 0 0 (L2.length * 4))) = w1 at f2 f3 f4 f5 fr6 ⊢
        refine M.run 2 (pc' := 49) (lv' := [some (vr p), some (vr p2), some (vi (((L2.length : Nat) : Int) * ((4 : Nat) : Int)))]) (st' := [vr p2, vr p]) rfl ?_
        refine M.get fl_X4_25 rfl f4 (kf := 2) (v := vi ((L2.length : Nat) : Int)) rfl ?_
        refine M.put fl_X4_25 rfl f2 rfl rfl (Nat.le_of_ble_eq_true rfl) ?_
        have f8 : lk (up w1 p (Ob 3 ([vi ((4 : Nat) : Int), vr q, vi ((L.length : Nat) : Int)].set 2 (vi ((L2.length : Nat) : Int))))) p = some (Ob 3 [vi ((4 : Nat) : Int), vr q, vi ((L2.length : Nat) : Int)]) := lk_up_s f2
        have f9 : lk (up w1 p (Ob 3 ([vi ((4 : Nat) : Int), vr q, vi ((L.length : Nat) : Int)].set 2 (vi ((L2.length : Nat) : Int))))) q = some (Ar 0 (cap * 4) (cpN fo f 0 0 (L2.length * 4))) := (lk_up_n hq_p).trans f3
        have f10 : lk (up w1 p (Ob 3 ([vi ((4 : Nat) : Int), vr q, vi ((L.length : Nat) : Int)].set 2 (vi ((L2.length : Nat) : Int))))) p2 = some (Ob 3 [vi ((4 : Nat) : Int), vr q2, vi ((L2.length : Nat) : Int)]) := (lk_up_n hp2_p).trans f4
        have f11 : lk (up w1 p (Ob 3 ([vi ((4 : Nat) : Int), vr q, vi ((L.length : Nat) : Int)].set 2 (vi ((L2.length : Nat) : Int))))) q2 = some (Ar 0 (cap * 4) fo) := (lk_up_n hq2_p).trans f5
        have fr12 : Frm p q w (up w1 p (Ob 3 ([vi ((4 : Nat) : Int), vr q, vi ((L.length : Nat) : Int)].set 2 (vi ((L2.length : Nat) : Int))))) := fr6.u1
        generalize up w1 p (Ob 3 ([vi ((4 : Nat) : Int), vr q, vi ((L.length : Nat) : Int)].set 2 (vi ((L2.length : Nat) : Int)))) = w7 at f8 f9 f10 f11 fr12 ⊢
        exact M.vret rfl (Nat.zero_le _) (Nat.zero_le _) (by
            refine ⟨rfl, ⟨f8, _, f9, hlc2, fun i k hi hk => ?_⟩, fr12⟩
            unfold cpN
            rw [if_pos (by omega), ← hf2 i k hi hk]
            congr 1
            omega)
      · skip
        omega
