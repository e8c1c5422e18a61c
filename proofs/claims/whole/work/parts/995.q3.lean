/-! the reference's next token -/
theorem pkW_b {c : Nat → Int} {s : Nat} (n : Nat) (h : lts c s n) : 0 ≤ pkW c s n ∧ pkW c s n ≤ 1152921504606846976 := by
  rcases Nat.lt_or_ge n 8 with q | q
  · rw [pkW_s n (by omega) h]
    have h1 := pk_0 n h
    rcases Nat.lt_or_ge n 7 with q2 | q2
    · have := pkv_lt n (by omega) h
      omega
    · have e : n = 7 := by omega
      subst e
      have := pk_7 h
      omega
  · obtain ⟨k, rfl⟩ : ∃ k, n = 8 + k := ⟨n - 8, by omega⟩
    rw [pkW_8 k h]
    decide
set_option maxHeartbeats 4000000 in
set_option maxRecDepth 100000 in
theorem kX11_nextToken (l : Launch) (G : GT) (o : Nat) (am : Nat → Nat) (u a : Nat → Int) (b : Nat → Nat → Int) (t p0 : Nat) (hb : ∀ k : Nat, k < 300 → 0 ≤ b 3 k ∧ b 3 k < 256) (h4 : u 4 = ((t : Nat) : Int)) (ht : t ≤ 300) (h7 : u 7 = ((p0 : Nat) : Int)) (hp : p0 ≤ t) : Ctr l G yX11_nextToken cX11_nextToken 2 ((Option.none : Option Jvm.ClassFile.FieldType)) 2 0 0 [vr o] (fun w => isM o am u a b w) (fun w r w' => r = none ∧ ∃ v : Nat → Int, isM o am v a b w' ∧ tkI (b 3) t (nS (b 3) t p0) v ∧ ∀ k : Nat, ¬ (7 ≤ k ∧ k ≤ 11) → v k = u k) := by
  refine Ctr.of (t := tX11_nextToken) (lv0 := [some (vr o), none]) (by decide +kernel) tX11_nextToken_ok rfl rfl (fun w g hM M => ?_)
  obtain ⟨hn1, hn2, hn3, hn4⟩ := nS_b (b := b 3) hp
  have hby : ∀ k : Nat, (k < t → byA (b 3) t k = b 3 k) ∧ (¬ k < t → byA (b 3) t k = -1) ∧ (-1 ≤ byA (b 3) t k ∧ byA (b 3) t k < 256) := by
    intro k
    unfold byA
    by_cases q : k < t
    · have := hb k (by omega)
      rw [if_pos q]
      exact ⟨fun _ => rfl, fun z => absurd q z, by omega⟩
    · rw [if_neg q]
      exact ⟨fun z => absurd z q, fun _ => rfl, by decide⟩
  generalize hq : nS (b 3) t p0 = q at *
  have K310 : ∀ (v : Nat → Int) (wz : Wo) (lv2 : Lo), isM o am v a b wz → tkI (b 3) t q v → (∀ k : Nat, ¬ (7 ≤ k ∧ k ≤ 11) → v k = u k) → g 0 0 wz 310 lv2 [] := fun v wz lv2 hM hi hf => M.vret rfl (Nat.zero_le _) (Nat.zero_le _) ⟨rfl, v, hM, hi, hf⟩
  have K85 : q < t → ¬ isLt (b 3 q) → isDg (b 3 q) → ∀ (d n : Nat) (v : Nat → Int) (wz : Wo) (c : Int), q + n + d = tkE (b 3) t q → isM o am v a b wz → v 4 = ((t : Nat) : Int) → v 8 = ((q : Nat) : Int) → v 9 = 1 → v 7 = ((q + n : Nat) : Int) → v 10 = fgR (b 3) q n → (∀ k : Nat, ¬ (7 ≤ k ∧ k ≤ 11) → v k = u k) → g 0 0 wz 85 [some (vr o), some (vi c)] [] := by
    intro hqt hl hdg d
    have hE := tkE_b (b := b 3) hqt
    have hEd := tkE_dg (b := b 3) (t := t) hl hdg
    have hEx : tkE (b 3) t q < t → ¬ isDg (b 3 (tkE (b 3) t q)) := by
      intro hx
      unfold tkE at hx ⊢
      rw [if_neg hl, if_pos hdg] at hx ⊢
      have y := tkR_e (f := tkF (b 3) 0) (t - (q + 1)) (q + 1) (by omega)
      have y2 := of_decide_eq_false y
      exact fun z => y2 (Or.inr ⟨rfl, z⟩)
    induction d with
    | zero =>
      intro n v wz c hd hM i4 i8 i9 i7 i10 hf
      have hgv := (fgR_r (b := b 3) (s := q) n (fun i hi => hEd i (by omega))).1
      refine M.run 2 (pc' := 87) (lv' := [some (vr o), some (vi c)]) (st' := [vr o, vr o]) rfl ?_
      refine M.get fl_X11_82 rfl (isM_o hM) (kf := 7) (v := vi (v 7)) rfl ?_
      rw [i7]
      refine M.callV (kX11_byteAt l G o am v a b t (q + n) (i4) ht (by omega)) cv_X11_85 cd_X11_byteAt rfl (st := []) rfl (isM_o hM) (by decide) (by decide) rfl (Nat.zero_le _) (Nat.zero_le _) hM (fun r1 w1 q1 => ?_)
      rw [q1.1, q1.2]
      have hc := hby (q + n)
      refine M.callS (kX11_isFigure l G (byA (b 3) t (q + n)) (by omega)) cs_X11_94 cd_X11_isFigure rfl (st := []) rfl (by decide) (by decide) rfl (Nat.zero_le _) (Nat.zero_le _) trivial (fun r9 w9 q9 => ?_)
      rw [q9.1, q9.2]
      refine M.if_eq (tgt := 310) rfl (qI (by have := zb_01 (decide (isDg (byA (b 3) t (q + n)))); omega)) rfl (fun hz => ?_) (fun hz => ?_)
      · refine K310 v wz _ hM ⟨i4, i8, hn2, fun z => absurd z (by omega), fun _ => ⟨hn4 hqt, by rw [i7, ← hd]; rfl, fun z => absurd z hl, fun _ _ => ⟨i9, ?_⟩, fun _ z => absurd hdg z⟩⟩ hf
        rw [i10, ← hd, show q + n + 0 - q = n by omega]
      · exfalso
        have z := zb_td hz
        by_cases y : q + n < t
        · rw [hc.1 y] at z
          rw [show q + n = tkE (b 3) t q by omega] at z y
          exact hEx y z
        · rw [hc.2.1 y] at z
          omega
    | succ d ih =>
      intro n v wz c hd hM i4 i8 i9 i7 i10 hf
      have hgv := (fgR_r (b := b 3) (s := q) n (fun i hi => hEd i (by omega))).1
      refine M.run 2 (pc' := 87) (lv' := [some (vr o), some (vi c)]) (st' := [vr o, vr o]) rfl ?_
      refine M.get fl_X11_82 rfl (isM_o hM) (kf := 7) (v := vi (v 7)) rfl ?_
      rw [i7]
      refine M.callV (kX11_byteAt l G o am v a b t (q + n) (i4) ht (by omega)) cv_X11_85 cd_X11_byteAt rfl (st := []) rfl (isM_o hM) (by decide) (by decide) rfl (Nat.zero_le _) (Nat.zero_le _) hM (fun r2 w2 q2 => ?_)
      rw [q2.1, q2.2]
      have hc := hby (q + n)
      refine M.callS (kX11_isFigure l G (byA (b 3) t (q + n)) (by omega)) cs_X11_94 cd_X11_isFigure rfl (st := []) rfl (by decide) (by decide) rfl (Nat.zero_le _) (Nat.zero_le _) trivial (fun r9 w9 q9 => ?_)
      rw [q9.1, q9.2]
      refine M.if_eq (tgt := 310) rfl (qI (by have := zb_01 (decide (isDg (byA (b 3) t (q + n)))); omega)) rfl (fun hz => ?_) (fun hz => ?_)
      · exfalso
        have z := zb_fd hz
        rw [hc.1 (by omega)] at z
        exact z (hEd n (by omega))
      · have hdn := hEd n (by omega)
        have hcv := hc.1 (show q + n < t by omega)
        have h135 : g 0 0 wz 135 [some (vr o), some (vi c)] [vi (fgR (b 3) q (n + 1)), vr o] := by
          refine M.put fl_X11_98 rfl (isM_o hM) rfl rfl (Nat.le_of_ble_eq_true rfl) ?_
          have hMp1 := isM_setU (u' := uN v 10 ((fgR (b 3) q (n + 1)))) (fs := (Mf am v).set 10 (vi ((fgR (b 3) q (n + 1))))) hM rfl
          generalize up wz o (Ob 10 ((Mf am v).set 10 (vi ((fgR (b 3) q (n + 1)))))) = wp1 at hMp1 ⊢
          refine M.run 2 (pc' := 140) (lv' := [some (vr o), some (vi c)]) (st' := [vr o, vr o]) rfl ?_
          refine M.get fl_X11_82 rfl (isM_o hMp1) (kf := 7) (v := vi (((uN v 10 ((fgR (b 3) q (n + 1))))) 7)) rfl ?_
          rw [show ((uN v 10 ((fgR (b 3) q (n + 1))))) 7 = ((q + n : Nat) : Int) from i7]
          refine M.run 2 (pc' := 145) (lv' := [some (vr o), some (vi c)]) (st' := [vi ((q + n + 1 : Nat) : Int), vr o]) rfl ?_
          refine M.put fl_X11_82 rfl (isM_o hMp1) rfl rfl (Nat.le_of_ble_eq_true rfl) ?_
          have hMp2 := isM_setU (u' := uN ((uN v 10 ((fgR (b 3) q (n + 1))))) 7 (((q + n + 1 : Nat) : Int))) (fs := (Mf am ((uN v 10 ((fgR (b 3) q (n + 1)))))).set 7 (vi (((q + n + 1 : Nat) : Int)))) hMp1 rfl
          generalize up wp1 o (Ob 10 ((Mf am ((uN v 10 ((fgR (b 3) q (n + 1)))))).set 7 (vi (((q + n + 1 : Nat) : Int))))) = wp2 at hMp2 ⊢
          refine M.run 1 (pc' := 85) (lv' := [some (vr o), some (vi c)]) (st' := []) rfl ?_
          exact ih (n + 1) _ _ c (by omega) hMp2 i4 i8 i9 rfl rfl (fun k hk => (uN_o (by omega)).trans ((uN_o (by omega)).trans ((hf k hk))))
        have e10 : fgR (b 3) q (n + 1) = if 99999 < fgR (b 3) q n then fgR (b 3) q n else 10 * fgR (b 3) q n + b 3 (q + n) - 48 := rfl
        refine M.run 2 (pc' := 101) (lv' := [some (vr o), some (vi c)]) (st' := [vr o, vr o]) rfl ?_
        refine M.get fl_X11_98 rfl (isM_o hM) (kf := 10) (v := vi (v 10)) rfl ?_
        rw [i10]
        refine M.ldc (x := 99999) kc_X11_101 rfl rfl ?_
        refine M.icmp_le (tgt := 116) rfl (qI (by omega)) (qI (by decide)) rfl (fun hle => ?_) (fun hle => ?_)
        · rw [if_neg (by omega)] at e10
          refine M.run 2 (pc' := 119) (lv' := [some (vr o), some (vi c)]) (st' := [vr o, vi 10, vr o]) rfl ?_
          refine M.get fl_X11_98 rfl (isM_o hM) (kf := 10) (v := vi (v 10)) rfl ?_
          rw [i10]
          refine M.run 1 (pc' := 123) (lv' := [some (vr o), some (vi c)]) (st' := [vi (10 * fgR (b 3) q n), vr o]) rfl ?_
          refine M.run 2 (pc' := 125) (lv' := [some (vr o), some (vi c)]) (st' := [vr o, vr o, vi (10 * fgR (b 3) q n), vr o]) rfl ?_
          refine M.get fl_X11_82 rfl (isM_o hM) (kf := 7) (v := vi (v 7)) rfl ?_
          rw [i7]
          refine M.callV (kX11_byteAt l G o am v a b t (q + n) (i4) ht (by omega)) cv_X11_85 cd_X11_byteAt rfl (st := [vi (10 * fgR (b 3) q n), vr o]) rfl (isM_o hM) (by decide) (by decide) rfl (Nat.zero_le _) (Nat.zero_le _) hM (fun r3 w3 q3 => ?_)
          rw [q3.1, q3.2]
          rw [hcv]
          refine M.run 3 (pc' := 135) (lv' := [some (vr o), some (vi c)]) (st' := [vi (10 * fgR (b 3) q n + b 3 (q + n) - 48), vr o]) rfl ?_
          rw [← e10]
          exact h135
        · rw [if_pos (by omega)] at e10
          refine M.run 1 (pc' := 110) (lv' := [some (vr o), some (vi c)]) (st' := [vr o, vr o]) rfl ?_
          refine M.get fl_X11_98 rfl (isM_o hM) (kf := 10) (v := vi (v 10)) rfl ?_
          rw [i10]
          refine M.run 1 (pc' := 135) (lv' := [some (vr o), some (vi c)]) (st' := [vi (fgR (b 3) q n), vr o]) rfl ?_
          rw [← e10]
          exact h135
  have K168 : q < t → isLt (b 3 q) → ∀ (d n : Nat) (v : Nat → Int) (wz : Wo) (c : Int), q + n + d = tkE (b 3) t q → isM o am v a b wz → v 4 = ((t : Nat) : Int) → v 8 = ((q : Nat) : Int) → v 9 = 2 → v 7 = ((q + n : Nat) : Int) → v 11 = pkW (b 3) q n → (∀ k : Nat, ¬ (7 ≤ k ∧ k ≤ 11) → v k = u k) → g 0 0 wz 168 [some (vr o), some (vi c)] [] := by
    intro hqt hl d
    have hE := tkE_b (b := b 3) hqt
    have hEd := tkE_l (b := b 3) (t := t) hqt hl
    have hEx : tkE (b 3) t q < t → ¬ isLt (b 3 (tkE (b 3) t q)) := by
      intro hx
      unfold tkE at hx ⊢
      rw [if_pos hl] at hx ⊢
      have y := tkR_e (f := tkF (b 3) 1) (t - (q + 1)) (q + 1) (by omega)
      have y2 := of_decide_eq_false y
      exact fun z => y2 (Or.inl ⟨rfl, z⟩)
    induction d with
    | zero =>
      intro n v wz c hd hM i4 i8 i9 i7 i11 hf
      have hwb := pkW_b (c := b 3) (s := q) n (lts_l (fun i hi => hEd i (by omega)))
      obtain ⟨W, hW⟩ : ∃ W : Nat, pkW (b 3) q n = ((W : Nat) : Int) := ⟨(pkW (b 3) q n).toNat, by omega⟩
      have i11b := i11.trans hW
      refine M.run 2 (pc' := 170) (lv' := [some (vr o), some (vi c)]) (st' := [vr o, vr o]) rfl ?_
      refine M.get fl_X11_82 rfl (isM_o hM) (kf := 7) (v := vi (v 7)) rfl ?_
      rw [i7]
      refine M.callV (kX11_byteAt l G o am v a b t (q + n) (i4) ht (by omega)) cv_X11_85 cd_X11_byteAt rfl (st := []) rfl (isM_o hM) (by decide) (by decide) rfl (Nat.zero_le _) (Nat.zero_le _) hM (fun r4 w4 q4 => ?_)
      rw [q4.1, q4.2]
      have hc := hby (q + n)
      refine M.callS (kX11_isLetterByte l G (byA (b 3) t (q + n)) (by omega)) cs_X11_102 cd_X11_isLetterByte rfl (st := []) rfl (by decide) (by decide) rfl (Nat.zero_le _) (Nat.zero_le _) trivial (fun r9 w9 q9 => ?_)
      rw [q9.1, q9.2]
      refine M.if_eq (tgt := 310) rfl (qI (by have := zb_01 (decide (isLt (byA (b 3) t (q + n)))); omega)) rfl (fun hz => ?_) (fun hz => ?_)
      · refine K310 v wz _ hM ⟨i4, i8, hn2, fun z => absurd z (by omega), fun _ => ⟨hn4 hqt, by rw [i7, ← hd]; rfl, fun _ => ⟨i9, ?_⟩, fun z => absurd hl z, fun z => absurd hl z⟩⟩ hf
        rw [i11, ← hd, show q + n + 0 - q = n by omega]
      · exfalso
        have z := zb_td hz
        by_cases y : q + n < t
        · rw [hc.1 y] at z
          rw [show q + n = tkE (b 3) t q by omega] at z y
          exact hEx y z
        · rw [hc.2.1 y] at z
          omega
    | succ d ih =>
      intro n v wz c hd hM i4 i8 i9 i7 i11 hf
      have hwb := pkW_b (c := b 3) (s := q) n (lts_l (fun i hi => hEd i (by omega)))
      obtain ⟨W, hW⟩ : ∃ W : Nat, pkW (b 3) q n = ((W : Nat) : Int) := ⟨(pkW (b 3) q n).toNat, by omega⟩
      have i11b := i11.trans hW
      refine M.run 2 (pc' := 170) (lv' := [some (vr o), some (vi c)]) (st' := [vr o, vr o]) rfl ?_
      refine M.get fl_X11_82 rfl (isM_o hM) (kf := 7) (v := vi (v 7)) rfl ?_
      rw [i7]
      refine M.callV (kX11_byteAt l G o am v a b t (q + n) (i4) ht (by omega)) cv_X11_85 cd_X11_byteAt rfl (st := []) rfl (isM_o hM) (by decide) (by decide) rfl (Nat.zero_le _) (Nat.zero_le _) hM (fun r5 w5 q5 => ?_)
      rw [q5.1, q5.2]
      have hc := hby (q + n)
      refine M.callS (kX11_isLetterByte l G (byA (b 3) t (q + n)) (by omega)) cs_X11_102 cd_X11_isLetterByte rfl (st := []) rfl (by decide) (by decide) rfl (Nat.zero_le _) (Nat.zero_le _) trivial (fun r9 w9 q9 => ?_)
      rw [q9.1, q9.2]
      refine M.if_eq (tgt := 310) rfl (qI (by have := zb_01 (decide (isLt (byA (b 3) t (q + n)))); omega)) rfl (fun hz => ?_) (fun hz => ?_)
      · exfalso
        have z := zb_fd hz
        rw [hc.1 (by omega)] at z
        exact z (hEd n (by omega))
      · have hdn := hEd n (by omega)
        have hcv := hc.1 (show q + n < t by omega)
        obtain ⟨cb, hcb⟩ : ∃ cb : Nat, b 3 (q + n) = ((cb : Nat) : Int) := ⟨(b 3 (q + n)).toNat, by omega⟩
        have h218 : g 0 0 wz 218 [some (vr o), some (vi c)] [vl (pkW (b 3) q (n + 1)), vr o] := by
          refine M.put fl_X11_105 rfl (isM_o hM) rfl rfl (Nat.le_of_ble_eq_true rfl) ?_
          have hMp3 := isM_setU (u' := uN v 11 ((pkW (b 3) q (n + 1)))) (fs := (Mf am v).set 11 (vl ((pkW (b 3) q (n + 1))))) hM rfl
          generalize up wz o (Ob 10 ((Mf am v).set 11 (vl ((pkW (b 3) q (n + 1)))))) = wp3 at hMp3 ⊢
          refine M.run 2 (pc' := 223) (lv' := [some (vr o), some (vi c)]) (st' := [vr o, vr o]) rfl ?_
          refine M.get fl_X11_82 rfl (isM_o hMp3) (kf := 7) (v := vi (((uN v 11 ((pkW (b 3) q (n + 1))))) 7)) rfl ?_
          rw [show ((uN v 11 ((pkW (b 3) q (n + 1))))) 7 = ((q + n : Nat) : Int) from i7]
          refine M.run 2 (pc' := 228) (lv' := [some (vr o), some (vi c)]) (st' := [vi ((q + n + 1 : Nat) : Int), vr o]) rfl ?_
          refine M.put fl_X11_82 rfl (isM_o hMp3) rfl rfl (Nat.le_of_ble_eq_true rfl) ?_
          have hMp4 := isM_setU (u' := uN ((uN v 11 ((pkW (b 3) q (n + 1))))) 7 (((q + n + 1 : Nat) : Int))) (fs := (Mf am ((uN v 11 ((pkW (b 3) q (n + 1)))))).set 7 (vi (((q + n + 1 : Nat) : Int)))) hMp3 rfl
          generalize up wp3 o (Ob 10 ((Mf am ((uN v 11 ((pkW (b 3) q (n + 1)))))).set 7 (vi (((q + n + 1 : Nat) : Int))))) = wp4 at hMp4 ⊢
          refine M.run 1 (pc' := 168) (lv' := [some (vr o), some (vi c)]) (st' := []) rfl ?_
          exact ih (n + 1) _ _ c (by omega) hMp4 i4 i8 i9 rfl rfl (fun k hk => (uN_o (by omega)).trans ((uN_o (by omega)).trans ((hf k hk))))
        have e11 : pkW (b 3) q (n + 1) = if ¬ pkW (b 3) q n / 281474976710656 = 0 then 1152921504606846976 else pkW (b 3) q n * 256 + b 3 (q + n) := rfl
        refine M.run 2 (pc' := 184) (lv' := [some (vr o), some (vi c)]) (st' := [vr o, vr o]) rfl ?_
        refine M.get fl_X11_105 rfl (isM_o hM) (kf := 11) (v := vl (v 11)) rfl ?_
        rw [i11b]
        refine M.run 1 (pc' := 189) (lv' := [some (vr o), some (vi c)]) (st' := [vi 48, vl ((W : Nat) : Int), vr o]) rfl ?_
        refine M.lshr48 (by omega) rfl ?_
        refine M.run 1 (pc' := 191) (lv' := [some (vr o), some (vi c)]) (st' := [vl 0, vl ((W / 281474976710656 : Nat) : Int), vr o]) rfl ?_
        refine M.lcmp rfl (qL (by omega)) (qL (by decide)) ?_
        refine M.if_eq (tgt := 201) rfl (qI (by split; decide; split <;> decide)) rfl (fun hle => ?_) (fun hle => ?_)
        · have hW0 : W / 281474976710656 = 0 := by
            split at hle
            · exact absurd hle (by decide)
            · split at hle
              · omega
              · exact absurd hle (by decide)
          rw [if_neg (by rw [hW]; omega)] at e11
          refine M.run 1 (pc' := 202) (lv' := [some (vr o), some (vi c)]) (st' := [vr o, vr o]) rfl ?_
          refine M.get fl_X11_105 rfl (isM_o hM) (kf := 11) (v := vl (v 11)) rfl ?_
          rw [i11b]
          refine M.run 1 (pc' := 207) (lv' := [some (vr o), some (vi c)]) (st' := [vi 8, vl ((W : Nat) : Int), vr o]) rfl ?_
          refine M.lshl8 (by omega) rfl ?_
          refine M.run 2 (pc' := 210) (lv' := [some (vr o), some (vi c)]) (st' := [vr o, vr o, vl ((W * 256 : Nat) : Int), vr o]) rfl ?_
          refine M.get fl_X11_82 rfl (isM_o hM) (kf := 7) (v := vi (v 7)) rfl ?_
          rw [i7]
          refine M.callV (kX11_byteAt l G o am v a b t (q + n) (i4) ht (by omega)) cv_X11_85 cd_X11_byteAt rfl (st := [vl ((W * 256 : Nat) : Int), vr o]) rfl (isM_o hM) (by decide) (by decide) rfl (Nat.zero_le _) (Nat.zero_le _) hM (fun r6 w6 q6 => ?_)
          rw [q6.1, q6.2]
          rw [hcv, hcb]
          refine M.i2l rfl (qI (by omega)) ?_
          refine M.lor8 (by omega) (by omega) rfl ?_
          rw [show ((W * 256 + cb : Nat) : Int) = pkW (b 3) q (n + 1) by rw [e11, hW, hcb]; omega]
          exact h218
        · have hW0 : ¬ W / 281474976710656 = 0 := by
            intro z
            rw [z] at hle
            exact hle rfl
          rw [if_pos (by rw [hW]; omega)] at e11
          refine M.ldc2 (x := 1152921504606846976) kl_X11_109 rfl rfl ?_
          refine M.run 1 (pc' := 218) (lv' := [some (vr o), some (vi c)]) (st' := [vl 1152921504606846976, vr o]) rfl ?_
          rw [← e11]
          exact h218
  have K39 : ∀ (v : Nat → Int) (wz : Wo), isM o am v a b wz → v 4 = ((t : Nat) : Int) → v 7 = ((q : Nat) : Int) → (∀ k : Nat, ¬ (7 ≤ k ∧ k ≤ 11) → v k = u k) → g 0 0 wz 39 [some (vr o), none] [] := by
    intro v wz hM i4 i7 hf
    have hc := hby q
    refine M.run 2 (pc' := 41) (lv' := [some (vr o), none]) (st' := [vr o, vr o]) rfl ?_
    refine M.get fl_X11_82 rfl (isM_o hM) (kf := 7) (v := vi (v 7)) rfl ?_
    rw [i7]
    refine M.put fl_X11_88 rfl (isM_o hM) rfl rfl (Nat.le_of_ble_eq_true rfl) ?_
    have hMp5 := isM_setU (u' := uN v 8 (((q : Nat) : Int))) (fs := (Mf am v).set 8 (vi (((q : Nat) : Int)))) hM rfl
    generalize up wz o (Ob 10 ((Mf am v).set 8 (vi (((q : Nat) : Int))))) = wp5 at hMp5 ⊢
    refine M.run 2 (pc' := 49) (lv' := [some (vr o), none]) (st' := [vr o, vr o]) rfl ?_
    refine M.get fl_X11_82 rfl (isM_o hMp5) (kf := 7) (v := vi (((uN v 8 (((q : Nat) : Int)))) 7)) rfl ?_
    rw [show ((uN v 8 (((q : Nat) : Int)))) 7 = ((q : Nat) : Int) from i7]
    refine M.callV (kX11_byteAt l G o am ((uN v 8 (((q : Nat) : Int)))) a b t (q) (i4) ht (by omega)) cv_X11_85 cd_X11_byteAt rfl (st := []) rfl (isM_o hMp5) (by decide) (by decide) rfl (Nat.zero_le _) (Nat.zero_le _) hMp5 (fun r7 w7 q7 => ?_)
    rw [q7.1, q7.2]
    generalize hcc : byA (b 3) t q = c at *
    refine M.run 2 (pc' := 57) (lv' := [some (vr o), some (vi c)]) (st' := [vi c]) rfl ?_
    refine M.if_ge (tgt := 68) rfl (qI (by omega)) rfl (fun hge => ?_) (fun hge => ?_)
    · have hqt : q < t := by
        by_cases y : q < t
        · exact y
        · have := hc.2.1 y; omega
      have hcv := hc.1 hqt
      refine M.run 1 (pc' := 69) (lv' := [some (vr o), some (vi c)]) (st' := [vi c]) rfl ?_
      refine M.callS (kX11_isFigure l G c (by omega)) cs_X11_94 cd_X11_isFigure rfl (st := []) rfl (by decide) (by decide) rfl (Nat.zero_le _) (Nat.zero_le _) trivial (fun r5 w5 q5 => ?_)
      rw [q5.1, q5.2]
      refine M.if_eq (tgt := 151) rfl (qI (by have := zb_01 (decide (isDg c)); omega)) rfl (fun hz => ?_) (fun hz => ?_)
      · have hnd := zb_fd hz
        refine M.run 1 (pc' := 152) (lv' := [some (vr o), some (vi c)]) (st' := [vi c]) rfl ?_
        refine M.callS (kX11_isLetterByte l G c (by omega)) cs_X11_102 cd_X11_isLetterByte rfl (st := []) rfl (by decide) (by decide) rfl (Nat.zero_le _) (Nat.zero_le _) trivial (fun r6 w6 q6 => ?_)
        rw [q6.1, q6.2]
        refine M.if_eq (tgt := 234) rfl (qI (by have := zb_01 (decide (isLt c)); omega)) rfl (fun hz2 => ?_) (fun hz2 => ?_)
        · have hnl := zb_fd hz2
          rw [hcv] at hnd hnl
          have hse := tkE_s (t := t) hnl hnd
          have hEq : tkE (b 3) t q = if (b 3 q = 60 ∨ b 3 q = 62) ∧ q + 1 < t ∧ b 3 (q + 1) = 61 then q + 2 else q + 1 := by
            unfold tkE
            rw [if_neg hnl, if_neg hnd]
          have h247 : ∀ s : Int, s = (if isSg c then c else 3) → g 0 0 wp5 247 [some (vr o), some (vi c)] [vi s, vr o] := by
            intro s hs
            refine M.put fl_X11_91 rfl (isM_o hMp5) rfl rfl (Nat.le_of_ble_eq_true rfl) ?_
            have hMp6 := isM_setU (u' := uN ((uN v 8 (((q : Nat) : Int)))) 9 s) (fs := (Mf am ((uN v 8 (((q : Nat) : Int))))).set 9 (vi s)) hMp5 rfl
            generalize up wp5 o (Ob 10 ((Mf am ((uN v 8 (((q : Nat) : Int))))).set 9 (vi s))) = wp6 at hMp6 ⊢
            refine M.run 2 (pc' := 252) (lv' := [some (vr o), some (vi c)]) (st' := [vr o, vr o]) rfl ?_
            refine M.get fl_X11_82 rfl (isM_o hMp6) (kf := 7) (v := vi (((uN ((uN v 8 (((q : Nat) : Int)))) 9 s)) 7)) rfl ?_
            rw [show ((uN ((uN v 8 (((q : Nat) : Int)))) 9 s)) 7 = ((q : Nat) : Int) from i7]
            refine M.run 2 (pc' := 257) (lv' := [some (vr o), some (vi c)]) (st' := [vi ((q + 1 : Nat) : Int), vr o]) rfl ?_
            refine M.put fl_X11_82 rfl (isM_o hMp6) rfl rfl (Nat.le_of_ble_eq_true rfl) ?_
            have hMp7 := isM_setU (u' := uN ((uN ((uN v 8 (((q : Nat) : Int)))) 9 s)) 7 (((q + 1 : Nat) : Int))) (fs := (Mf am ((uN ((uN v 8 (((q : Nat) : Int)))) 9 s))).set 7 (vi (((q + 1 : Nat) : Int)))) hMp6 rfl
            generalize up wp6 o (Ob 10 ((Mf am ((uN ((uN v 8 (((q : Nat) : Int)))) 9 s))).set 7 (vi (((q + 1 : Nat) : Int))))) = wp7 at hMp7 ⊢
            refine M.run 2 (pc' := 263) (lv' := [some (vr o), some (vi c)]) (st' := [vi 60, vi c]) rfl ?_
            have hE1 : ¬ ((b 3 q = 60 ∨ b 3 q = 62) ∧ q + 1 < t ∧ b 3 (q + 1) = 61) → g 0 0 wp7 310 [some (vr o), some (vi c)] [] := by
              intro hne
              rw [if_neg hne] at hEq
              refine K310 _ _ _ hMp7 ⟨i4, rfl, hn2, fun z => absurd z (by omega), fun _ => ⟨hn4 hqt, by rw [hEq]; rfl, fun z => absurd z hnl, fun _ z => absurd z hnd, fun _ _ => ?_⟩⟩ (fun k hk => (uN_o (by omega)).trans ((uN_o (by omega)).trans ((uN_o (by omega)).trans ((hf k hk)))))
              show s = sgR (b 3 q) (tkE (b 3) t q - q)
              rw [hEq, show q + 1 - q = 1 by omega, hs, hcv]
              exact (if_neg (by decide)).symm
            have h272 : (b 3 q = 60 ∨ b 3 q = 62) → g 0 0 wp7 272 [some (vr o), some (vi c)] [] := by
              intro h60
              refine M.run 2 (pc' := 274) (lv' := [some (vr o), some (vi c)]) (st' := [vr o, vr o]) rfl ?_
              refine M.get fl_X11_82 rfl (isM_o hMp7) (kf := 7) (v := vi (((uN ((uN ((uN v 8 (((q : Nat) : Int)))) 9 s)) 7 (((q + 1 : Nat) : Int)))) 7)) rfl ?_
              rw [show ((uN ((uN ((uN v 8 (((q : Nat) : Int)))) 9 s)) 7 (((q + 1 : Nat) : Int)))) 7 = ((q + 1 : Nat) : Int) from rfl]
              refine M.callV (kX11_byteAt l G o am ((uN ((uN ((uN v 8 (((q : Nat) : Int)))) 9 s)) 7 (((q + 1 : Nat) : Int)))) a b t (q + 1) (i4) ht (by omega)) cv_X11_85 cd_X11_byteAt rfl (st := []) rfl (isM_o hMp7) (by decide) (by decide) rfl (Nat.zero_le _) (Nat.zero_le _) hMp7 (fun r8 w8 q8 => ?_)
              rw [q8.1, q8.2]
              have hc1 := hby (q + 1)
              refine M.run 1 (pc' := 282) (lv' := [some (vr o), some (vi c)]) (st' := [vi 61, vi (byA (b 3) t (q + 1))]) rfl ?_
              refine M.icmp_ne (tgt := 310) rfl (qI (by omega)) (qI (by decide)) rfl (fun h61 => ?_) (fun h61 => ?_)
              · refine hE1 (fun z => h61 ?_)
                rw [hc1.1 z.2.1]
                exact z.2.2
              · have hq1 : q + 1 < t := by
                  by_cases y : q + 1 < t
                  · exact y
                  · have := hc1.2.1 y; omega
                have hv1 := (hc1.1 hq1).symm.trans h61
                rw [if_pos ⟨h60, hq1, hv1⟩] at hEq
                have h297 : ∀ s2 : Int, s2 = (if b 3 q = 60 then 4 else 5) → g 0 0 wp7 297 [some (vr o), some (vi c)] [vi s2, vr o] := by
                  intro s2 hs2
                  refine M.put fl_X11_91 rfl (isM_o hMp7) rfl rfl (Nat.le_of_ble_eq_true rfl) ?_
                  have hMp8 := isM_setU (u' := uN ((uN ((uN ((uN v 8 (((q : Nat) : Int)))) 9 s)) 7 (((q + 1 : Nat) : Int)))) 9 s2) (fs := (Mf am ((uN ((uN ((uN v 8 (((q : Nat) : Int)))) 9 s)) 7 (((q + 1 : Nat) : Int))))).set 9 (vi s2)) hMp7 rfl
                  generalize up wp7 o (Ob 10 ((Mf am ((uN ((uN ((uN v 8 (((q : Nat) : Int)))) 9 s)) 7 (((q + 1 : Nat) : Int))))).set 9 (vi s2))) = wp8 at hMp8 ⊢
                  refine M.run 2 (pc' := 302) (lv' := [some (vr o), some (vi c)]) (st' := [vr o, vr o]) rfl ?_
                  refine M.get fl_X11_82 rfl (isM_o hMp8) (kf := 7) (v := vi (((uN ((uN ((uN ((uN v 8 (((q : Nat) : Int)))) 9 s)) 7 (((q + 1 : Nat) : Int)))) 9 s2)) 7)) rfl ?_
                  rw [show ((uN ((uN ((uN ((uN v 8 (((q : Nat) : Int)))) 9 s)) 7 (((q + 1 : Nat) : Int)))) 9 s2)) 7 = ((q + 1 : Nat) : Int) from rfl]
                  refine M.run 2 (pc' := 307) (lv' := [some (vr o), some (vi c)]) (st' := [vi ((q + 1 + 1 : Nat) : Int), vr o]) rfl ?_
                  refine M.put fl_X11_82 rfl (isM_o hMp8) rfl rfl (Nat.le_of_ble_eq_true rfl) ?_
                  have hMp9 := isM_setU (u' := uN ((uN ((uN ((uN ((uN v 8 (((q : Nat) : Int)))) 9 s)) 7 (((q + 1 : Nat) : Int)))) 9 s2)) 7 (((q + 1 + 1 : Nat) : Int))) (fs := (Mf am ((uN ((uN ((uN ((uN v 8 (((q : Nat) : Int)))) 9 s)) 7 (((q + 1 : Nat) : Int)))) 9 s2))).set 7 (vi (((q + 1 + 1 : Nat) : Int)))) hMp8 rfl
                  generalize up wp8 o (Ob 10 ((Mf am ((uN ((uN ((uN ((uN v 8 (((q : Nat) : Int)))) 9 s)) 7 (((q + 1 : Nat) : Int)))) 9 s2))).set 7 (vi (((q + 1 + 1 : Nat) : Int))))) = wp9 at hMp9 ⊢
                  refine K310 _ _ _ hMp9 ⟨i4, rfl, hn2, fun z => absurd z (by omega), fun _ => ⟨hn4 hqt, by rw [hEq]; rfl, fun z => absurd z hnl, fun _ z => absurd z hnd, fun _ _ => ?_⟩⟩ (fun k hk => (uN_o (by omega)).trans ((uN_o (by omega)).trans ((uN_o (by omega)).trans ((uN_o (by omega)).trans ((uN_o (by omega)).trans ((hf k hk)))))))
                  show s2 = sgR (b 3 q) (tkE (b 3) t q - q)
                  rw [hEq, show q + 2 - q = 2 by omega, hs2]
                  rfl
                refine M.run 3 (pc' := 289) (lv' := [some (vr o), some (vi c)]) (st' := [vi 60, vi c, vr o]) rfl ?_
                refine M.icmp_ne (tgt := 296) rfl (qI (by omega)) (qI (by decide)) rfl (fun hx => ?_) (fun hx => ?_)
                · skip
                  refine M.run 1 (pc' := 297) (lv' := [some (vr o), some (vi c)]) (st' := [vi 5, vr o]) rfl ?_
                  exact h297 5 (if_neg (by omega)).symm
                · skip
                  refine M.run 2 (pc' := 297) (lv' := [some (vr o), some (vi c)]) (st' := [vi 4, vr o]) rfl ?_
                  exact h297 4 (if_pos (by omega)).symm
            refine M.icmp_eq (tgt := 272) rfl (qI (by omega)) (qI (by decide)) rfl (fun hx => h272 (Or.inl (by omega))) (fun hx => ?_)
            refine M.run 2 (pc' := 269) (lv' := [some (vr o), some (vi c)]) (st' := [vi 62, vi c]) rfl ?_
            exact M.icmp_ne (tgt := 310) rfl (qI (by omega)) (qI (by decide)) rfl (fun hy => hE1 (fun z => by omega)) (fun hy => h272 (Or.inr (by omega)))
          refine M.run 2 (pc' := 236) (lv' := [some (vr o), some (vi c)]) (st' := [vi c, vr o]) rfl ?_
          refine M.callS (kX11_isSign l G c (by omega)) cs_X11_111 cd_X11_isSign rfl (st := [vr o]) rfl (by decide) (by decide) rfl (Nat.zero_le _) (Nat.zero_le _) trivial (fun r7 w7 q7 => ?_)
          rw [q7.1, q7.2]
          refine M.if_eq (tgt := 246) rfl (qI (by have := zb_01 (decide (isSg c)); omega)) rfl (fun hx => ?_) (fun hx => ?_)
          · skip
            refine M.run 1 (pc' := 247) (lv' := [some (vr o), some (vi c)]) (st' := [vi 3, vr o]) rfl ?_
            exact h247 3 (if_neg (zb_fd hx)).symm
          · skip
            refine M.run 2 (pc' := 247) (lv' := [some (vr o), some (vi c)]) (st' := [vi c, vr o]) rfl ?_
            exact h247 c (if_pos (zb_td hx)).symm
        · have hll := zb_td hz2
          rw [hcv] at hll
          refine M.run 2 (pc' := 160) (lv' := [some (vr o), some (vi c)]) (st' := [vi 2, vr o]) rfl ?_
          refine M.put fl_X11_91 rfl (isM_o hMp5) rfl rfl (Nat.le_of_ble_eq_true rfl) ?_
          have hMp10 := isM_setU (u' := uN ((uN v 8 (((q : Nat) : Int)))) 9 2) (fs := (Mf am ((uN v 8 (((q : Nat) : Int))))).set 9 (vi 2)) hMp5 rfl
          generalize up wp5 o (Ob 10 ((Mf am ((uN v 8 (((q : Nat) : Int))))).set 9 (vi 2))) = wp10 at hMp10 ⊢
          refine M.run 2 (pc' := 165) (lv' := [some (vr o), some (vi c)]) (st' := [vl 0, vr o]) rfl ?_
          refine M.put fl_X11_105 rfl (isM_o hMp10) rfl rfl (Nat.le_of_ble_eq_true rfl) ?_
          have hMp11 := isM_setU (u' := uN ((uN ((uN v 8 (((q : Nat) : Int)))) 9 2)) 11 0) (fs := (Mf am ((uN ((uN v 8 (((q : Nat) : Int)))) 9 2))).set 11 (vl 0)) hMp10 rfl
          generalize up wp10 o (Ob 10 ((Mf am ((uN ((uN v 8 (((q : Nat) : Int)))) 9 2))).set 11 (vl 0))) = wp11 at hMp11 ⊢
          exact K168 hqt hll (tkE (b 3) t q - q) 0 _ _ c (by have := tkE_b (b := b 3) hqt; omega) hMp11 i4 rfl rfl i7 rfl (fun k hk => (uN_o (by omega)).trans ((uN_o (by omega)).trans ((uN_o (by omega)).trans ((hf k hk)))))
      · have hdd := zb_td hz
        rw [hcv] at hdd
        refine M.run 2 (pc' := 77) (lv' := [some (vr o), some (vi c)]) (st' := [vi 1, vr o]) rfl ?_
        refine M.put fl_X11_91 rfl (isM_o hMp5) rfl rfl (Nat.le_of_ble_eq_true rfl) ?_
        have hMp12 := isM_setU (u' := uN ((uN v 8 (((q : Nat) : Int)))) 9 1) (fs := (Mf am ((uN v 8 (((q : Nat) : Int))))).set 9 (vi 1)) hMp5 rfl
        generalize up wp5 o (Ob 10 ((Mf am ((uN v 8 (((q : Nat) : Int))))).set 9 (vi 1))) = wp12 at hMp12 ⊢
        refine M.run 2 (pc' := 82) (lv' := [some (vr o), some (vi c)]) (st' := [vi 0, vr o]) rfl ?_
        refine M.put fl_X11_98 rfl (isM_o hMp12) rfl rfl (Nat.le_of_ble_eq_true rfl) ?_
        have hMp13 := isM_setU (u' := uN ((uN ((uN v 8 (((q : Nat) : Int)))) 9 1)) 10 0) (fs := (Mf am ((uN ((uN v 8 (((q : Nat) : Int)))) 9 1))).set 10 (vi 0)) hMp12 rfl
        generalize up wp12 o (Ob 10 ((Mf am ((uN ((uN v 8 (((q : Nat) : Int)))) 9 1))).set 10 (vi 0))) = wp13 at hMp13 ⊢
        exact K85 hqt (fun z => by omega) hdd (tkE (b 3) t q - q) 0 _ _ c (by have := tkE_b (b := b 3) hqt; omega) hMp13 i4 rfl rfl i7 rfl (fun k hk => (uN_o (by omega)).trans ((uN_o (by omega)).trans ((uN_o (by omega)).trans ((hf k hk)))))
    · have hqt : q = t := by
        by_cases y : q < t
        · have := hc.1 y; have := hb q (by omega); omega
        · omega
      refine M.run 2 (pc' := 62) (lv' := [some (vr o), some (vi c)]) (st' := [vi 0, vr o]) rfl ?_
      refine M.put fl_X11_91 rfl (isM_o hMp5) rfl rfl (Nat.le_of_ble_eq_true rfl) ?_
      have hMp14 := isM_setU (u' := uN ((uN v 8 (((q : Nat) : Int)))) 9 0) (fs := (Mf am ((uN v 8 (((q : Nat) : Int))))).set 9 (vi 0)) hMp5 rfl
      generalize up wp5 o (Ob 10 ((Mf am ((uN v 8 (((q : Nat) : Int))))).set 9 (vi 0))) = wp14 at hMp14 ⊢
      refine M.run 1 (pc' := 310) (lv' := [some (vr o), some (vi c)]) (st' := []) rfl ?_
      exact K310 _ _ _ hMp14 ⟨i4, rfl, hn2, fun _ => ⟨rfl, by rw [← hqt]; exact i7⟩, fun z => absurd z (by omega)⟩ (fun k hk => (uN_o (by omega)).trans ((uN_o (by omega)).trans ((hf k hk))))
  have K0 : ∀ (d p : Nat) (v : Nat → Int) (wz : Wo), p + d = q → isM o am v a b wz → v 4 = ((t : Nat) : Int) → v 7 = ((p : Nat) : Int) → (∀ i : Nat, p ≤ i → i < q → isBl (b 3 i)) → (∀ k : Nat, ¬ (7 ≤ k ∧ k ≤ 11) → v k = u k) → g 0 0 wz 0 [some (vr o), none] [] := by
    intro d
    induction d with
    | zero =>
      intro p v wz hd hM i4 i7 hbl hf
      have hc := hby p
      have hpq : p = q := hd
      have hS : ¬ (byA (b 3) t p = 32 ∨ byA (b 3) t p = 10) := by
        by_cases y : p < t
        · rw [hc.1 y]
          have := hn4 (by omega)
          rw [hpq]
          exact this
        · have := hc.2.1 y
          omega
      have h26 : (byA (b 3) t p = 32 ∨ byA (b 3) t p = 10) → g 0 0 wz 26 [some (vr o), none] [] := fun z => absurd z hS
      have h39 : ¬ (byA (b 3) t p = 32 ∨ byA (b 3) t p = 10) → g 0 0 wz 39 [some (vr o), none] [] := fun _ => K39 v wz hM i4 (by rw [i7, hpq]) hf
      refine M.run 2 (pc' := 2) (lv' := [some (vr o), none]) (st' := [vr o, vr o]) rfl ?_
      refine M.get fl_X11_82 rfl (isM_o hM) (kf := 7) (v := vi (v 7)) rfl ?_
      rw [i7]
      refine M.callV (kX11_byteAt l G o am v a b t (p) (i4) ht (by omega)) cv_X11_85 cd_X11_byteAt rfl (st := []) rfl (isM_o hM) (by decide) (by decide) rfl (Nat.zero_le _) (Nat.zero_le _) hM (fun r9 w9 q9 => ?_)
      rw [q9.1, q9.2]
      refine M.run 1 (pc' := 10) (lv' := [some (vr o), none]) (st' := [vi 32, vi (byA (b 3) t p)]) rfl ?_
      refine M.icmp_eq (tgt := 26) rfl (qI (by omega)) (qI (by decide)) rfl (fun z => h26 (Or.inl z)) (fun z1 => ?_)
      refine M.run 2 (pc' := 15) (lv' := [some (vr o), none]) (st' := [vr o, vr o]) rfl ?_
      refine M.get fl_X11_82 rfl (isM_o hM) (kf := 7) (v := vi (v 7)) rfl ?_
      rw [i7]
      refine M.callV (kX11_byteAt l G o am v a b t (p) (i4) ht (by omega)) cv_X11_85 cd_X11_byteAt rfl (st := []) rfl (isM_o hM) (by decide) (by decide) rfl (Nat.zero_le _) (Nat.zero_le _) hM (fun r10 w10 q10 => ?_)
      rw [q10.1, q10.2]
      refine M.run 1 (pc' := 23) (lv' := [some (vr o), none]) (st' := [vi 10, vi (byA (b 3) t p)]) rfl ?_
      exact M.icmp_ne (tgt := 39) rfl (qI (by omega)) (qI (by decide)) rfl (fun z => h39 (fun y => y.elim z1 z)) (fun z => h26 (Or.inr z))
    | succ d ih =>
      intro p v wz hd hM i4 i7 hbl hf
      have hc := hby p
      have hS : byA (b 3) t p = 32 ∨ byA (b 3) t p = 10 := by
        rw [hc.1 (by omega)]
        exact hbl p (Nat.le_refl _) (by omega)
      have h39 : ¬ (byA (b 3) t p = 32 ∨ byA (b 3) t p = 10) → g 0 0 wz 39 [some (vr o), none] [] := fun z => absurd hS z
      have h26 : (byA (b 3) t p = 32 ∨ byA (b 3) t p = 10) → g 0 0 wz 26 [some (vr o), none] [] := by
        intro _
        refine M.run 2 (pc' := 28) (lv' := [some (vr o), none]) (st' := [vr o, vr o]) rfl ?_
        refine M.get fl_X11_82 rfl (isM_o hM) (kf := 7) (v := vi (v 7)) rfl ?_
        rw [i7]
        refine M.run 2 (pc' := 33) (lv' := [some (vr o), none]) (st' := [vi ((p + 1 : Nat) : Int), vr o]) rfl ?_
        refine M.put fl_X11_82 rfl (isM_o hM) rfl rfl (Nat.le_of_ble_eq_true rfl) ?_
        have hMp15 := isM_setU (u' := uN v 7 (((p + 1 : Nat) : Int))) (fs := (Mf am v).set 7 (vi (((p + 1 : Nat) : Int)))) hM rfl
        generalize up wz o (Ob 10 ((Mf am v).set 7 (vi (((p + 1 : Nat) : Int))))) = wp15 at hMp15 ⊢
        refine M.run 1 (pc' := 0) (lv' := [some (vr o), none]) (st' := []) rfl ?_
        exact ih (p + 1) _ _ (by omega) hMp15 i4 rfl (fun i h1 h2 => hbl i (by omega) h2) (fun k hk => (uN_o (by omega)).trans ((hf k hk)))
      refine M.run 2 (pc' := 2) (lv' := [some (vr o), none]) (st' := [vr o, vr o]) rfl ?_
      refine M.get fl_X11_82 rfl (isM_o hM) (kf := 7) (v := vi (v 7)) rfl ?_
      rw [i7]
      refine M.callV (kX11_byteAt l G o am v a b t (p) (i4) ht (by omega)) cv_X11_85 cd_X11_byteAt rfl (st := []) rfl (isM_o hM) (by decide) (by decide) rfl (Nat.zero_le _) (Nat.zero_le _) hM (fun r11 w11 q11 => ?_)
      rw [q11.1, q11.2]
      refine M.run 1 (pc' := 10) (lv' := [some (vr o), none]) (st' := [vi 32, vi (byA (b 3) t p)]) rfl ?_
      refine M.icmp_eq (tgt := 26) rfl (qI (by omega)) (qI (by decide)) rfl (fun z => h26 (Or.inl z)) (fun z1 => ?_)
      refine M.run 2 (pc' := 15) (lv' := [some (vr o), none]) (st' := [vr o, vr o]) rfl ?_
      refine M.get fl_X11_82 rfl (isM_o hM) (kf := 7) (v := vi (v 7)) rfl ?_
      rw [i7]
      refine M.callV (kX11_byteAt l G o am v a b t (p) (i4) ht (by omega)) cv_X11_85 cd_X11_byteAt rfl (st := []) rfl (isM_o hM) (by decide) (by decide) rfl (Nat.zero_le _) (Nat.zero_le _) hM (fun r12 w12 q12 => ?_)
      rw [q12.1, q12.2]
      refine M.run 1 (pc' := 23) (lv' := [some (vr o), none]) (st' := [vi 10, vi (byA (b 3) t p)]) rfl ?_
      exact M.icmp_ne (tgt := 39) rfl (qI (by omega)) (qI (by decide)) rfl (fun z => h39 (fun y => y.elim z1 z)) (fun z => h26 (Or.inr z))
  exact K0 (q - p0) p0 u w (by omega) hM h4 h7 hn3 (fun k _ => rfl)
