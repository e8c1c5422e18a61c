/-! the reference's reader: behind one, and all of a sum -/
set_option maxHeartbeats 4000000 in
set_option maxRecDepth 100000 in
theorem kX11_behindOne (l : Launch) (G : GT) (o : Nat) (am : Nat → Nat) (u a : Nat → Int) (b : Nat → Nat → Int) (t c0 : Nat) (P : List Int) (op : Int) (C : List (Int × Int)) (j : Nat) (ly : Int) (hly : ly = 0 ∨ ly = 1) (h14 : u 14 = ly) (hR : rS t c0 P op true C j u b) (hok : okM (P, op, true, C, j)) (hj : j ≤ 301) (hc0 : c0 ≤ 2043) (hb : ∀ k : Nat, k < 300 → 0 ≤ b 3 k ∧ b 3 k < 256) (ht : t ≤ 300) : Ctr l G yX11_behindOne cX11_behindOne 4 ((Option.some Jvm.ClassFile.FieldType.boolean)) 6 0 0 [vr o] (fun w => isM o am u a b w) (fun w r w' => QH o am u a b t c0 j P op C w r w' (behM (tkL (b 3) t) P op C j)) := by
  refine Ctr.of (t := tX11_behindOne) (lv0 := [some (vr o), none, none, none]) (by decide +kernel) tX11_behindOne_ok rfl rfl (fun w g hM M => ?_)
  obtain ⟨i12, iT, i16, iP, iv, i17, i18, i13, iC⟩ := id hR
  have hpl : P.length ≤ 62 ∧ 0 ≤ op := okM_pile hok
  have hop8 : op ≤ 8 := hok.2.1
  have hcp : C.length + P.length ≤ j := hok.2.2
  have hwf : wfP P op := hok.1
  have hQ : ∀ (r : Option AV) (w2 : Wo) (X : MS ⊕ MR), behM (tkL (b 3) t) P op C j = X → QH o am u a b t c0 j P op C w r w2 X → QH o am u a b t c0 j P op C w r w2 (behM (tkL (b 3) t) P op C j) := fun r w2 X h1 h2 => by rw [h1]; exact h2
  refine M.run 1 (pc' := 1) (lv' := [some (vr o), none, none, none]) (st' := [vr o]) rfl ?_
  refine M.callV (kX11_betweenOf l G o am u a b t j iT P i16 iP (by omega) iv) cv_X11_199 cd_X11_betweenOf rfl (st := []) rfl (isM_o hM) (by decide) (by decide) rfl (Nat.zero_le _) (Nat.zero_le _) hM (fun rb wb qb => ?_)
  rw [qb.1, qb.2]
  have hbb := betM_b P (gTk (tkL (b 3) t) j).1
  have hb51 := betM_51 P
  have hp51 := prtM_51 P
  have hpb := prtM_b P (gTk (tkL (b 3) t) j).1
  generalize hbt : betM P (gTk (tkL (b 3) t) j).1 = bt at *
  refine M.run 2 (pc' := 6) (lv' := [some (vr o), some (vi bt), none, none]) (st' := [vi bt]) rfl ?_
  refine M.if_lt (tgt := 60) rfl (qI (by omega)) rfl (fun hlt => ?_) (fun hge => ?_)
  rotate_left
  · have h51 : ¬ (gTk (tkL (b 3) t) j).1 = 51 := fun z => by rw [z, hb51] at hbt; omega
    have hrk := rkO_b bt
    have hr1 : 1 ≤ rkO bt ∧ rkO bt ≤ 6 ∧ bt ≤ 22 := by
      rcases (show bt = 6 ∨ bt = 7 ∨ bt = 8 ∨ bt = 9 ∨ bt = 10 ∨ bt = 11 ∨ bt = 12 ∨ bt = 13 ∨ bt = 14 ∨ bt = 15 ∨ bt = 21 ∨ bt = 22 by omega) with e | e | e | e | e | e | e | e | e | e | e | e
      all_goals (rw [e]; decide)
    have A26 : ∀ lx : Int, lx = (if rkO bt = 4 then 5 else rkO bt) → g 0 0 w 26 [some (vr o), some (vi bt), none, none] [vi lx, vr o] := by
      intro lx hlx
      have hlx2 : 1 ≤ lx ∧ lx ≤ 7 := by rw [hlx]; split <;> omega
      have hbeh : behM (tkL (b 3) t) P op C j = .inl (btwS bt (sTL lx P op C) j) := by unfold behM; rw [hbt, if_pos (by omega), ← hlx]
      have hok2 := okM_beh hok hbeh
      have hpl2 := (okM_pile hok2).1
      refine M.callV (kX11_settle l G o am u a b t c0 P op true C j hR hc0 (by omega) (by omega) lx (by omega)) cv_X11_176 cd_X11_settle rfl (st := []) rfl (isM_o hM) (by decide) (by decide) rfl (Nat.zero_le _) (Nat.zero_le _) hM (fun rs ws qs => ?_)
      obtain ⟨qs1, v, e, hM2, hR2, hF2⟩ := qs
      rw [qs1]
      obtain ⟨j12, jT, j16, jP, jv, j17, j18, j13, jC⟩ := id hR2
      have e3 : e 3 = b 3 := hF2.2.1 3 (by decide) (by decide)
      generalize sTL lx P op C = T at *
      have hpl3 : T.1.length + 1 ≤ 62 := by have z : (bt :: T.1).length ≤ 62 := hpl2; rw [List.length_cons] at z; exact z
      refine M.run 1 (pc' := 30) (lv' := [some (vr o), some (vi bt), none, none]) (st' := [vr o]) rfl ?_
      refine M.get fl_X11_29 rfl (isM_o hM2) (kf := 15) (v := vr (am 15)) rfl ?_
      refine M.run 1 (pc' := 34) (lv' := [some (vr o), some (vi bt), none, none]) (st' := [vr o, vr (am 15)]) rfl ?_
      refine M.get fl_X11_143 rfl (isM_o hM2) (kf := 16) (v := vi (v 16)) rfl ?_
      rw [show v 16 = ((T.1.length : Nat) : Int) from j16]
      refine M.run 1 (pc' := 38) (lv' := [some (vr o), some (vi bt), none, none]) (st' := [vi bt, vi ((T.1.length : Nat) : Int), vr (am 15)]) rfl ?_
      refine M.iastN (T.1.length) rfl (isM_15 hM2) (by omega) (by decide) ?_
      have hMp1 := isM_setB (k := 15) (t := 0) (n := 160) hM2 (by decide) (uN (e 15) T.1.length bt)
      generalize up ws (am 15) (Ar 0 160 (uN (e 15) T.1.length bt)) = wp1 at hMp1 ⊢
      refine M.run 2 (pc' := 41) (lv' := [some (vr o), some (vi bt), none, none]) (st' := [vr o, vr o]) rfl ?_
      refine M.get fl_X11_143 rfl (isM_o hMp1) (kf := 16) (v := vi (v 16)) rfl ?_
      rw [show v 16 = ((T.1.length : Nat) : Int) from j16]
      refine M.run 2 (pc' := 46) (lv' := [some (vr o), some (vi bt), none, none]) (st' := [vi ((T.1.length + 1 : Nat) : Int), vr o]) rfl ?_
      refine M.put fl_X11_143 rfl (isM_o hMp1) rfl rfl (Nat.le_of_ble_eq_true rfl) ?_
      have hMp2 := isM_setU (u' := uN v 16 (((T.1.length + 1 : Nat) : Int))) (fs := (Mf am v).set 16 (vi (((T.1.length + 1 : Nat) : Int)))) hMp1 rfl
      generalize up wp1 o (Ob 10 ((Mf am v).set 16 (vi (((T.1.length + 1 : Nat) : Int))))) = wp2 at hMp2 ⊢
      refine M.run 2 (pc' := 51) (lv' := [some (vr o), some (vi bt), none, none]) (st' := [vi 0, vr o]) rfl ?_
      refine M.put fl_X11_172 rfl (isM_o hMp2) rfl rfl (Nat.le_of_ble_eq_true rfl) ?_
      have hMp3 := isM_setU (u' := uN ((uN v 16 (((T.1.length + 1 : Nat) : Int)))) 18 0) (fs := (Mf am ((uN v 16 (((T.1.length + 1 : Nat) : Int))))).set 18 (vi 0)) hMp2 rfl
      generalize up wp2 o (Ob 10 ((Mf am ((uN v 16 (((T.1.length + 1 : Nat) : Int))))).set 18 (vi 0))) = wp3 at hMp3 ⊢
      refine M.run 1 (pc' := 55) (lv' := [some (vr o), some (vi bt), none, none]) (st' := [vr o]) rfl ?_
      have hTe : isTk ((uB e 15 (uN (e 15) T.1.length bt)) 3) t j (uN ((uN v 16 (((T.1.length + 1 : Nat) : Int)))) 18 0) := isTk_u jT (fun k hk => (uN_o (by omega)).trans (uN_o (by omega)))
      refine M.callV (kX11_nextT l G o am ((uN ((uN v 16 (((T.1.length + 1 : Nat) : Int)))) 18 0)) a ((uB e 15 (uN (e 15) T.1.length bt))) t j (by show ∀ k : Nat, k < 300 → 0 ≤ e 3 k ∧ e 3 k < 256; rw [e3]; exact hb) ht hTe (by show ¬ (gTk (tkL (e 3) t) j).1 = 51; rw [e3]; exact h51)) cv_X11_163 cd_X11_nextToken rfl (st := []) rfl (isM_o hMp3) (by decide) (by decide) rfl (Nat.zero_le _) (Nat.zero_le _) hMp3 (fun rn wn qn => ?_)
      obtain ⟨qn1, v2, hM3, hT2, hk⟩ := qn
      rw [qn1]
      refine M.run 1 (pc' := 59) (lv' := [some (vr o), some (vi bt), none, none]) (st' := [vi 1]) rfl ?_
      refine M.zret rfl (Or.inr rfl) (Nat.zero_le _) (Nat.zero_le _) (hQ _ _ _ hbeh ⟨rfl, v2, _, hM3, ⟨(hk 12 (by decide)).trans j12, hT2, (hk 16 (by decide)).trans (by show _ = (((bt :: T.1).length : Nat) : Int); rw [List.length_cons]; rfl), ⟨uN_s _ _ _, rPl_e T.1 jP (fun i hi => uN_o (by have hi2 : i < T.1.length := hi; omega))⟩, fun y hy => ?_, (hk 17 (by decide)).trans j17, (hk 18 (by decide)).trans rfl, (hk 13 (by decide)).trans j13, jC⟩, rF_k (rF_u (k := 18) (rF_u (k := 16) (rF_b hF2) (by decide)) (by decide)) hk⟩)
      rcases List.mem_cons.mp hy with y1 | y1
      · rw [y1]; omega
      · exact jv y y1
    refine M.run 2 (pc' := 11) (lv' := [some (vr o), some (vi bt), none, none]) (st' := [vi bt, vr o]) rfl ?_
    refine M.callS (kX11_rank l G bt (by omega)) cs_X11_146 cd_X11_rank rfl (st := [vr o]) rfl (by decide) (by decide) rfl (Nat.zero_le _) (Nat.zero_le _) trivial (fun rr4 wr4 qr4 => ?_)
    rw [qr4.1, qr4.2]
    refine M.run 1 (pc' := 15) (lv' := [some (vr o), some (vi bt), none, none]) (st' := [vi 4, vi (rkO bt), vr o]) rfl ?_
    refine M.icmp_ne (tgt := 22) rfl (qI (by omega)) (qI (by decide)) rfl (fun z => ?_) (fun z => ?_)
    · skip
      refine M.run 1 (pc' := 23) (lv' := [some (vr o), some (vi bt), none, none]) (st' := [vi bt, vr o]) rfl ?_
      refine M.callS (kX11_rank l G bt (by omega)) cs_X11_146 cd_X11_rank rfl (st := [vr o]) rfl (by decide) (by decide) rfl (Nat.zero_le _) (Nat.zero_le _) trivial (fun rr5 wr5 qr5 => ?_)
      rw [qr5.1, qr5.2]
      exact A26 (rkO bt) (if_neg z).symm
    · skip
      refine M.run 2 (pc' := 26) (lv' := [some (vr o), some (vi bt), none, none]) (st' := [vi 5, vr o]) rfl ?_
      exact A26 5 (if_pos z).symm
  refine M.run 1 (pc' := 61) (lv' := [some (vr o), some (vi bt), none, none]) (st' := [vr o]) rfl ?_
  refine M.callV (kX11_openNow l G o am u a b P i16 iP (by omega) iv) cv_X11_160 cd_X11_openNow rfl (st := []) rfl (isM_o hM) (by decide) (by decide) rfl (Nat.zero_le _) (Nat.zero_le _) hM (fun rq wq qq => ?_)
  rw [qq.1, qq.2]
  have hon := opnw_b iv
  refine M.run 3 (pc' := 67) (lv' := [some (vr o), some (vi bt), some (vi (opnw P)), none]) (st' := [vi (opnw P), vr o]) rfl ?_
  refine M.callV (kX11_partOf l G o am u a b t j iT P i16 iP (by omega) iv) cv_X11_202 cd_X11_partOf rfl (st := []) rfl (isM_o hM) (by decide) (by decide) rfl (Nat.zero_le _) (Nat.zero_le _) hM (fun rp wp qp => ?_)
  rw [qp.1, qp.2]
  generalize hpt : prtM P (gTk (tkL (b 3) t) j).1 = pt at *
  refine M.run 2 (pc' := 72) (lv' := [some (vr o), some (vi bt), some (vi (opnw P)), some (vi pt)]) (st' := [vi pt]) rfl ?_
  refine M.if_ge (tgt := 77) rfl (qI (by omega)) rfl (fun hge => ?_) (fun hlt2 => ?_)
  rotate_left
  · skip
    refine M.run 1 (pc' := 76) (lv' := [some (vr o), some (vi bt), some (vi (opnw P)), some (vi pt)]) (st' := [vi 0]) rfl ?_
    refine M.zret rfl (Or.inl rfl) (Nat.zero_le _) (Nat.zero_le _) ?_
    by_cases h0 : 0 ≤ opnw P
    · exact hQ _ _ (.inr (.inr (1, j))) (by unfold behM; rw [hbt, hpt, if_neg (by omega), if_pos (by omega), if_pos h0]) ⟨rfl, rfl, rfl, h0⟩
    · exact hQ _ _ (.inr (.inl ((sTL 1 P op C).2.2, j))) (by unfold behM; rw [hbt, hpt, if_neg (by omega), if_pos (by omega), if_neg h0]) ⟨rfl, rfl, rfl, by omega⟩
  have h51 : ¬ (gTk (tkL (b 3) t) j).1 = 51 := fun z => by rw [z, hp51] at hpt; omega
  obtain ⟨Q, hQe, hQ40⟩ := sTL_1 P op C (by omega)
  obtain ⟨z1, z2, z3, z4⟩ := wfP_s (r := 1) (C := C) (by decide) P op hwf
  refine M.run 2 (pc' := 79) (lv' := [some (vr o), some (vi bt), some (vi (opnw P)), some (vi pt)]) (st' := [vi 1, vr o]) rfl ?_
  refine M.callV (kX11_settle l G o am u a b t c0 P op true C j hR hc0 (by omega) (by omega) 1 (by decide)) cv_X11_176 cd_X11_settle rfl (st := []) rfl (isM_o hM) (by decide) (by decide) rfl (Nat.zero_le _) (Nat.zero_le _) hM (fun rs ws qs => ?_)
  obtain ⟨qs1, v, e, hM2, hR2, hF2⟩ := qs
  rw [qs1]
  obtain ⟨j12, jT, j16, jP, jv, j17, j18, j13, jC⟩ := id hR2
  have e3 : e 3 = b 3 := hF2.2.1 3 (by decide) (by decide)
  have hop0 := opI_v (sTL 1 P op C).1 jP
  refine M.run 1 (pc' := 83) (lv' := [some (vr o), some (vi bt), some (vi (opnw P)), some (vi pt)]) (st' := [vr o]) rfl ?_
  refine M.callV (kX11_nextT l G o am v a e t j (by rw [e3]; exact hb) ht jT (by show ¬ (gTk (tkL (e 3) t) j).1 = 51; rw [e3]; exact h51)) cv_X11_163 cd_X11_nextToken rfl (st := []) rfl (isM_o hM2) (by decide) (by decide) rfl (Nat.zero_le _) (Nat.zero_le _) hM2 (fun rn wn qn => ?_)
  obtain ⟨qn1, v2, hM3, hT2, hk⟩ := qn
  rw [qn1]
  have hFk : rF c0 u v2 b e := rF_k hF2 hk
  generalize hTe : sTL 1 P op C = T at *
  have zl := wfP_len T.1 T.2.1 z1
  have zt := topR_b T.1
  rw [hQe] at zl zt
  rw [List.length_cons] at zl
  have k16 : v2 16 = ((T.1.length : Nat) : Int) := (hk 16 (by decide)).trans j16
  have k17 : v2 17 = T.2.1 := (hk 17 (by decide)).trans j17
  have k13 : v2 13 = ((T.2.2.length : Nat) : Int) := (hk 13 (by decide)).trans j13
  have jP2 : rPl T.1 (e 15) := jP
  have jv2 : ∀ x : Int, x ∈ T.1 → 0 ≤ x ∧ x ≤ 43 := jv
  rw [hQe] at k16 jP2 jv2 z3
  rw [List.length_cons] at k16 z3
  refine M.run 1 (pc' := 87) (lv' := [some (vr o), some (vi bt), some (vi (opnw P)), some (vi pt)]) (st' := [vi pt]) rfl ?_
  refine M.if_le (tgt := 107) rfl (qI (by omega)) rfl (fun hz => ?_) (fun hp => ?_)
  rotate_left
  · have hbeh : behM (tkL (b 3) t) P op C j = .inl (prtS pt T j) := by unfold behM; rw [hbt, hpt, if_neg (by omega), if_neg (by omega), if_pos (by omega), hTe]
    refine M.run 1 (pc' := 91) (lv' := [some (vr o), some (vi bt), some (vi (opnw P)), some (vi pt)]) (st' := [vr o]) rfl ?_
    refine M.get fl_X11_29 rfl (isM_o hM3) (kf := 15) (v := vr (am 15)) rfl ?_
    refine M.run 1 (pc' := 95) (lv' := [some (vr o), some (vi bt), some (vi (opnw P)), some (vi pt)]) (st' := [vr o, vr (am 15)]) rfl ?_
    refine M.callV (kX11_openAt l G o am v2 a e (opnw P :: Q) (by rw [List.length_cons]; exact k16) jP2 (by rw [List.length_cons]; omega) jv2) cv_X11_156 cd_X11_openAt rfl (st := [vr (am 15)]) rfl (isM_o hM3) (by decide) (by decide) rfl (Nat.zero_le _) (Nat.zero_le _) hM3 (fun rx wx qx => ?_)
    rw [qx.1, qx.2, show opI (opnw P :: Q) = ((Q.length : Nat) : Int) from if_pos hQ40]
    refine M.run 1 (pc' := 99) (lv' := [some (vr o), some (vi bt), some (vi (opnw P)), some (vi pt)]) (st' := [vi pt, vi ((Q.length : Nat) : Int), vr (am 15)]) rfl ?_
    refine M.iastN (Q.length) rfl (isM_15 hM3) (by omega) (by decide) ?_
    have hMp6 := isM_setB (k := 15) (t := 0) (n := 160) hM3 (by decide) (uN (e 15) Q.length pt)
    generalize up wn (am 15) (Ar 0 160 (uN (e 15) Q.length pt)) = wp6 at hMp6 ⊢
    refine M.run 2 (pc' := 102) (lv' := [some (vr o), some (vi bt), some (vi (opnw P)), some (vi pt)]) (st' := [vi 0, vr o]) rfl ?_
    refine M.put fl_X11_172 rfl (isM_o hMp6) rfl rfl (Nat.le_of_ble_eq_true rfl) ?_
    have hMp7 := isM_setU (u' := uN v2 18 0) (fs := (Mf am v2).set 18 (vi 0)) hMp6 rfl
    generalize up wp6 o (Ob 10 ((Mf am v2).set 18 (vi 0))) = wp7 at hMp7 ⊢
    refine M.run 1 (pc' := 106) (lv' := [some (vr o), some (vi bt), some (vi (opnw P)), some (vi pt)]) (st' := [vi 1]) rfl ?_
    refine M.zret rfl (Or.inr rfl) (Nat.zero_le _) (Nat.zero_le _) (hQ _ _ _ hbeh ⟨rfl, _, _, hMp7, ⟨(hk 12 (by decide)).trans j12, isTk_u hT2 (fun k hk => uN_o (by omega)), ?_, ?_, ?_, k17, rfl, k13, jC⟩, rF_u (k := 18) (rF_b hFk) (by decide)⟩)
    · show v2 16 = (((pt :: T.1.tail).length : Nat) : Int)
      rw [hQe, List.length_cons]
      exact k16
    · show rPl (pt :: T.1.tail) (uN (e 15) Q.length pt)
      rw [hQe]
      exact ⟨uN_s _ _ _, rPl_e Q jP2.2 (fun i hi => uN_o (by omega))⟩
    · intro y hy
      have hy2 : y ∈ pt :: T.1.tail := hy
      rw [hQe] at hy2
      rcases List.mem_cons.mp hy2 with y1 | y1
      · rw [y1]; omega
      · exact jv2 y (List.mem_cons_of_mem _ y1)
  have hpt0 : pt = 0 := by omega
  have hbeh : behM (tkL (b 3) t) P op C j = .inl (shtS (decide (opnw P = 43)) T j) := by unfold behM; rw [hbt, hpt, if_neg (by omega), if_neg (by omega), if_neg (by omega), hTe]
  refine M.run 2 (pc' := 109) (lv' := [some (vr o), some (vi bt), some (vi (opnw P)), some (vi pt)]) (st' := [vr o, vr o]) rfl ?_
  refine M.get fl_X11_153 rfl (isM_o hM3) (kf := 17) (v := vi (v2 17)) rfl ?_
  rw [k17]
  refine M.run 2 (pc' := 114) (lv' := [some (vr o), some (vi bt), some (vi (opnw P)), some (vi pt)]) (st' := [vi (T.2.1 - 1), vr o]) rfl ?_
  refine M.put fl_X11_153 rfl (isM_o hM3) rfl rfl (Nat.le_of_ble_eq_true rfl) ?_
  have hMp8 := isM_setU (u' := uN v2 17 (T.2.1 - 1)) (fs := (Mf am v2).set 17 (vi (T.2.1 - 1))) hM3 rfl
  generalize up wn o (Ob 10 ((Mf am v2).set 17 (vi (T.2.1 - 1)))) = wp8 at hMp8 ⊢
  refine M.run 2 (pc' := 119) (lv' := [some (vr o), some (vi bt), some (vi (opnw P)), some (vi pt)]) (st' := [vr o, vr o]) rfl ?_
  refine M.get fl_X11_143 rfl (isM_o hMp8) (kf := 16) (v := vi (((uN v2 17 (T.2.1 - 1))) 16)) rfl ?_
  rw [show ((uN v2 17 (T.2.1 - 1))) 16 = ((Q.length + 1 : Nat) : Int) from k16]
  refine M.run 2 (pc' := 124) (lv' := [some (vr o), some (vi bt), some (vi (opnw P)), some (vi pt)]) (st' := [vi (((Q.length + 1 : Nat) : Int) - 1), vr o]) rfl ?_
  rw [show (((Q.length + 1 : Nat) : Int) - 1) = ((Q.length : Nat) : Int) by omega]
  refine M.put fl_X11_143 rfl (isM_o hMp8) rfl rfl (Nat.le_of_ble_eq_true rfl) ?_
  have hMp9 := isM_setU (u' := uN ((uN v2 17 (T.2.1 - 1))) 16 (((Q.length : Nat) : Int))) (fs := (Mf am ((uN v2 17 (T.2.1 - 1)))).set 16 (vi (((Q.length : Nat) : Int)))) hMp8 rfl
  generalize up wp8 o (Ob 10 ((Mf am ((uN v2 17 (T.2.1 - 1)))).set 16 (vi (((Q.length : Nat) : Int))))) = wp9 at hMp9 ⊢
  have hR3 : rS t c0 Q (T.2.1 - 1) true T.2.2 (j + 1) (uN ((uN v2 17 (T.2.1 - 1))) 16 (((Q.length : Nat) : Int))) e := ⟨(hk 12 (by decide)).trans j12, isTk_u hT2 (fun k hk => (uN_o (by omega)).trans (uN_o (by omega))), rfl, jP2.2, fun y hy => jv2 y (List.mem_cons_of_mem _ hy), rfl, (hk 18 (by decide)).trans j18, k13, jC⟩
  have hF3 : rF c0 u (uN ((uN v2 17 (T.2.1 - 1))) 16 (((Q.length : Nat) : Int))) b e := rF_u (k := 16) (rF_u (k := 17) hFk (by decide)) (by decide)
  have A139 : ∀ (v3 : Nat → Int) (e3 : Nat → Nat → Int) (w3 : Wo) (D : List (Int × Int)), isM o am v3 a e3 w3 → rS t c0 Q (T.2.1 - 1) true D (j + 1) v3 e3 → rF c0 u v3 b e3 → D = (if decide (opnw P = 43) = true then T.2.2 ++ [(3, 0)] else T.2.2) → g 0 0 w3 139 [some (vr o), some (vi bt), some (vi (opnw P)), some (vi pt)] [] := by
    intro v3 e4 w3 D hM4 hR4 hF4 hD
    have hDl : D.length ≤ T.2.2.length + 1 := by rw [hD]; split; rw [List.length_append]; exact Nat.le_refl _; omega
    refine M.run 2 (pc' := 142) (lv' := [some (vr o), some (vi bt), some (vi (opnw P)), some (vi pt)]) (st' := [vi 7, vr o]) rfl ?_
    refine M.callV (kX11_settle l G o am v3 a e4 t c0 Q (T.2.1 - 1) true D (j + 1) hR4 hc0 (by omega) (by omega) 7 (by decide)) cv_X11_176 cd_X11_settle rfl (st := []) rfl (isM_o hM4) (by decide) (by decide) rfl (Nat.zero_le _) (Nat.zero_le _) hM4 (fun ry wy qy => ?_)
    obtain ⟨qy1, v5, e5, hM5, hR5, hF5⟩ := qy
    rw [qy1]
    refine M.run 1 (pc' := 146) (lv' := [some (vr o), some (vi bt), some (vi (opnw P)), some (vi pt)]) (st' := [vi 1]) rfl ?_
    refine M.zret rfl (Or.inr rfl) (Nat.zero_le _) (Nat.zero_le _) (hQ _ _ _ hbeh ⟨rfl, v5, e5, hM5, ?_, rF_tr hF4 hF5⟩)
    show rM t c0 (mkS (sTL 7 T.1.tail (T.2.1 - 1) (if decide (opnw P = 43) = true then T.2.2 ++ [(3, 0)] else T.2.2)) true (j + 1)) v5 e5
    rw [hQe, ← hD]
    exact hR5
  refine M.run 2 (pc' := 130) (lv' := [some (vr o), some (vi bt), some (vi (opnw P)), some (vi pt)]) (st' := [vi 43, vi (opnw P)]) rfl ?_
  refine M.icmp_ne (tgt := 139) rfl (qI (by omega)) (qI (by decide)) rfl (fun hn => ?_) (fun h43 => ?_)
  · exact A139 _ e _ T.2.2 hMp9 hR3 hF3 (by rw [decide_eq_false hn]; rfl)
  · skip
    refine M.run 3 (pc' := 136) (lv' := [some (vr o), some (vi bt), some (vi (opnw P)), some (vi pt)]) (st' := [vi 0, vi 3, vr o]) rfl ?_
    refine M.callV (kX11_emit l G o am (uN ((uN v2 17 (T.2.1 - 1))) 16 (((Q.length : Nat) : Int))) a e c0 T.2.2.length ((hk 12 (by decide)).trans j12) k13 (by omega) 3 0) cv_X11_149 cd_X11_emit rfl (st := []) rfl (isM_o hMp9) (by decide) (by decide) rfl (Nat.zero_le _) (Nat.zero_le _) hMp9 (fun re we qe => ?_)
    obtain ⟨qe1, e2, hM6, he3, he4⟩ := qe
    rw [qe1]
    have e33 : e2 3 = e 3 := he4 3 (by decide)
    have hlen : (T.2.2 ++ [((3 : Int), (0 : Int))]).length = T.2.2.length + 1 := by rw [List.length_append]; rfl
    obtain ⟨a1, a2, a3, a4, a5, a6, a7, a8, a9⟩ := hR3
    exact A139 _ e2 we (T.2.2 ++ [(3, 0)]) hM6 ⟨a1, by rw [e33]; exact isTk_u a2 (fun k hk => uN_o (by omega)), a3, by rw [he4 15 (by decide)]; exact a4, a5, a6, a7, by rw [hlen]; rfl, by rw [he3]; exact rCl_a a9⟩ (rF_tr (rF_u (k := 13) hF3 (by decide)) ⟨fun _ _ _ _ => rfl, fun k h1 _ => he4 k h1, fun i hi => by rw [he3]; exact (uN_o (by omega)).trans (uN_o (by omega))⟩) (by rw [decide_eq_true h43]; rfl)
/-- what a sum leaves -/
def QU (o : Nat) (am : Nat → Nat) (u a : Nat → Int) (b : Nat → Nat → Int) (t c0 : Nat) (r : Option AV) (w' : Wo) : MR → Prop
  | .inl (D, k) => r = some (vi 0) ∧ ∃ (v : Nat → Int) (e : Nat → Nat → Int), isM o am v a e w' ∧ (isTk (e 3) t k v ∧ v 13 = ((D.length : Nat) : Int) ∧ rCl D (c0 + 73) (e 2) ∧ D.length ≤ k ∧ k ≤ 301) ∧ rF c0 u v b e
  | .inr (s, k) => r = some (vi s) ∧ (1 ≤ s ∧ s ≤ 6) ∧ ∃ (v : Nat → Int) (e : Nat → Nat → Int), isM o am v a e w' ∧ (isTk (e 3) t k v ∧ 0 ≤ v 13 ∧ v 13 ≤ 303) ∧ rF c0 u v b e
set_option maxHeartbeats 4000000 in
set_option maxRecDepth 100000 in
theorem kX11_summed (l : Launch) (G : GT) (o : Nat) (am : Nat → Nat) (u a : Nat → Int) (b : Nat → Nat → Int) (t c0 : Nat) (C : List (Int × Int)) (j : Nat) (ly : Int) (hly : ly = 0 ∨ ly = 1) (h14 : u 14 = ly) (h12 : u 12 = ((c0 : Nat) : Int)) (hT : isTk (b 3) t j u) (h13 : u 13 = ((C.length : Nat) : Int)) (hC : rCl C (c0 + 73) (b 2)) (hcj : C.length ≤ j) (hc0 : c0 ≤ 2043) (hb : ∀ k : Nat, k < 300 → 0 ≤ b 3 k ∧ b 3 k < 256) (ht : t ≤ 300) (res : MR) (hev : evM (tkL (b 3) t) ly ([], 0, false, C, j) res) : Ctr l G yX11_summed cX11_summed 2 ((Option.some Jvm.ClassFile.FieldType.int)) 9 0 0 [vr o] (fun w => isM o am u a b w) (fun w r w' => QU o am u a b t c0 r w' res) := by
  refine Ctr.of (t := tX11_summed) (lv0 := [some (vr o), none]) (by decide +kernel) tX11_summed_ok rfl rfl (fun w g hM M => ?_)
  refine M.run 2 (pc' := 2) (lv' := [some (vr o), none]) (st' := [vi 0, vr o]) rfl ?_
  refine M.put fl_X11_143 rfl (isM_o hM) rfl rfl (Nat.le_of_ble_eq_true rfl) ?_
  have hMp1 := isM_setU (u' := uN u 16 0) (fs := (Mf am u).set 16 (vi 0)) hM rfl
  generalize up w o (Ob 10 ((Mf am u).set 16 (vi 0))) = wp1 at hMp1 ⊢
  refine M.run 2 (pc' := 7) (lv' := [some (vr o), none]) (st' := [vi 0, vr o]) rfl ?_
  refine M.put fl_X11_153 rfl (isM_o hMp1) rfl rfl (Nat.le_of_ble_eq_true rfl) ?_
  have hMp2 := isM_setU (u' := uN (uN u 16 0) 17 0) (fs := (Mf am (uN u 16 0)).set 17 (vi 0)) hMp1 rfl
  generalize up wp1 o (Ob 10 ((Mf am (uN u 16 0)).set 17 (vi 0))) = wp2 at hMp2 ⊢
  refine M.run 2 (pc' := 12) (lv' := [some (vr o), none]) (st' := [vi 0, vr o]) rfl ?_
  refine M.put fl_X11_172 rfl (isM_o hMp2) rfl rfl (Nat.le_of_ble_eq_true rfl) ?_
  have hMp3 := isM_setU (u' := uN ((uN (uN u 16 0) 17 0)) 18 0) (fs := (Mf am ((uN (uN u 16 0) 17 0))).set 18 (vi 0)) hMp2 rfl
  generalize up wp2 o (Ob 10 ((Mf am ((uN (uN u 16 0) 17 0))).set 18 (vi 0))) = wp3 at hMp3 ⊢
  obtain ⟨N, hN⟩ := hev
  suffices hL : ∀ (N : Nat) (S2 : MS) (v : Nat → Int) (e : Nat → Nat → Int) (wz : Wo) (lq : Lo), runM (tkL (b 3) t) ly N S2 = some res → okM S2 → S2.2.2.2.2 ≤ 301 ∨ True → isM o am v a e wz → rM t c0 S2 v e → rF c0 u v b e → lq.length = 2 → lq[0]? = some (some (vr o)) → g 0 0 wz 15 lq [] from hL N _ _ b _ _ hN ⟨rfl, by show (0 : Int) ≤ 8; decide, by show C.length + 0 ≤ j; omega⟩ (Or.inr trivial) hMp3 ⟨h12, isTk_u hT (fun k hk => (uN_o (by omega)).trans ((uN_o (by omega)).trans (uN_o (by omega)))), rfl, trivial, fun y hy => absurd hy List.not_mem_nil, rfl, rfl, h13, hC⟩ (rF_u (k := 18) (rF_u (k := 17) (rF_u (k := 16) rF_rf (by decide)) (by decide)) (by decide)) rfl rfl
  intro N
  induction N with
  | zero => intro S2 v e wz lq hN; exact absurd hN (by intro z; cases z)
  | succ N ih =>
    intro S2 v e wz lq hN hok _ hM hR hF hl0 hl1
    obtain ⟨x0, x1, rfl⟩ : ∃ x0 x1, lq = [x0, x1] := by
      match lq, hl0 with
      | [x0, x1], _ => exact ⟨x0, x1, rfl⟩
    have hx0 : x0 = some (vr o) := Option.some.inj hl1
    subst hx0
    obtain ⟨P, op, wh, D, k⟩ := S2
    obtain ⟨j12, jT, j16, jP, jv, j17, j18, j13, jC⟩ := id hR
    have e3 : e 3 = b 3 := hF.2.1 3 (by decide) (by decide)
    have hbe : ∀ k : Nat, k < 300 → 0 ≤ e 3 k ∧ e 3 k < 256 := by rw [e3]; exact hb
    have h14v : v 14 = ly := (hF.1 14 (by decide) (by decide) (by decide)).trans h14
    have hpl : P.length ≤ 62 ∧ 0 ≤ op := okM_pile hok
    have hcp : D.length + P.length ≤ k := hok.2.2
    have hk301 : k ≤ 301 := by
      obtain ⟨s, d1, d2⟩ := jT
      have d3 := cutM_len (b := e 3) (e := t) t 0 0
      have d4 : ((tkL (e 3) t).drop k).length = (tkS (e 3) t s).length := by rw [show (tkL (e 3) t).drop k = tkS (e 3) t s from d1]
      rw [List.length_drop] at d4
      have d5 : (tkL (e 3) t).length ≤ t + 1 := d3
      have d6 : 0 < (tkS (e 3) t s).length := by
        rcases Nat.lt_or_ge s t with y | y
        · rw [tkS_t y (d2.2.2.2.2 y).1, List.length_cons]; omega
        · have y2 : s = t := by have := d2.2.2.1; omega
          rw [y2, tkS_e]; exact Nat.one_pos
      omega
    have hrn : (match stpM (tkL (b 3) t) ly (P, op, wh, D, k) with | .inl S3 => runM (tkL (b 3) t) ly N S3 | .inr r => some r) = some res := hN
    refine M.run 1 (pc' := 16) (lv' := [some (vr o), x1]) (st' := [vr o]) rfl ?_
    refine M.get fl_X11_172 rfl (isM_o hM) (kf := 18) (v := vi (v 18)) rfl ?_
    rw [show v 18 = zb wh from j18]
    cases wh with
    | false =>
      refine M.if_eq (tgt := 48) rfl (qI (by decide)) rfl (fun _ => ?_) (fun z => absurd rfl z)
      have hst : stpM (tkL (b 3) t) ly (P, op, false, D, k) = begM (tkL (e 3) t) ly P op D k := by rw [e3]; rfl
      refine M.run 1 (pc' := 49) (lv' := [some (vr o), x1]) (st' := [vr o]) rfl ?_
      refine M.callV (kX11_beginOne l G o am v a e t c0 P op D k ly hly h14v hR hok hk301 hc0 hbe ht) cv_X11_208 cd_X11_beginOne rfl (st := []) rfl (isM_o hM) (by decide) (by decide) rfl (Nat.zero_le _) (Nat.zero_le _) hM (fun r1 w1 q1 => ?_)
      rcases hB : begM (tkL (e 3) t) ly P op D k with S3 | (x | x)
      · rw [hB] at q1 hst
        obtain ⟨y1, v2, e2, y2, y3, y4⟩ := q1
        rw [y1]
        rw [hst] at hrn
        refine M.run 2 (pc' := 54) (lv' := [some (vr o), some (vi 0)]) (st' := [vi 0]) rfl ?_
        refine M.if_eq (tgt := 59) rfl (qI (by decide)) rfl (fun _ => ?_) (fun z => absurd rfl z)
        refine M.run 1 (pc' := 15) (lv' := [some (vr o), some (vi 0)]) (st' := []) rfl ?_
        exact ih S3 v2 e2 w1 _ hrn (okM_beg hok hB) (Or.inr trivial) y2 y3 (rF_tr hF y4) rfl rfl
      · rw [hB] at q1; exact q1.elim
      · rw [hB] at q1 hst
        obtain ⟨y1, y2, y3, y4⟩ := q1
        rw [y1, y4]
        rw [hst] at hrn
        have hres : res = .inr x := (Option.some.inj hrn).symm
        refine M.run 2 (pc' := 54) (lv' := [some (vr o), some (vi x.1)]) (st' := [vi x.1]) rfl ?_
        refine M.if_eq (tgt := 59) rfl (qI (by omega)) rfl (fun z => absurd z (by omega)) (fun _ => ?_)
        refine M.run 1 (pc' := 58) (lv' := [some (vr o), some (vi x.1)]) (st' := [vi x.1]) rfl ?_
        refine M.iret rfl (Nat.zero_le _) (Nat.zero_le _) ?_
        rw [hres]
        obtain ⟨x1_, x2_⟩ := x
        have y3b : x2_ = k := y3
        subst y3b
        have z13 : v 13 = ((D.length : Nat) : Int) := j13
        exact ⟨rfl, y2, v, e, hM, ⟨jT, by omega, by omega⟩, hF⟩
    | true =>
      refine M.if_eq (tgt := 48) rfl (qI (by decide)) rfl (fun z => absurd z (by decide)) (fun _ => ?_)
      have hst : stpM (tkL (b 3) t) ly (P, op, true, D, k) = behM (tkL (e 3) t) P op D k := by rw [e3]; rfl
      refine M.run 1 (pc' := 23) (lv' := [some (vr o), x1]) (st' := [vr o]) rfl ?_
      refine M.callV (kX11_behindOne l G o am v a e t c0 P op D k ly hly h14v hR hok hk301 hc0 hbe ht) cv_X11_205 cd_X11_behindOne rfl (st := []) rfl (isM_o hM) (by decide) (by decide) rfl (Nat.zero_le _) (Nat.zero_le _) hM (fun r1 w1 q1 => ?_)
      rcases hB : behM (tkL (e 3) t) P op D k with S3 | (x | x)
      · rw [hB] at q1 hst
        obtain ⟨y1, v2, e2, y2, y3, y4⟩ := q1
        rw [y1]
        rw [hst] at hrn
        refine M.if_eq (tgt := 32) rfl (qI (by decide)) rfl (fun z => absurd z (by decide)) (fun _ => ?_)
        refine M.run 1 (pc' := 15) (lv' := [some (vr o), x1]) (st' := []) rfl ?_
        exact ih S3 v2 e2 w1 _ hrn (okM_beh hok hB) (Or.inr trivial) y2 y3 (rF_tr hF y4) rfl rfl
      · rw [hB] at q1 hst
        obtain ⟨y1, y2, y3, y4⟩ := q1
        rw [y1, y2]
        rw [hst] at hrn
        have hres : res = .inl x := (Option.some.inj hrn).symm
        refine M.if_eq (tgt := 32) rfl (qI (by decide)) rfl (fun _ => ?_) (fun z => absurd rfl z)
        refine M.run 1 (pc' := 33) (lv' := [some (vr o), x1]) (st' := [vr o]) rfl ?_
        refine M.callV (kX11_openNow l G o am v a e P j16 jP (by omega) jv) cv_X11_160 cd_X11_openNow rfl (st := []) rfl (isM_o hM) (by decide) (by decide) rfl (Nat.zero_le _) (Nat.zero_le _) hM (fun r2 w2 q2 => ?_)
        rw [q2.1, q2.2]
        have hon := opnw_b jv
        have hon2 : opnw P = -1 ∨ (40 ≤ opnw P ∧ opnw P ≤ 43) := hon
        refine M.if_lt (tgt := 41) rfl (qI (by omega)) rfl (fun _ => ?_) (fun z => absurd y4 z)
        refine M.run 2 (pc' := 43) (lv' := [some (vr o), x1]) (st' := [vi 1, vr o]) rfl ?_
        refine M.callV (kX11_settle l G o am v a e t c0 P op true D k hR hc0 (by omega) (by omega) 1 (by decide)) cv_X11_176 cd_X11_settle rfl (st := []) rfl (isM_o hM) (by decide) (by decide) rfl (Nat.zero_le _) (Nat.zero_le _) hM (fun rs ws qs => ?_)
        obtain ⟨qs1, v2, e2, hM2, hR2, hF2⟩ := qs
        rw [qs1]
        refine M.run 1 (pc' := 47) (lv' := [some (vr o), x1]) (st' := [vi 0]) rfl ?_
        refine M.iret rfl (Nat.zero_le _) (Nat.zero_le _) ?_
        rw [hres, y3]
        obtain ⟨a1, a2, a3, a4, a5, a6, a7, a8, a9⟩ := hR2
        have hlen := (wfP_s (r := 1) (C := D) (by decide) P op hok.1).2.2.1
        exact ⟨rfl, v2, e2, hM2, ⟨a2, a8, a9, by show (sTL 1 P op D).2.2.length ≤ k; omega, hk301⟩, rF_tr hF hF2⟩
      · rw [hB] at q1 hst
        obtain ⟨y1, y2, y3, y4⟩ := q1
        rw [y1, y2]
        rw [hst] at hrn
        have hres : res = .inr x := (Option.some.inj hrn).symm
        refine M.if_eq (tgt := 32) rfl (qI (by decide)) rfl (fun _ => ?_) (fun z => absurd rfl z)
        refine M.run 1 (pc' := 33) (lv' := [some (vr o), x1]) (st' := [vr o]) rfl ?_
        refine M.callV (kX11_openNow l G o am v a e P j16 jP (by omega) jv) cv_X11_160 cd_X11_openNow rfl (st := []) rfl (isM_o hM) (by decide) (by decide) rfl (Nat.zero_le _) (Nat.zero_le _) hM (fun r2 w2 q2 => ?_)
        rw [q2.1, q2.2]
        have hon := opnw_b jv
        have hon2 : opnw P = -1 ∨ (40 ≤ opnw P ∧ opnw P ≤ 43) := hon
        refine M.if_lt (tgt := 41) rfl (qI (by omega)) rfl (fun z => absurd z (by omega)) (fun _ => ?_)
        refine M.run 1 (pc' := 40) (lv' := [some (vr o), x1]) (st' := [vi 1]) rfl ?_
        refine M.iret rfl (Nat.zero_le _) (Nat.zero_le _) ?_
        rw [hres, y3]
        have z13 : v 13 = ((D.length : Nat) : Int) := j13
        exact ⟨rfl, q1_1, v, e, hM, ⟨jT, by omega, by omega⟩, hF⟩
