abbrev isCp (s : Int) : Prop := (30 ≤ s ∧ s ≤ 33) ∨ s = 41 ∨ s = 42
def pAsk (L : List (Int × Int × Int)) (op : Nat) (fs fa : Nat → Pr) (j : Nat) : Pr :=
  if (gTk L j).1 = 16 then (if op < 8 then (match fa (j + 1) with
    | .inl (e, k) => .inl (unE 16 e, k)
    | .inr (s, k) => .inr (s, k)) else .inr (3, j))
  else match fs j with
    | .inl (e, k) => if isCp (gTk L k).1 then (match fs (k + 1) with
      | .inl (e2, k2) => .inl (biE (gTk L k).1 e e2, k2)
      | .inr (s, k2) => .inr (s, k2)) else .inr (1, k)
    | .inr (s, k) => .inr (s, k)
section QPAK
variable {L : List (Int × Int × Int)} {op : Nat} {fs fa : Nat → Pr} {j k k2 : Nat} {e e2 : Ex} {s : Int}
theorem pAsk_d (h : (gTk L j).1 = 16) (h2 : ¬ op < 8) : pAsk L op fs fa j = .inr (3, j) := by unfold pAsk; rw [if_pos h, if_neg h2]
theorem pAsk_n (h : (gTk L j).1 = 16) (h2 : op < 8) (h3 : fa (j + 1) = .inr (s, k)) : pAsk L op fs fa j = .inr (s, k) := by unfold pAsk; rw [if_pos h, if_pos h2, h3]
theorem pAsk_y (h : (gTk L j).1 = 16) (h2 : op < 8) (h3 : fa (j + 1) = .inl (e, k)) : pAsk L op fs fa j = .inl (unE 16 e, k) := by unfold pAsk; rw [if_pos h, if_pos h2, h3]
theorem pAsk_s (h : ¬ (gTk L j).1 = 16) (h3 : fs j = .inr (s, k)) : pAsk L op fs fa j = .inr (s, k) := by unfold pAsk; rw [if_neg h, h3]
theorem pAsk_c (h : ¬ (gTk L j).1 = 16) (h3 : fs j = .inl (e, k)) (h4 : ¬ isCp (gTk L k).1) : pAsk L op fs fa j = .inr (1, k) := by unfold pAsk; rw [if_neg h, h3]; exact if_neg h4
theorem pAsk_m (h : ¬ (gTk L j).1 = 16) (h3 : fs j = .inl (e, k)) (h4 : isCp (gTk L k).1) (h5 : fs (k + 1) = .inr (s, k2)) : pAsk L op fs fa j = .inr (s, k2) := by unfold pAsk; rw [if_neg h, h3]; refine (if_pos h4).trans ?_; rw [h5]
theorem pAsk_b (h : ¬ (gTk L j).1 = 16) (h3 : fs j = .inl (e, k)) (h4 : isCp (gTk L k).1) (h5 : fs (k + 1) = .inl (e2, k2)) : pAsk L op fs fa j = .inl (biE (gTk L k).1 e e2, k2) := by unfold pAsk; rw [if_neg h, h3]; refine (if_pos h4).trans ?_; rw [h5]
end QPAK
theorem un_at {g : Nat → Int} {c1 : Nat} {e : Ex} {x : Int} (ho : okE e) (h1 : cdAt g c1 (cdE e c1)) : cdAt (uN (uN g (c1 + 2 * szE e) x) (c1 + 2 * szE e + 1) 0) c1 (cdE (unE x e) c1) := by
  show cdAt _ c1 (cdE e c1 ++ [(x, 0)])
  refine cdAt_app _ (cdAt_eq _ h1 (fun i h4 h5 => ?_)) ?_
  · rw [ho] at h5
    rw [uN_o (by omega), uN_o (by omega)]
  · rw [ho]
    exact ⟨⟨by rw [uN_o (by omega), uN_s], by rw [uN_s]⟩, trivial⟩

set_option maxHeartbeats 4000000 in
set_option maxRecDepth 100000 in
theorem kX3_ask (l : Launch) (G : GT) (o : Nat) (L : List (Int × Int × Int)) (ly : Int) (op d : Nat) (hd : 3 ≤ d) (hop : op ≤ 100) (hB : tkB L) (hx51 : ∀ j : Nat, (gTk L j).1 ≠ 51 → j ≤ 300) (hd4 : 4 ≤ d) (hop8 : op ≤ 8) (ds da : Nat) (hds : ds < d ∧ da < d) (fs fa : Nat → Pr) (hs : PC l G yX3_sum cX3_sum 4 ds o L ly op fs) (ha : op < 8 → PC l G yX3_ask cX3_ask 4 da o L ly (op + 1) fa) : PC l G yX3_ask cX3_ask 4 d o L ly op (pAsk L op fs fa) := by
  intro c1 c2 j m1 m2 f1 f2 fc fq hc hj
  obtain ⟨⟨ht1, ht2⟩, _⟩ := hB j
  refine Ctr.of (t := tX3_ask) (lv0 := [some (vr o), some (vi ((op : Nat) : Int)), none, none]) (by decide +kernel) tX3_ask_ok rfl rfl (fun w g hP M => ?_)
  refine M.run 1 (pc' := 1) (lv' := [some (vr o), some (vi ((op : Nat) : Int)), none, none]) (st' := [vr o]) rfl ?_
  refine M.get fl_X3_12 rfl hP.1 (kf := 0) (v := vr (o + 1)) rfl ?_
  refine M.run 1 (pc' := 5) (lv' := [some (vr o), some (vi ((op : Nat) : Int)), none, none]) (st' := [vr o, vr (o + 1)]) rfl ?_
  refine M.get fl_X3_38 rfl hP.1 (kf := 5) (v := vi ((j : Nat) : Int)) rfl ?_
  obtain ⟨_, _, _, hKo, _⟩ := id hP.2.2.2
  refine M.callV (kX8_sort l G (o + 1) (o + 2) (o + 3) (o + 4) (ap4_o o) L j (by omega)) cv_X3_51 cd_X8_sort rfl (st := []) rfl hKo (by omega) (by decide) rfl (Nat.zero_le _) (Nat.zero_le _) hP.2.2.2 (fun r1 w2 q3 => ?_)
  rw [q3.1, q3.2]
  refine M.run 1 (pc' := 13) (lv' := [some (vr o), some (vi ((op : Nat) : Int)), none, none]) (st' := [vi 16, vi ((gTk L j).1)]) rfl ?_
  refine M.icmp_ne (tgt := 64) rfl (qI (by omega)) (qI (by decide)) (by decide) (fun h13 => ?_) (fun h13 => ?_)
  · skip
    refine M.run 2 (pc' := 66) (lv' := [some (vr o), some (vi ((op : Nat) : Int)), none, none]) (st' := [vi ((op : Nat) : Int), vr o]) rfl ?_
    refine M.callV (hs c1 c2 j m1 m2 f1 f2 fc fq (by omega) (by omega)) cv_X3_89 cd_X3_sum rfl (st := []) rfl (hP.1) (by omega) (by decide) rfl (Nat.zero_le _) (Nat.zero_le _) hP (fun r5 w5 q5 => ?_)
    rcases hR1 : fs j with ⟨e1, k1⟩ | ⟨s1, k1⟩
    · skip
      rw [hR1] at q5
      obtain ⟨hr1, hg1, ⟨hz1, hy1⟩, hK1, gc1, hS1, hC1, hU1⟩ := q5
      rw [hr1]
      have hG1 := FrR.tr FrR.rf hg1
      refine M.if_ne (tgt := 74) rfl (qI (by decide)) (by decide) (fun _ => ?_) (fun q => absurd q (by decide))
      refine M.run 1 (pc' := 75) (lv' := [some (vr o), some (vi ((op : Nat) : Int)), none, none]) (st' := [vr o]) rfl ?_
      refine M.get fl_X3_12 rfl hS1.1 (kf := 0) (v := vr (o + 1)) rfl ?_
      refine M.run 1 (pc' := 79) (lv' := [some (vr o), some (vi ((op : Nat) : Int)), none, none]) (st' := [vr o, vr (o + 1)]) rfl ?_
      refine M.get fl_X3_38 rfl hS1.1 (kf := 5) (v := vi ((k1 : Nat) : Int)) rfl ?_
      obtain ⟨_, _, _, hKo, _⟩ := id hS1.2.2.2
      refine M.callV (kX8_sort l G (o + 1) (o + 2) (o + 3) (o + 4) (ap4_o o) L k1 (by omega)) cv_X3_51 cd_X8_sort rfl (st := []) rfl hKo (by omega) (by decide) rfl (Nat.zero_le _) (Nat.zero_le _) hS1.2.2.2 (fun r6 w7 q8 => ?_)
      rw [q8.1, q8.2]
      refine M.run 1 (pc' := 86) (lv' := [some (vr o), some (vi ((op : Nat) : Int)), some (vi ((gTk L k1).1)), none]) (st' := []) rfl ?_
      obtain ⟨⟨ht3, ht4⟩, _⟩ := hB k1
      refine M.run 2 (pc' := 89) (lv' := [some (vr o), some (vi ((op : Nat) : Int)), some (vi ((gTk L k1).1)), none]) (st' := [vi 30, vi ((gTk L k1).1)]) rfl ?_
      refine M.icmp_lt (tgt := 98) rfl (qI (by omega)) (qI (by decide)) (by decide) (fun h89 => ?_) (fun h89 => ?_)
      · skip
        refine M.run 2 (pc' := 101) (lv' := [some (vr o), some (vi ((op : Nat) : Int)), some (vi ((gTk L k1).1)), none]) (st' := [vi 41, vi ((gTk L k1).1)]) rfl ?_
        refine M.icmp_eq (tgt := 110) rfl (qI (by omega)) (qI (by decide)) (by decide) (fun h101 => ?_) (fun h101 => ?_)
        · skip
          refine M.run 4 (pc' := 117) (lv' := [some (vr o), some (vi ((op : Nat) : Int)), some (vi ((gTk L k1).1)), some (vi 1)]) (st' := [vi 1]) rfl ?_
          refine M.if_ne (tgt := 126) rfl (qI (by decide)) (by decide) (fun _ => ?_) (fun q => absurd q (by decide))
          have hcp : isCp (gTk L k1).1 := by omega
          have hk300 := hx51 k1 (by omega)
          refine M.run 2 (pc' := 128) (lv' := [some (vr o), some (vi ((op : Nat) : Int)), some (vi ((gTk L k1).1)), some (vi 1)]) (st' := [vr o, vr o]) rfl ?_
          refine M.get fl_X3_38 rfl hS1.1 (kf := 5) (v := vi ((k1 : Nat) : Int)) rfl ?_
          refine M.run 2 (pc' := 133) (lv' := [some (vr o), some (vi ((op : Nat) : Int)), some (vi ((gTk L k1).1)), some (vi 1)]) (st' := [vi (((k1 : Nat) : Int) + 1), vr o]) rfl ?_
          rw [show ((k1 : Nat) : Int) + 1 = ((k1 + 1 : Nat) : Int) from by omega]
          refine M.put fl_X3_38 rfl (hS1.1) rfl rfl (Nat.le_of_ble_eq_true rfl) ?_
          change g 0 0 (up w5 o (Ob 2 [vr (o + 1), vr (o + 5), vr (o + 6), vi ((c1 + 2 * szE e1 : Nat) : Int), vi ((c2 : Nat) : Int), vi ((k1 + 1 : Nat) : Int), vi ly, vr m1, vr m2, vi f1, vi f2])) 136 [some (vr o), some (vi ((op : Nat) : Int)), some (vi ((gTk L k1).1)), some (vi 1)] []
          have hR10 : isRe o L (c1 + 2 * szE e1) c2 (k1 + 1) ly m1 m2 f1 f2 gc1 fq (up w5 o (Ob 2 [vr (o + 1), vr (o + 5), vr (o + 6), vi ((c1 + 2 * szE e1 : Nat) : Int), vi ((c2 : Nat) : Int), vi ((k1 + 1 : Nat) : Int), vi ly, vr m1, vr m2, vi f1, vi f2])) := isRe_1 hS1
          have hF10 : FrR o w (up w5 o (Ob 2 [vr (o + 1), vr (o + 5), vr (o + 6), vi ((c1 + 2 * szE e1 : Nat) : Int), vi ((c2 : Nat) : Int), vi ((k1 + 1 : Nat) : Int), vi ly, vr m1, vr m2, vi f1, vi f2])) := FrR.u hG1 o (by omega)
          generalize up w5 o (Ob 2 [vr (o + 1), vr (o + 5), vr (o + 6), vi ((c1 + 2 * szE e1 : Nat) : Int), vi ((c2 : Nat) : Int), vi ((k1 + 1 : Nat) : Int), vi ly, vr m1, vr m2, vi f1, vi f2]) = w10 at hR10 hF10 ⊢
          refine M.run 2 (pc' := 138) (lv' := [some (vr o), some (vi ((op : Nat) : Int)), some (vi ((gTk L k1).1)), some (vi 1)]) (st' := [vi ((op : Nat) : Int), vr o]) rfl ?_
          refine M.callV (hs (c1 + 2 * szE e1) c2 (k1 + 1) m1 m2 f1 f2 gc1 fq (by omega) (by omega)) cv_X3_89 cd_X3_sum rfl (st := []) rfl (hR10.1) (by omega) (by decide) rfl (Nat.zero_le _) (Nat.zero_le _) hR10 (fun r11 w11 q11 => ?_)
          rcases hR2 : fs (k1 + 1) with ⟨e2, k2⟩ | ⟨s2, k2⟩
          · skip
            rw [hR2] at q11
            obtain ⟨hr2, hg2, ⟨hz2, hy2⟩, hK2, gc2, hS2, hC2, hU2⟩ := q11
            rw [hr2]
            have hG2 := FrR.tr hF10 hg2
            refine M.if_eq (tgt := 157) rfl (qI (by decide)) (by decide) (fun q => absurd q (by decide)) (fun _ => ?_)
            refine M.run 3 (pc' := 147) (lv' := [some (vr o), some (vi ((op : Nat) : Int)), some (vi ((gTk L k1).1)), some (vi 1)]) (st' := [vi 0, vi ((gTk L k1).1), vr o]) rfl ?_
            refine M.callV (kX3_emit l G o L (c1 + 2 * szE e1 + 2 * szE e2) c2 k2 ly m1 m2 f1 f2 gc2 fq (by omega) ((gTk L k1).1) 0 (by omega) (by omega)) cv_X3_114 cd_X3_emit rfl (st := []) rfl hS2.1 (by omega) (by decide) rfl (Nat.zero_le _) (Nat.zero_le _) hS2 (fun r13 w14 q15 => ?_)
            obtain ⟨q15r, hR12, q15f⟩ := q15
            rw [q15r]
            have hF12 : FrR o w w14 := FrR.tr hG2 q15f
            refine M.if_eq (tgt := 157) rfl (qI (by decide)) (by decide) (fun q => absurd q (by decide)) (fun _ => ?_)
            refine M.run 2 (pc' := 158) (lv' := [some (vr o), some (vi ((op : Nat) : Int)), some (vi ((gTk L k1).1)), some (vi 1)]) (st' := [vi 1]) rfl ?_
            exact M.zret rfl (Or.inr rfl) (Nat.zero_le _) (Nat.zero_le _) (by show PQ o L c1 c2 j ly m1 m2 f1 f2 fc fq w _ _ ((pAsk L op fs fa) j); rw [pAsk_b h13 hR1 hcp hR2]; exact ⟨rfl, hF12, ⟨(by show szE e1 + szE e2 + 1 + j ≤ k2; omega), hy2⟩, okE_bi hK1 hK2, _, (by have hq9 := hR12; rw [show c1 + 2 * szE e1 + 2 * szE e2 + 2 = c1 + 2 * szE (biE (gTk L k1).1 e1 e2) from by show _ = c1 + 2 * (szE e1 + szE e2 + 1); omega] at hq9; exact hq9), bi_at hK1 hK2 hC1 hC2 hU2, fun i hi => by rw [uN_o (by omega), uN_o (by omega)]; exact (hU2 i (by omega)).trans (hU1 i hi)⟩)
          · skip
            rw [hR2] at q11
            obtain ⟨hr2, hg2, hy2, dd2, gc2, hS2⟩ := q11
            rw [hr2]
            have hG2 := FrR.tr hF10 hg2
            refine M.if_eq (tgt := 157) rfl (qI (by decide)) (by decide) (fun _ => ?_) (fun q => absurd q (by decide))
            refine M.run 1 (pc' := 158) (lv' := [some (vr o), some (vi ((op : Nat) : Int)), some (vi ((gTk L k1).1)), some (vi 1)]) (st' := [vi 0]) rfl ?_
            exact M.zret rfl (Or.inl rfl) (Nat.zero_le _) (Nat.zero_le _) (by show PQ o L c1 c2 j ly m1 m2 f1 f2 fc fq w _ _ ((pAsk L op fs fa) j); rw [pAsk_m h13 hR1 hcp hR2]; exact ⟨rfl, hG2, hy2, _, _, hS2⟩)
        · skip
          refine M.run 2 (pc' := 107) (lv' := [some (vr o), some (vi ((op : Nat) : Int)), some (vi ((gTk L k1).1)), none]) (st' := [vi 42, vi ((gTk L k1).1)]) rfl ?_
          refine M.icmp_ne (tgt := 114) rfl (qI (by omega)) (qI (by decide)) (by decide) (fun h107 => ?_) (fun h107 => ?_)
          · skip
            refine M.run 3 (pc' := 117) (lv' := [some (vr o), some (vi ((op : Nat) : Int)), some (vi ((gTk L k1).1)), some (vi 0)]) (st' := [vi 0]) rfl ?_
            refine M.if_ne (tgt := 126) rfl (qI (by decide)) (by decide) (fun q => absurd q (by decide)) (fun _ => ?_)
            refine M.run 2 (pc' := 122) (lv' := [some (vr o), some (vi ((op : Nat) : Int)), some (vi ((gTk L k1).1)), some (vi 0)]) (st' := [vi 1, vr o]) rfl ?_
            refine M.callV (kX3_refuse l G o L (c1 + 2 * szE e1) c2 k1 ly m1 m2 f1 f2 gc1 fq (by omega) hB 1 (by omega)) cv_X3_73 cd_X3_refuse rfl (st := []) rfl hS1.1 (by omega) (by decide) rfl (Nat.zero_le _) (Nat.zero_le _) hS1 (fun r18 w19 q20 => ?_)
            obtain ⟨q20r, hR17, q20f⟩ := q20
            rw [q20r]
            have hF17 : FrR o w w19 := FrR.tr hG1 q20f
            exact M.zret rfl (Or.inl rfl) (Nat.zero_le _) (Nat.zero_le _) (by show PQ o L c1 c2 j ly m1 m2 f1 f2 fc fq w _ _ ((pAsk L op fs fa) j); rw [pAsk_c h13 hR1 (by omega)]; exact ⟨rfl, hF17, hy1, _, _, hR17⟩)
          · skip
            refine M.run 4 (pc' := 117) (lv' := [some (vr o), some (vi ((op : Nat) : Int)), some (vi ((gTk L k1).1)), some (vi 1)]) (st' := [vi 1]) rfl ?_
            refine M.if_ne (tgt := 126) rfl (qI (by decide)) (by decide) (fun _ => ?_) (fun q => absurd q (by decide))
            have hcp : isCp (gTk L k1).1 := by omega
            have hk300 := hx51 k1 (by omega)
            refine M.run 2 (pc' := 128) (lv' := [some (vr o), some (vi ((op : Nat) : Int)), some (vi ((gTk L k1).1)), some (vi 1)]) (st' := [vr o, vr o]) rfl ?_
            refine M.get fl_X3_38 rfl hS1.1 (kf := 5) (v := vi ((k1 : Nat) : Int)) rfl ?_
            refine M.run 2 (pc' := 133) (lv' := [some (vr o), some (vi ((op : Nat) : Int)), some (vi ((gTk L k1).1)), some (vi 1)]) (st' := [vi (((k1 : Nat) : Int) + 1), vr o]) rfl ?_
            rw [show ((k1 : Nat) : Int) + 1 = ((k1 + 1 : Nat) : Int) from by omega]
            refine M.put fl_X3_38 rfl (hS1.1) rfl rfl (Nat.le_of_ble_eq_true rfl) ?_
            change g 0 0 (up w5 o (Ob 2 [vr (o + 1), vr (o + 5), vr (o + 6), vi ((c1 + 2 * szE e1 : Nat) : Int), vi ((c2 : Nat) : Int), vi ((k1 + 1 : Nat) : Int), vi ly, vr m1, vr m2, vi f1, vi f2])) 136 [some (vr o), some (vi ((op : Nat) : Int)), some (vi ((gTk L k1).1)), some (vi 1)] []
            have hR22 : isRe o L (c1 + 2 * szE e1) c2 (k1 + 1) ly m1 m2 f1 f2 gc1 fq (up w5 o (Ob 2 [vr (o + 1), vr (o + 5), vr (o + 6), vi ((c1 + 2 * szE e1 : Nat) : Int), vi ((c2 : Nat) : Int), vi ((k1 + 1 : Nat) : Int), vi ly, vr m1, vr m2, vi f1, vi f2])) := isRe_1 hS1
            have hF22 : FrR o w (up w5 o (Ob 2 [vr (o + 1), vr (o + 5), vr (o + 6), vi ((c1 + 2 * szE e1 : Nat) : Int), vi ((c2 : Nat) : Int), vi ((k1 + 1 : Nat) : Int), vi ly, vr m1, vr m2, vi f1, vi f2])) := FrR.u hG1 o (by omega)
            generalize up w5 o (Ob 2 [vr (o + 1), vr (o + 5), vr (o + 6), vi ((c1 + 2 * szE e1 : Nat) : Int), vi ((c2 : Nat) : Int), vi ((k1 + 1 : Nat) : Int), vi ly, vr m1, vr m2, vi f1, vi f2]) = w22 at hR22 hF22 ⊢
            refine M.run 2 (pc' := 138) (lv' := [some (vr o), some (vi ((op : Nat) : Int)), some (vi ((gTk L k1).1)), some (vi 1)]) (st' := [vi ((op : Nat) : Int), vr o]) rfl ?_
            refine M.callV (hs (c1 + 2 * szE e1) c2 (k1 + 1) m1 m2 f1 f2 gc1 fq (by omega) (by omega)) cv_X3_89 cd_X3_sum rfl (st := []) rfl (hR22.1) (by omega) (by decide) rfl (Nat.zero_le _) (Nat.zero_le _) hR22 (fun r23 w23 q23 => ?_)
            rcases hR2 : fs (k1 + 1) with ⟨e2, k2⟩ | ⟨s2, k2⟩
            · skip
              rw [hR2] at q23
              obtain ⟨hr2, hg2, ⟨hz2, hy2⟩, hK2, gc2, hS2, hC2, hU2⟩ := q23
              rw [hr2]
              have hG2 := FrR.tr hF22 hg2
              refine M.if_eq (tgt := 157) rfl (qI (by decide)) (by decide) (fun q => absurd q (by decide)) (fun _ => ?_)
              refine M.run 3 (pc' := 147) (lv' := [some (vr o), some (vi ((op : Nat) : Int)), some (vi ((gTk L k1).1)), some (vi 1)]) (st' := [vi 0, vi ((gTk L k1).1), vr o]) rfl ?_
              refine M.callV (kX3_emit l G o L (c1 + 2 * szE e1 + 2 * szE e2) c2 k2 ly m1 m2 f1 f2 gc2 fq (by omega) ((gTk L k1).1) 0 (by omega) (by omega)) cv_X3_114 cd_X3_emit rfl (st := []) rfl hS2.1 (by omega) (by decide) rfl (Nat.zero_le _) (Nat.zero_le _) hS2 (fun r25 w26 q27 => ?_)
              obtain ⟨q27r, hR24, q27f⟩ := q27
              rw [q27r]
              have hF24 : FrR o w w26 := FrR.tr hG2 q27f
              refine M.if_eq (tgt := 157) rfl (qI (by decide)) (by decide) (fun q => absurd q (by decide)) (fun _ => ?_)
              refine M.run 2 (pc' := 158) (lv' := [some (vr o), some (vi ((op : Nat) : Int)), some (vi ((gTk L k1).1)), some (vi 1)]) (st' := [vi 1]) rfl ?_
              exact M.zret rfl (Or.inr rfl) (Nat.zero_le _) (Nat.zero_le _) (by show PQ o L c1 c2 j ly m1 m2 f1 f2 fc fq w _ _ ((pAsk L op fs fa) j); rw [pAsk_b h13 hR1 hcp hR2]; exact ⟨rfl, hF24, ⟨(by show szE e1 + szE e2 + 1 + j ≤ k2; omega), hy2⟩, okE_bi hK1 hK2, _, (by have hq9 := hR24; rw [show c1 + 2 * szE e1 + 2 * szE e2 + 2 = c1 + 2 * szE (biE (gTk L k1).1 e1 e2) from by show _ = c1 + 2 * (szE e1 + szE e2 + 1); omega] at hq9; exact hq9), bi_at hK1 hK2 hC1 hC2 hU2, fun i hi => by rw [uN_o (by omega), uN_o (by omega)]; exact (hU2 i (by omega)).trans (hU1 i hi)⟩)
            · skip
              rw [hR2] at q23
              obtain ⟨hr2, hg2, hy2, dd2, gc2, hS2⟩ := q23
              rw [hr2]
              have hG2 := FrR.tr hF22 hg2
              refine M.if_eq (tgt := 157) rfl (qI (by decide)) (by decide) (fun _ => ?_) (fun q => absurd q (by decide))
              refine M.run 1 (pc' := 158) (lv' := [some (vr o), some (vi ((op : Nat) : Int)), some (vi ((gTk L k1).1)), some (vi 1)]) (st' := [vi 0]) rfl ?_
              exact M.zret rfl (Or.inl rfl) (Nat.zero_le _) (Nat.zero_le _) (by show PQ o L c1 c2 j ly m1 m2 f1 f2 fc fq w _ _ ((pAsk L op fs fa) j); rw [pAsk_m h13 hR1 hcp hR2]; exact ⟨rfl, hG2, hy2, _, _, hS2⟩)
      · skip
        refine M.run 2 (pc' := 95) (lv' := [some (vr o), some (vi ((op : Nat) : Int)), some (vi ((gTk L k1).1)), none]) (st' := [vi 33, vi ((gTk L k1).1)]) rfl ?_
        refine M.icmp_le (tgt := 110) rfl (qI (by omega)) (qI (by decide)) (by decide) (fun h95 => ?_) (fun h95 => ?_)
        · skip
          refine M.run 4 (pc' := 117) (lv' := [some (vr o), some (vi ((op : Nat) : Int)), some (vi ((gTk L k1).1)), some (vi 1)]) (st' := [vi 1]) rfl ?_
          refine M.if_ne (tgt := 126) rfl (qI (by decide)) (by decide) (fun _ => ?_) (fun q => absurd q (by decide))
          have hcp : isCp (gTk L k1).1 := by omega
          have hk300 := hx51 k1 (by omega)
          refine M.run 2 (pc' := 128) (lv' := [some (vr o), some (vi ((op : Nat) : Int)), some (vi ((gTk L k1).1)), some (vi 1)]) (st' := [vr o, vr o]) rfl ?_
          refine M.get fl_X3_38 rfl hS1.1 (kf := 5) (v := vi ((k1 : Nat) : Int)) rfl ?_
          refine M.run 2 (pc' := 133) (lv' := [some (vr o), some (vi ((op : Nat) : Int)), some (vi ((gTk L k1).1)), some (vi 1)]) (st' := [vi (((k1 : Nat) : Int) + 1), vr o]) rfl ?_
          rw [show ((k1 : Nat) : Int) + 1 = ((k1 + 1 : Nat) : Int) from by omega]
          refine M.put fl_X3_38 rfl (hS1.1) rfl rfl (Nat.le_of_ble_eq_true rfl) ?_
          change g 0 0 (up w5 o (Ob 2 [vr (o + 1), vr (o + 5), vr (o + 6), vi ((c1 + 2 * szE e1 : Nat) : Int), vi ((c2 : Nat) : Int), vi ((k1 + 1 : Nat) : Int), vi ly, vr m1, vr m2, vi f1, vi f2])) 136 [some (vr o), some (vi ((op : Nat) : Int)), some (vi ((gTk L k1).1)), some (vi 1)] []
          have hR29 : isRe o L (c1 + 2 * szE e1) c2 (k1 + 1) ly m1 m2 f1 f2 gc1 fq (up w5 o (Ob 2 [vr (o + 1), vr (o + 5), vr (o + 6), vi ((c1 + 2 * szE e1 : Nat) : Int), vi ((c2 : Nat) : Int), vi ((k1 + 1 : Nat) : Int), vi ly, vr m1, vr m2, vi f1, vi f2])) := isRe_1 hS1
          have hF29 : FrR o w (up w5 o (Ob 2 [vr (o + 1), vr (o + 5), vr (o + 6), vi ((c1 + 2 * szE e1 : Nat) : Int), vi ((c2 : Nat) : Int), vi ((k1 + 1 : Nat) : Int), vi ly, vr m1, vr m2, vi f1, vi f2])) := FrR.u hG1 o (by omega)
          generalize up w5 o (Ob 2 [vr (o + 1), vr (o + 5), vr (o + 6), vi ((c1 + 2 * szE e1 : Nat) : Int), vi ((c2 : Nat) : Int), vi ((k1 + 1 : Nat) : Int), vi ly, vr m1, vr m2, vi f1, vi f2]) = w29 at hR29 hF29 ⊢
          refine M.run 2 (pc' := 138) (lv' := [some (vr o), some (vi ((op : Nat) : Int)), some (vi ((gTk L k1).1)), some (vi 1)]) (st' := [vi ((op : Nat) : Int), vr o]) rfl ?_
          refine M.callV (hs (c1 + 2 * szE e1) c2 (k1 + 1) m1 m2 f1 f2 gc1 fq (by omega) (by omega)) cv_X3_89 cd_X3_sum rfl (st := []) rfl (hR29.1) (by omega) (by decide) rfl (Nat.zero_le _) (Nat.zero_le _) hR29 (fun r30 w30 q30 => ?_)
          rcases hR2 : fs (k1 + 1) with ⟨e2, k2⟩ | ⟨s2, k2⟩
          · skip
            rw [hR2] at q30
            obtain ⟨hr2, hg2, ⟨hz2, hy2⟩, hK2, gc2, hS2, hC2, hU2⟩ := q30
            rw [hr2]
            have hG2 := FrR.tr hF29 hg2
            refine M.if_eq (tgt := 157) rfl (qI (by decide)) (by decide) (fun q => absurd q (by decide)) (fun _ => ?_)
            refine M.run 3 (pc' := 147) (lv' := [some (vr o), some (vi ((op : Nat) : Int)), some (vi ((gTk L k1).1)), some (vi 1)]) (st' := [vi 0, vi ((gTk L k1).1), vr o]) rfl ?_
            refine M.callV (kX3_emit l G o L (c1 + 2 * szE e1 + 2 * szE e2) c2 k2 ly m1 m2 f1 f2 gc2 fq (by omega) ((gTk L k1).1) 0 (by omega) (by omega)) cv_X3_114 cd_X3_emit rfl (st := []) rfl hS2.1 (by omega) (by decide) rfl (Nat.zero_le _) (Nat.zero_le _) hS2 (fun r32 w33 q34 => ?_)
            obtain ⟨q34r, hR31, q34f⟩ := q34
            rw [q34r]
            have hF31 : FrR o w w33 := FrR.tr hG2 q34f
            refine M.if_eq (tgt := 157) rfl (qI (by decide)) (by decide) (fun q => absurd q (by decide)) (fun _ => ?_)
            refine M.run 2 (pc' := 158) (lv' := [some (vr o), some (vi ((op : Nat) : Int)), some (vi ((gTk L k1).1)), some (vi 1)]) (st' := [vi 1]) rfl ?_
            exact M.zret rfl (Or.inr rfl) (Nat.zero_le _) (Nat.zero_le _) (by show PQ o L c1 c2 j ly m1 m2 f1 f2 fc fq w _ _ ((pAsk L op fs fa) j); rw [pAsk_b h13 hR1 hcp hR2]; exact ⟨rfl, hF31, ⟨(by show szE e1 + szE e2 + 1 + j ≤ k2; omega), hy2⟩, okE_bi hK1 hK2, _, (by have hq9 := hR31; rw [show c1 + 2 * szE e1 + 2 * szE e2 + 2 = c1 + 2 * szE (biE (gTk L k1).1 e1 e2) from by show _ = c1 + 2 * (szE e1 + szE e2 + 1); omega] at hq9; exact hq9), bi_at hK1 hK2 hC1 hC2 hU2, fun i hi => by rw [uN_o (by omega), uN_o (by omega)]; exact (hU2 i (by omega)).trans (hU1 i hi)⟩)
          · skip
            rw [hR2] at q30
            obtain ⟨hr2, hg2, hy2, dd2, gc2, hS2⟩ := q30
            rw [hr2]
            have hG2 := FrR.tr hF29 hg2
            refine M.if_eq (tgt := 157) rfl (qI (by decide)) (by decide) (fun _ => ?_) (fun q => absurd q (by decide))
            refine M.run 1 (pc' := 158) (lv' := [some (vr o), some (vi ((op : Nat) : Int)), some (vi ((gTk L k1).1)), some (vi 1)]) (st' := [vi 0]) rfl ?_
            exact M.zret rfl (Or.inl rfl) (Nat.zero_le _) (Nat.zero_le _) (by show PQ o L c1 c2 j ly m1 m2 f1 f2 fc fq w _ _ ((pAsk L op fs fa) j); rw [pAsk_m h13 hR1 hcp hR2]; exact ⟨rfl, hG2, hy2, _, _, hS2⟩)
        · skip
          refine M.run 2 (pc' := 101) (lv' := [some (vr o), some (vi ((op : Nat) : Int)), some (vi ((gTk L k1).1)), none]) (st' := [vi 41, vi ((gTk L k1).1)]) rfl ?_
          refine M.icmp_eq (tgt := 110) rfl (qI (by omega)) (qI (by decide)) (by decide) (fun h101 => ?_) (fun h101 => ?_)
          · skip
            refine M.run 4 (pc' := 117) (lv' := [some (vr o), some (vi ((op : Nat) : Int)), some (vi ((gTk L k1).1)), some (vi 1)]) (st' := [vi 1]) rfl ?_
            refine M.if_ne (tgt := 126) rfl (qI (by decide)) (by decide) (fun _ => ?_) (fun q => absurd q (by decide))
            have hcp : isCp (gTk L k1).1 := by omega
            have hk300 := hx51 k1 (by omega)
            refine M.run 2 (pc' := 128) (lv' := [some (vr o), some (vi ((op : Nat) : Int)), some (vi ((gTk L k1).1)), some (vi 1)]) (st' := [vr o, vr o]) rfl ?_
            refine M.get fl_X3_38 rfl hS1.1 (kf := 5) (v := vi ((k1 : Nat) : Int)) rfl ?_
            refine M.run 2 (pc' := 133) (lv' := [some (vr o), some (vi ((op : Nat) : Int)), some (vi ((gTk L k1).1)), some (vi 1)]) (st' := [vi (((k1 : Nat) : Int) + 1), vr o]) rfl ?_
            rw [show ((k1 : Nat) : Int) + 1 = ((k1 + 1 : Nat) : Int) from by omega]
            refine M.put fl_X3_38 rfl (hS1.1) rfl rfl (Nat.le_of_ble_eq_true rfl) ?_
            change g 0 0 (up w5 o (Ob 2 [vr (o + 1), vr (o + 5), vr (o + 6), vi ((c1 + 2 * szE e1 : Nat) : Int), vi ((c2 : Nat) : Int), vi ((k1 + 1 : Nat) : Int), vi ly, vr m1, vr m2, vi f1, vi f2])) 136 [some (vr o), some (vi ((op : Nat) : Int)), some (vi ((gTk L k1).1)), some (vi 1)] []
            have hR36 : isRe o L (c1 + 2 * szE e1) c2 (k1 + 1) ly m1 m2 f1 f2 gc1 fq (up w5 o (Ob 2 [vr (o + 1), vr (o + 5), vr (o + 6), vi ((c1 + 2 * szE e1 : Nat) : Int), vi ((c2 : Nat) : Int), vi ((k1 + 1 : Nat) : Int), vi ly, vr m1, vr m2, vi f1, vi f2])) := isRe_1 hS1
            have hF36 : FrR o w (up w5 o (Ob 2 [vr (o + 1), vr (o + 5), vr (o + 6), vi ((c1 + 2 * szE e1 : Nat) : Int), vi ((c2 : Nat) : Int), vi ((k1 + 1 : Nat) : Int), vi ly, vr m1, vr m2, vi f1, vi f2])) := FrR.u hG1 o (by omega)
            generalize up w5 o (Ob 2 [vr (o + 1), vr (o + 5), vr (o + 6), vi ((c1 + 2 * szE e1 : Nat) : Int), vi ((c2 : Nat) : Int), vi ((k1 + 1 : Nat) : Int), vi ly, vr m1, vr m2, vi f1, vi f2]) = w36 at hR36 hF36 ⊢
            refine M.run 2 (pc' := 138) (lv' := [some (vr o), some (vi ((op : Nat) : Int)), some (vi ((gTk L k1).1)), some (vi 1)]) (st' := [vi ((op : Nat) : Int), vr o]) rfl ?_
            refine M.callV (hs (c1 + 2 * szE e1) c2 (k1 + 1) m1 m2 f1 f2 gc1 fq (by omega) (by omega)) cv_X3_89 cd_X3_sum rfl (st := []) rfl (hR36.1) (by omega) (by decide) rfl (Nat.zero_le _) (Nat.zero_le _) hR36 (fun r37 w37 q37 => ?_)
            rcases hR2 : fs (k1 + 1) with ⟨e2, k2⟩ | ⟨s2, k2⟩
            · skip
              rw [hR2] at q37
              obtain ⟨hr2, hg2, ⟨hz2, hy2⟩, hK2, gc2, hS2, hC2, hU2⟩ := q37
              rw [hr2]
              have hG2 := FrR.tr hF36 hg2
              refine M.if_eq (tgt := 157) rfl (qI (by decide)) (by decide) (fun q => absurd q (by decide)) (fun _ => ?_)
              refine M.run 3 (pc' := 147) (lv' := [some (vr o), some (vi ((op : Nat) : Int)), some (vi ((gTk L k1).1)), some (vi 1)]) (st' := [vi 0, vi ((gTk L k1).1), vr o]) rfl ?_
              refine M.callV (kX3_emit l G o L (c1 + 2 * szE e1 + 2 * szE e2) c2 k2 ly m1 m2 f1 f2 gc2 fq (by omega) ((gTk L k1).1) 0 (by omega) (by omega)) cv_X3_114 cd_X3_emit rfl (st := []) rfl hS2.1 (by omega) (by decide) rfl (Nat.zero_le _) (Nat.zero_le _) hS2 (fun r39 w40 q41 => ?_)
              obtain ⟨q41r, hR38, q41f⟩ := q41
              rw [q41r]
              have hF38 : FrR o w w40 := FrR.tr hG2 q41f
              refine M.if_eq (tgt := 157) rfl (qI (by decide)) (by decide) (fun q => absurd q (by decide)) (fun _ => ?_)
              refine M.run 2 (pc' := 158) (lv' := [some (vr o), some (vi ((op : Nat) : Int)), some (vi ((gTk L k1).1)), some (vi 1)]) (st' := [vi 1]) rfl ?_
              exact M.zret rfl (Or.inr rfl) (Nat.zero_le _) (Nat.zero_le _) (by show PQ o L c1 c2 j ly m1 m2 f1 f2 fc fq w _ _ ((pAsk L op fs fa) j); rw [pAsk_b h13 hR1 hcp hR2]; exact ⟨rfl, hF38, ⟨(by show szE e1 + szE e2 + 1 + j ≤ k2; omega), hy2⟩, okE_bi hK1 hK2, _, (by have hq9 := hR38; rw [show c1 + 2 * szE e1 + 2 * szE e2 + 2 = c1 + 2 * szE (biE (gTk L k1).1 e1 e2) from by show _ = c1 + 2 * (szE e1 + szE e2 + 1); omega] at hq9; exact hq9), bi_at hK1 hK2 hC1 hC2 hU2, fun i hi => by rw [uN_o (by omega), uN_o (by omega)]; exact (hU2 i (by omega)).trans (hU1 i hi)⟩)
            · skip
              rw [hR2] at q37
              obtain ⟨hr2, hg2, hy2, dd2, gc2, hS2⟩ := q37
              rw [hr2]
              have hG2 := FrR.tr hF36 hg2
              refine M.if_eq (tgt := 157) rfl (qI (by decide)) (by decide) (fun _ => ?_) (fun q => absurd q (by decide))
              refine M.run 1 (pc' := 158) (lv' := [some (vr o), some (vi ((op : Nat) : Int)), some (vi ((gTk L k1).1)), some (vi 1)]) (st' := [vi 0]) rfl ?_
              exact M.zret rfl (Or.inl rfl) (Nat.zero_le _) (Nat.zero_le _) (by show PQ o L c1 c2 j ly m1 m2 f1 f2 fc fq w _ _ ((pAsk L op fs fa) j); rw [pAsk_m h13 hR1 hcp hR2]; exact ⟨rfl, hG2, hy2, _, _, hS2⟩)
          · skip
            refine M.run 2 (pc' := 107) (lv' := [some (vr o), some (vi ((op : Nat) : Int)), some (vi ((gTk L k1).1)), none]) (st' := [vi 42, vi ((gTk L k1).1)]) rfl ?_
            refine M.icmp_ne (tgt := 114) rfl (qI (by omega)) (qI (by decide)) (by decide) (fun h107 => ?_) (fun h107 => ?_)
            · skip
              refine M.run 3 (pc' := 117) (lv' := [some (vr o), some (vi ((op : Nat) : Int)), some (vi ((gTk L k1).1)), some (vi 0)]) (st' := [vi 0]) rfl ?_
              refine M.if_ne (tgt := 126) rfl (qI (by decide)) (by decide) (fun q => absurd q (by decide)) (fun _ => ?_)
              refine M.run 2 (pc' := 122) (lv' := [some (vr o), some (vi ((op : Nat) : Int)), some (vi ((gTk L k1).1)), some (vi 0)]) (st' := [vi 1, vr o]) rfl ?_
              refine M.callV (kX3_refuse l G o L (c1 + 2 * szE e1) c2 k1 ly m1 m2 f1 f2 gc1 fq (by omega) hB 1 (by omega)) cv_X3_73 cd_X3_refuse rfl (st := []) rfl hS1.1 (by omega) (by decide) rfl (Nat.zero_le _) (Nat.zero_le _) hS1 (fun r44 w45 q46 => ?_)
              obtain ⟨q46r, hR43, q46f⟩ := q46
              rw [q46r]
              have hF43 : FrR o w w45 := FrR.tr hG1 q46f
              exact M.zret rfl (Or.inl rfl) (Nat.zero_le _) (Nat.zero_le _) (by show PQ o L c1 c2 j ly m1 m2 f1 f2 fc fq w _ _ ((pAsk L op fs fa) j); rw [pAsk_c h13 hR1 (by omega)]; exact ⟨rfl, hF43, hy1, _, _, hR43⟩)
            · skip
              refine M.run 4 (pc' := 117) (lv' := [some (vr o), some (vi ((op : Nat) : Int)), some (vi ((gTk L k1).1)), some (vi 1)]) (st' := [vi 1]) rfl ?_
              refine M.if_ne (tgt := 126) rfl (qI (by decide)) (by decide) (fun _ => ?_) (fun q => absurd q (by decide))
              have hcp : isCp (gTk L k1).1 := by omega
              have hk300 := hx51 k1 (by omega)
              refine M.run 2 (pc' := 128) (lv' := [some (vr o), some (vi ((op : Nat) : Int)), some (vi ((gTk L k1).1)), some (vi 1)]) (st' := [vr o, vr o]) rfl ?_
              refine M.get fl_X3_38 rfl hS1.1 (kf := 5) (v := vi ((k1 : Nat) : Int)) rfl ?_
              refine M.run 2 (pc' := 133) (lv' := [some (vr o), some (vi ((op : Nat) : Int)), some (vi ((gTk L k1).1)), some (vi 1)]) (st' := [vi (((k1 : Nat) : Int) + 1), vr o]) rfl ?_
              rw [show ((k1 : Nat) : Int) + 1 = ((k1 + 1 : Nat) : Int) from by omega]
              refine M.put fl_X3_38 rfl (hS1.1) rfl rfl (Nat.le_of_ble_eq_true rfl) ?_
              change g 0 0 (up w5 o (Ob 2 [vr (o + 1), vr (o + 5), vr (o + 6), vi ((c1 + 2 * szE e1 : Nat) : Int), vi ((c2 : Nat) : Int), vi ((k1 + 1 : Nat) : Int), vi ly, vr m1, vr m2, vi f1, vi f2])) 136 [some (vr o), some (vi ((op : Nat) : Int)), some (vi ((gTk L k1).1)), some (vi 1)] []
              have hR48 : isRe o L (c1 + 2 * szE e1) c2 (k1 + 1) ly m1 m2 f1 f2 gc1 fq (up w5 o (Ob 2 [vr (o + 1), vr (o + 5), vr (o + 6), vi ((c1 + 2 * szE e1 : Nat) : Int), vi ((c2 : Nat) : Int), vi ((k1 + 1 : Nat) : Int), vi ly, vr m1, vr m2, vi f1, vi f2])) := isRe_1 hS1
              have hF48 : FrR o w (up w5 o (Ob 2 [vr (o + 1), vr (o + 5), vr (o + 6), vi ((c1 + 2 * szE e1 : Nat) : Int), vi ((c2 : Nat) : Int), vi ((k1 + 1 : Nat) : Int), vi ly, vr m1, vr m2, vi f1, vi f2])) := FrR.u hG1 o (by omega)
              generalize up w5 o (Ob 2 [vr (o + 1), vr (o + 5), vr (o + 6), vi ((c1 + 2 * szE e1 : Nat) : Int), vi ((c2 : Nat) : Int), vi ((k1 + 1 : Nat) : Int), vi ly, vr m1, vr m2, vi f1, vi f2]) = w48 at hR48 hF48 ⊢
              refine M.run 2 (pc' := 138) (lv' := [some (vr o), some (vi ((op : Nat) : Int)), some (vi ((gTk L k1).1)), some (vi 1)]) (st' := [vi ((op : Nat) : Int), vr o]) rfl ?_
              refine M.callV (hs (c1 + 2 * szE e1) c2 (k1 + 1) m1 m2 f1 f2 gc1 fq (by omega) (by omega)) cv_X3_89 cd_X3_sum rfl (st := []) rfl (hR48.1) (by omega) (by decide) rfl (Nat.zero_le _) (Nat.zero_le _) hR48 (fun r49 w49 q49 => ?_)
              rcases hR2 : fs (k1 + 1) with ⟨e2, k2⟩ | ⟨s2, k2⟩
              · skip
                rw [hR2] at q49
                obtain ⟨hr2, hg2, ⟨hz2, hy2⟩, hK2, gc2, hS2, hC2, hU2⟩ := q49
                rw [hr2]
                have hG2 := FrR.tr hF48 hg2
                refine M.if_eq (tgt := 157) rfl (qI (by decide)) (by decide) (fun q => absurd q (by decide)) (fun _ => ?_)
                refine M.run 3 (pc' := 147) (lv' := [some (vr o), some (vi ((op : Nat) : Int)), some (vi ((gTk L k1).1)), some (vi 1)]) (st' := [vi 0, vi ((gTk L k1).1), vr o]) rfl ?_
                refine M.callV (kX3_emit l G o L (c1 + 2 * szE e1 + 2 * szE e2) c2 k2 ly m1 m2 f1 f2 gc2 fq (by omega) ((gTk L k1).1) 0 (by omega) (by omega)) cv_X3_114 cd_X3_emit rfl (st := []) rfl hS2.1 (by omega) (by decide) rfl (Nat.zero_le _) (Nat.zero_le _) hS2 (fun r51 w52 q53 => ?_)
                obtain ⟨q53r, hR50, q53f⟩ := q53
                rw [q53r]
                have hF50 : FrR o w w52 := FrR.tr hG2 q53f
                refine M.if_eq (tgt := 157) rfl (qI (by decide)) (by decide) (fun q => absurd q (by decide)) (fun _ => ?_)
                refine M.run 2 (pc' := 158) (lv' := [some (vr o), some (vi ((op : Nat) : Int)), some (vi ((gTk L k1).1)), some (vi 1)]) (st' := [vi 1]) rfl ?_
                exact M.zret rfl (Or.inr rfl) (Nat.zero_le _) (Nat.zero_le _) (by show PQ o L c1 c2 j ly m1 m2 f1 f2 fc fq w _ _ ((pAsk L op fs fa) j); rw [pAsk_b h13 hR1 hcp hR2]; exact ⟨rfl, hF50, ⟨(by show szE e1 + szE e2 + 1 + j ≤ k2; omega), hy2⟩, okE_bi hK1 hK2, _, (by have hq9 := hR50; rw [show c1 + 2 * szE e1 + 2 * szE e2 + 2 = c1 + 2 * szE (biE (gTk L k1).1 e1 e2) from by show _ = c1 + 2 * (szE e1 + szE e2 + 1); omega] at hq9; exact hq9), bi_at hK1 hK2 hC1 hC2 hU2, fun i hi => by rw [uN_o (by omega), uN_o (by omega)]; exact (hU2 i (by omega)).trans (hU1 i hi)⟩)
              · skip
                rw [hR2] at q49
                obtain ⟨hr2, hg2, hy2, dd2, gc2, hS2⟩ := q49
                rw [hr2]
                have hG2 := FrR.tr hF48 hg2
                refine M.if_eq (tgt := 157) rfl (qI (by decide)) (by decide) (fun _ => ?_) (fun q => absurd q (by decide))
                refine M.run 1 (pc' := 158) (lv' := [some (vr o), some (vi ((op : Nat) : Int)), some (vi ((gTk L k1).1)), some (vi 1)]) (st' := [vi 0]) rfl ?_
                exact M.zret rfl (Or.inl rfl) (Nat.zero_le _) (Nat.zero_le _) (by show PQ o L c1 c2 j ly m1 m2 f1 f2 fc fq w _ _ ((pAsk L op fs fa) j); rw [pAsk_m h13 hR1 hcp hR2]; exact ⟨rfl, hG2, hy2, _, _, hS2⟩)
    · skip
      rw [hR1] at q5
      obtain ⟨hr1, hg1, hy1, dd1, gc1, hS1⟩ := q5
      rw [hr1]
      have hG1 := FrR.tr FrR.rf hg1
      refine M.if_ne (tgt := 74) rfl (qI (by decide)) (by decide) (fun q => absurd q (by decide)) (fun _ => ?_)
      refine M.run 1 (pc' := 73) (lv' := [some (vr o), some (vi ((op : Nat) : Int)), none, none]) (st' := [vi 0]) rfl ?_
      exact M.zret rfl (Or.inl rfl) (Nat.zero_le _) (Nat.zero_le _) (by show PQ o L c1 c2 j ly m1 m2 f1 f2 fc fq w _ _ ((pAsk L op fs fa) j); rw [pAsk_s h13 hR1]; exact ⟨rfl, hG1, hy1, _, _, hS1⟩)
  · skip
    refine M.run 2 (pc' := 19) (lv' := [some (vr o), some (vi ((op : Nat) : Int)), none, none]) (st' := [vi 8, vi ((op : Nat) : Int)]) rfl ?_
    refine M.icmp_lt (tgt := 28) rfl (qI (by omega)) (qI (by decide)) (by decide) (fun h19 => ?_) (fun h19 => ?_)
    · skip
      have hk300_j := hx51 j (by omega)
      refine M.run 2 (pc' := 30) (lv' := [some (vr o), some (vi ((op : Nat) : Int)), none, none]) (st' := [vr o, vr o]) rfl ?_
      refine M.get fl_X3_38 rfl hP.1 (kf := 5) (v := vi ((j : Nat) : Int)) rfl ?_
      refine M.run 2 (pc' := 35) (lv' := [some (vr o), some (vi ((op : Nat) : Int)), none, none]) (st' := [vi (((j : Nat) : Int) + 1), vr o]) rfl ?_
      rw [show ((j : Nat) : Int) + 1 = ((j + 1 : Nat) : Int) from by omega]
      refine M.put fl_X3_38 rfl (hP.1) rfl rfl (Nat.le_of_ble_eq_true rfl) ?_
      change g 0 0 (up w o (Ob 2 [vr (o + 1), vr (o + 5), vr (o + 6), vi ((c1 : Nat) : Int), vi ((c2 : Nat) : Int), vi ((j + 1 : Nat) : Int), vi ly, vr m1, vr m2, vi f1, vi f2])) 38 [some (vr o), some (vi ((op : Nat) : Int)), none, none] []
      have hR55 : isRe o L c1 c2 (j + 1) ly m1 m2 f1 f2 fc fq (up w o (Ob 2 [vr (o + 1), vr (o + 5), vr (o + 6), vi ((c1 : Nat) : Int), vi ((c2 : Nat) : Int), vi ((j + 1 : Nat) : Int), vi ly, vr m1, vr m2, vi f1, vi f2])) := isRe_1 hP
      have hF55 : FrR o w (up w o (Ob 2 [vr (o + 1), vr (o + 5), vr (o + 6), vi ((c1 : Nat) : Int), vi ((c2 : Nat) : Int), vi ((j + 1 : Nat) : Int), vi ly, vr m1, vr m2, vi f1, vi f2])) := FrR.u FrR.rf o (by omega)
      generalize up w o (Ob 2 [vr (o + 1), vr (o + 5), vr (o + 6), vi ((c1 : Nat) : Int), vi ((c2 : Nat) : Int), vi ((j + 1 : Nat) : Int), vi ly, vr m1, vr m2, vi f1, vi f2]) = w55 at hR55 hF55 ⊢
      refine M.run 4 (pc' := 42) (lv' := [some (vr o), some (vi ((op : Nat) : Int)), none, none]) (st' := [vi (((op : Nat) : Int) + 1), vr o]) rfl ?_
      rw [show ((op : Nat) : Int) + 1 = ((op + 1 : Nat) : Int) from (by omega)]
      refine M.callV (ha (by omega) c1 c2 (j + 1) m1 m2 f1 f2 fc fq (by omega) (by omega)) cv_X3_137 cd_X3_ask rfl (st := []) rfl (hR55.1) (by omega) (by decide) rfl (Nat.zero_le _) (Nat.zero_le _) hR55 (fun r56 w56 q56 => ?_)
      rcases hR1 : fa (j + 1) with ⟨e1, k1⟩ | ⟨s1, k1⟩
      · skip
        rw [hR1] at q56
        obtain ⟨hr1, hg1, ⟨hz1, hy1⟩, hK1, gc1, hS1, hC1, hU1⟩ := q56
        rw [hr1]
        have hG1 := FrR.tr hF55 hg1
        refine M.if_eq (tgt := 62) rfl (qI (by decide)) (by decide) (fun q => absurd q (by decide)) (fun _ => ?_)
        refine M.run 3 (pc' := 52) (lv' := [some (vr o), some (vi ((op : Nat) : Int)), none, none]) (st' := [vi 0, vi 16, vr o]) rfl ?_
        refine M.callV (kX3_emit l G o L (c1 + 2 * szE e1) c2 k1 ly m1 m2 f1 f2 gc1 fq (by omega) 16 0 (by omega) (by omega)) cv_X3_114 cd_X3_emit rfl (st := []) rfl hS1.1 (by omega) (by decide) rfl (Nat.zero_le _) (Nat.zero_le _) hS1 (fun r58 w59 q60 => ?_)
        obtain ⟨q60r, hR57, q60f⟩ := q60
        rw [q60r]
        have hF57 : FrR o w w59 := FrR.tr hG1 q60f
        refine M.if_eq (tgt := 62) rfl (qI (by decide)) (by decide) (fun q => absurd q (by decide)) (fun _ => ?_)
        refine M.run 2 (pc' := 63) (lv' := [some (vr o), some (vi ((op : Nat) : Int)), none, none]) (st' := [vi 1]) rfl ?_
        exact M.zret rfl (Or.inr rfl) (Nat.zero_le _) (Nat.zero_le _) (by show PQ o L c1 c2 j ly m1 m2 f1 f2 fc fq w _ _ ((pAsk L op fs fa) j); rw [pAsk_y h13 (by omega) hR1]; exact ⟨rfl, hF57, ⟨(by show szE e1 + 1 + j ≤ k1; omega), hy1⟩, okE_un hK1, _, (by have hq9 := hR57; rw [show c1 + 2 * szE e1 + 2 = c1 + 2 * szE (unE 16 e1) from by show _ = c1 + 2 * (szE e1 + 1); omega] at hq9; exact hq9), un_at hK1 hC1, fun i hi => by rw [uN_o (by omega), uN_o (by omega)]; exact hU1 i hi⟩)
      · skip
        rw [hR1] at q56
        obtain ⟨hr1, hg1, hy1, dd1, gc1, hS1⟩ := q56
        rw [hr1]
        have hG1 := FrR.tr hF55 hg1
        refine M.if_eq (tgt := 62) rfl (qI (by decide)) (by decide) (fun _ => ?_) (fun q => absurd q (by decide))
        refine M.run 1 (pc' := 63) (lv' := [some (vr o), some (vi ((op : Nat) : Int)), none, none]) (st' := [vi 0]) rfl ?_
        exact M.zret rfl (Or.inl rfl) (Nat.zero_le _) (Nat.zero_le _) (by show PQ o L c1 c2 j ly m1 m2 f1 f2 fc fq w _ _ ((pAsk L op fs fa) j); rw [pAsk_n h13 (by omega) hR1]; exact ⟨rfl, hG1, hy1, _, _, hS1⟩)
    · skip
      refine M.run 2 (pc' := 24) (lv' := [some (vr o), some (vi ((op : Nat) : Int)), none, none]) (st' := [vi 3, vr o]) rfl ?_
      refine M.callV (kX3_refuse l G o L c1 c2 j ly m1 m2 f1 f2 fc fq (by omega) hB 3 (by omega)) cv_X3_73 cd_X3_refuse rfl (st := []) rfl hP.1 (by omega) (by decide) rfl (Nat.zero_le _) (Nat.zero_le _) hP (fun r63 w64 q65 => ?_)
      obtain ⟨q65r, hR62, q65f⟩ := q65
      rw [q65r]
      have hF62 : FrR o w w64 := FrR.tr FrR.rf q65f
      exact M.zret rfl (Or.inl rfl) (Nat.zero_le _) (Nat.zero_le _) (by show PQ o L c1 c2 j ly m1 m2 f1 f2 fc fq w _ _ ((pAsk L op fs fa) j); rw [pAsk_d h13 (by omega)]; exact ⟨rfl, hF62, hj, _, _, hR62⟩)
