/-! the reference's reader: bytes, orders, words -/
set_option maxHeartbeats 4000000 in
set_option maxRecDepth 100000 in
theorem kX11_byteAt (l : Launch) (G : GT) (o : Nat) (am : Nat → Nat) (u a : Nat → Int) (b : Nat → Nat → Int) (t k : Nat) (hu : u 4 = ((t : Nat) : Int)) (ht : t ≤ 300) (hk : k ≤ 1000) : Ctr l G yX11_byteAt cX11_byteAt 2 ((Option.some Jvm.ClassFile.FieldType.int)) 1 0 0 [vr o, vi ((k : Nat) : Int)] (fun w => isM o am u a b w) (fun w r w' => r = some (vi (byA (b 3) t k)) ∧ w' = w) := by
  refine Ctr.of (t := tX11_byteAt) (lv0 := [some (vr o), some (vi ((k : Nat) : Int))]) (by decide +kernel) tX11_byteAt_ok rfl rfl (fun w g hM M => ?_)
  refine M.run 2 (pc' := 2) (lv' := [some (vr o), some (vi ((k : Nat) : Int))]) (st' := [vr o, vi ((k : Nat) : Int)]) rfl ?_
  refine M.get fl_X11_75 rfl (isM_o hM) (kf := 4) (v := vi (u 4)) rfl ?_
  rw [hu]
  refine M.icmp_ge (tgt := 17) rfl (qI (by omega)) (qI (by omega)) rfl (fun h5 => ?_) (fun h5 => ?_)
  · skip
    refine M.run 1 (pc' := 18) (lv' := [some (vr o), some (vi ((k : Nat) : Int))]) (st' := [vi (-1)]) rfl ?_
    exact M.iret rfl (Nat.zero_le _) (Nat.zero_le _) ⟨reI (if_neg (by omega)).symm, rfl⟩
  · skip
    refine M.run 1 (pc' := 9) (lv' := [some (vr o), some (vi ((k : Nat) : Int))]) (st' := [vr o]) rfl ?_
    refine M.get fl_X11_19 rfl (isM_o hM) (kf := 3) (v := vr (am 3)) rfl ?_
    refine M.run 1 (pc' := 13) (lv' := [some (vr o), some (vi ((k : Nat) : Int))]) (st' := [vi ((k : Nat) : Int), vr (am 3)]) rfl ?_
    refine M.ialdN (k) rfl (isM_3 hM) (by omega) (by decide) ?_
    refine M.run 1 (pc' := 18) (lv' := [some (vr o), some (vi ((k : Nat) : Int))]) (st' := [vi (b 3 k)]) rfl ?_
    exact M.iret rfl (Nat.zero_le _) (Nat.zero_le _) ⟨reI (if_pos (by omega)).symm, rfl⟩
set_option maxHeartbeats 4000000 in
set_option maxRecDepth 100000 in
theorem kX11_emit (l : Launch) (G : GT) (o : Nat) (am : Nat → Nat) (u a : Nat → Int) (b : Nat → Nat → Int) (c0 n : Nat) (h12 : u 12 = ((c0 : Nat) : Int)) (h13 : u 13 = ((n : Nat) : Int)) (hb : c0 + 73 + 2 * n + 1 < 2724) (x v : Int) : Ctr l G yX11_emit cX11_emit 3 ((Option.none : Option Jvm.ClassFile.FieldType)) 1 0 0 [vr o, vi x, vi v] (fun w => isM o am u a b w) (fun w r w' => r = none ∧ ∃ e : Nat → Nat → Int, isM o am (uN u 13 ((n + 1 : Nat) : Int)) a e w' ∧ e 2 = uN (uN (b 2) (c0 + 73 + 2 * n) x) (c0 + 73 + 2 * n + 1) v ∧ ∀ k : Nat, k ≠ 2 → e k = b k) := by
  refine Ctr.of (t := tX11_emit) (lv0 := [some (vr o), some (vi x), some (vi v)]) (by decide +kernel) tX11_emit_ok rfl rfl (fun w g hM M => ?_)
  refine M.run 1 (pc' := 1) (lv' := [some (vr o), some (vi x), some (vi v)]) (st' := [vr o]) rfl ?_
  refine M.get fl_X11_16 rfl (isM_o hM) (kf := 2) (v := vr (am 2)) rfl ?_
  refine M.run 1 (pc' := 5) (lv' := [some (vr o), some (vi x), some (vi v)]) (st' := [vr o, vr (am 2)]) rfl ?_
  refine M.get fl_X11_130 rfl (isM_o hM) (kf := 12) (v := vi (u 12)) rfl ?_
  rw [h12]
  refine M.run 4 (pc' := 13) (lv' := [some (vr o), some (vi x), some (vi v)]) (st' := [vr o, vi 2, vi ((c0 + 73 : Nat) : Int), vr (am 2)]) rfl ?_
  refine M.get fl_X11_133 rfl (isM_o hM) (kf := 13) (v := vi (u 13)) rfl ?_
  rw [h13]
  refine M.run 3 (pc' := 19) (lv' := [some (vr o), some (vi x), some (vi v)]) (st' := [vi x, vi ((c0 + 73 + 2 * n : Nat) : Int), vr (am 2)]) rfl ?_
  refine M.iastN (c0 + 73 + 2 * n) rfl (isM_2 hM) (by omega) (by decide) ?_
  have hMp1 := isM_setB (k := 2) (t := 0) (n := 2724) hM (by decide) (uN (b 2) (c0 + 73 + 2 * n) x)
  generalize up w (am 2) (Ar 0 2724 (uN (b 2) (c0 + 73 + 2 * n) x)) = wp1 at hMp1 ⊢
  refine M.run 1 (pc' := 21) (lv' := [some (vr o), some (vi x), some (vi v)]) (st' := [vr o]) rfl ?_
  refine M.get fl_X11_16 rfl (isM_o hMp1) (kf := 2) (v := vr (am 2)) rfl ?_
  refine M.run 1 (pc' := 25) (lv' := [some (vr o), some (vi x), some (vi v)]) (st' := [vr o, vr (am 2)]) rfl ?_
  refine M.get fl_X11_130 rfl (isM_o hMp1) (kf := 12) (v := vi (u 12)) rfl ?_
  rw [h12]
  refine M.run 4 (pc' := 33) (lv' := [some (vr o), some (vi x), some (vi v)]) (st' := [vr o, vi 2, vi ((c0 + 73 : Nat) : Int), vr (am 2)]) rfl ?_
  refine M.get fl_X11_133 rfl (isM_o hMp1) (kf := 13) (v := vi (u 13)) rfl ?_
  rw [h13]
  refine M.run 5 (pc' := 41) (lv' := [some (vr o), some (vi x), some (vi v)]) (st' := [vi v, vi ((c0 + 73 + 2 * n + 1 : Nat) : Int), vr (am 2)]) rfl ?_
  refine M.iastN (c0 + 73 + 2 * n + 1) rfl (isM_2 hMp1) (by omega) (by decide) ?_
  have hMp2 := isM_setB (k := 2) (t := 0) (n := 2724) hMp1 (by decide) (uN ((uB b 2 (uN (b 2) (c0 + 73 + 2 * n) x)) 2) (c0 + 73 + 2 * n + 1) v)
  generalize up wp1 (am 2) (Ar 0 2724 (uN ((uB b 2 (uN (b 2) (c0 + 73 + 2 * n) x)) 2) (c0 + 73 + 2 * n + 1) v)) = wp2 at hMp2 ⊢
  refine M.run 2 (pc' := 44) (lv' := [some (vr o), some (vi x), some (vi v)]) (st' := [vr o, vr o]) rfl ?_
  refine M.get fl_X11_133 rfl (isM_o hMp2) (kf := 13) (v := vi (u 13)) rfl ?_
  rw [h13]
  refine M.run 2 (pc' := 49) (lv' := [some (vr o), some (vi x), some (vi v)]) (st' := [vi ((n + 1 : Nat) : Int), vr o]) rfl ?_
  refine M.put fl_X11_133 rfl (isM_o hMp2) rfl rfl (Nat.le_of_ble_eq_true rfl) ?_
  have hMp3 := isM_setU (u' := uN u 13 (((n + 1 : Nat) : Int))) (fs := (Mf am u).set 13 (vi (((n + 1 : Nat) : Int)))) hMp2 rfl
  generalize up wp2 o (Ob 10 ((Mf am u).set 13 (vi (((n + 1 : Nat) : Int))))) = wp3 at hMp3 ⊢
  refine M.vret rfl (Nat.zero_le _) (Nat.zero_le _) ⟨rfl, _, hMp3, rfl, fun k hk => ?_⟩
  unfold uB
  rw [if_neg hk, if_neg hk]
set_option maxHeartbeats 4000000 in
set_option maxRecDepth 100000 in
theorem kX11_isOf (l : Launch) (G : GT) (o : Nat) (am : Nat → Nat) (u a : Nat → Int) (b : Nat → Nat → Int) (ly : Int) (hl : u 14 = ly) (hly : ly = 0 ∨ ly = 1) (x : Int) (hx : 0 ≤ x ∧ x ≤ 6) : Ctr l G yX11_isOf cX11_isOf 2 ((Option.some Jvm.ClassFile.FieldType.boolean)) 1 0 0 [vr o, vi x] (fun w => isM o am u a b w) (fun w r w' => r = some (vi (zb (decide (¬ x + 17 = if ly = 0 then 23 else 22)))) ∧ w' = w) := by
  refine Ctr.of (t := tX11_isOf) (lv0 := [some (vr o), some (vi x)]) (by decide +kernel) tX11_isOf_ok rfl rfl (fun w g hM M => ?_)
  refine M.run 2 (pc' := 2) (lv' := [some (vr o), some (vi x)]) (st' := [vi 5, vi x]) rfl ?_
  refine M.icmp_lt (tgt := 28) rfl (qI (by omega)) (qI (by decide)) rfl (fun h1 => ?_) (fun h1 => ?_)
  · skip
    refine M.run 2 (pc' := 33) (lv' := [some (vr o), some (vi x)]) (st' := [vi 1]) rfl ?_
    exact M.zret rfl (Or.inr rfl) (Nat.zero_le _) (Nat.zero_le _) ⟨reI (by rw [decide_eq_true (by split <;> omega)]; rfl), rfl⟩
  · skip
    refine M.run 2 (pc' := 7) (lv' := [some (vr o), some (vi x)]) (st' := [vi 5, vi x]) rfl ?_
    refine M.icmp_ne (tgt := 20) rfl (qI (by omega)) (qI (by decide)) rfl (fun h2 => ?_) (fun h2 => ?_)
    · skip
      refine M.run 1 (pc' := 21) (lv' := [some (vr o), some (vi x)]) (st' := [vr o]) rfl ?_
      refine M.get fl_X11_140 rfl (isM_o hM) (kf := 14) (v := vi (u 14)) rfl ?_
      rw [hl]
      refine M.run 1 (pc' := 25) (lv' := [some (vr o), some (vi x)]) (st' := [vi 1, vi ly]) rfl ?_
      refine M.icmp_ne (tgt := 32) rfl (qI (by omega)) (qI (by decide)) rfl (fun h3 => ?_) (fun h3 => ?_)
      · skip
        refine M.run 1 (pc' := 33) (lv' := [some (vr o), some (vi x)]) (st' := [vi 0]) rfl ?_
        exact M.zret rfl (Or.inl rfl) (Nat.zero_le _) (Nat.zero_le _) ⟨reI (by rw [decide_eq_false (by rw [if_pos (show ly = 0 by omega)]; omega)]; rfl), rfl⟩
      · skip
        refine M.run 2 (pc' := 33) (lv' := [some (vr o), some (vi x)]) (st' := [vi 1]) rfl ?_
        exact M.zret rfl (Or.inr rfl) (Nat.zero_le _) (Nat.zero_le _) ⟨reI (by rw [decide_eq_true (by rw [if_neg (show ¬ ly = 0 by omega)]; omega)]; rfl), rfl⟩
    · skip
      refine M.run 1 (pc' := 11) (lv' := [some (vr o), some (vi x)]) (st' := [vr o]) rfl ?_
      refine M.get fl_X11_140 rfl (isM_o hM) (kf := 14) (v := vi (u 14)) rfl ?_
      rw [hl]
      refine M.if_ne (tgt := 32) rfl (qI (by omega)) rfl (fun h3 => ?_) (fun h3 => ?_)
      · skip
        refine M.run 1 (pc' := 33) (lv' := [some (vr o), some (vi x)]) (st' := [vi 0]) rfl ?_
        exact M.zret rfl (Or.inl rfl) (Nat.zero_le _) (Nat.zero_le _) ⟨reI (by rw [decide_eq_false (by rw [if_neg h3]; omega)]; rfl), rfl⟩
      · skip
        refine M.run 3 (pc' := 33) (lv' := [some (vr o), some (vi x)]) (st' := [vi 1]) rfl ?_
        exact M.zret rfl (Or.inr rfl) (Nat.zero_le _) (Nat.zero_le _) ⟨reI (by rw [decide_eq_true (by rw [if_pos h3]; omega)]; rfl), rfl⟩
set_option maxHeartbeats 4000000 in
set_option maxRecDepth 100000 in
theorem kX11_isWord (l : Launch) (G : GT) (o : Nat) (am : Nat → Nat) (u a : Nat → Int) (b : Nat → Nat → Int) (W : Int) (hW : 0 ≤ W ∧ W ≤ 1152921504606846976) (h9 : 0 ≤ u 9 ∧ u 9 ≤ 300) (h11 : u 9 = 2 → 0 ≤ u 11 ∧ u 11 ≤ 1152921504606846976) : Ctr l G yX11_isWord cX11_isWord 3 ((Option.some Jvm.ClassFile.FieldType.boolean)) 1 0 0 [vr o, vl W] (fun w => isM o am u a b w) (fun w r w' => r = some (vi (zb (decide (u 9 = 2 ∧ u 11 = W)))) ∧ w' = w) := by
  refine Ctr.of (t := tX11_isWord) (lv0 := [some (vr o), some (vl W), none]) (by decide +kernel) tX11_isWord_ok rfl rfl (fun w g hM M => ?_)
  refine M.run 1 (pc' := 1) (lv' := [some (vr o), some (vl W), none]) (st' := [vr o]) rfl ?_
  refine M.get fl_X11_91 rfl (isM_o hM) (kf := 9) (v := vi (u 9)) rfl ?_
  refine M.run 1 (pc' := 5) (lv' := [some (vr o), some (vl W), none]) (st' := [vi 2, vi (u 9)]) rfl ?_
  refine M.icmp_ne (tgt := 21) rfl (qI (by omega)) (qI (by decide)) rfl (fun h1 => ?_) (fun h1 => ?_)
  · skip
    refine M.run 1 (pc' := 22) (lv' := [some (vr o), some (vl W), none]) (st' := [vi 0]) rfl ?_
    exact M.zret rfl (Or.inl rfl) (Nat.zero_le _) (Nat.zero_le _) ⟨reI (by rw [decide_eq_false (fun z => h1 z.1)]; rfl), rfl⟩
  · have h12 := h11 h1
    refine M.run 1 (pc' := 9) (lv' := [some (vr o), some (vl W), none]) (st' := [vr o]) rfl ?_
    refine M.get fl_X11_105 rfl (isM_o hM) (kf := 11) (v := vl (u 11)) rfl ?_
    refine M.run 1 (pc' := 13) (lv' := [some (vr o), some (vl W), none]) (st' := [vl W, vl (u 11)]) rfl ?_
    refine M.lcmp rfl (qL (by omega)) (qL (by omega)) ?_
    refine M.if_ne (tgt := 21) rfl (qI (by split; decide; split <;> decide)) rfl (fun h2 => ?_) (fun h2 => ?_)
    · skip
      refine M.run 1 (pc' := 22) (lv' := [some (vr o), some (vl W), none]) (st' := [vi 0]) rfl ?_
      exact M.zret rfl (Or.inl rfl) (Nat.zero_le _) (Nat.zero_le _) ⟨reI (by rw [decide_eq_false (fun z => h2 (by rw [if_neg (by omega), if_pos z.2]))]; rfl), rfl⟩
    · have h3 : u 11 = W := by
        split at h2
        · exact absurd h2 (by decide)
        · split at h2
          · assumption
          · exact absurd h2 (by decide)
      refine M.run 2 (pc' := 22) (lv' := [some (vr o), some (vl W), none]) (st' := [vi 1]) rfl ?_
      exact M.zret rfl (Or.inr rfl) (Nat.zero_le _) (Nat.zero_le _) ⟨reI (by rw [decide_eq_true (⟨h1, h3⟩)]; rfl), rfl⟩
