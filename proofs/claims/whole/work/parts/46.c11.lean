theorem clip_z : clipI 0 = 0 := by unfold clipI; rw [if_neg (by decide), if_neg (by decide)]
theorem twoC_14 (x y : Int) : twoC 14 x y = zb (decide (¬ x = 0 ∨ ¬ y = 0)) := by
  unfold twoC
  rw [if_pos rfl]
theorem twoC_15 (x y : Int) : twoC 15 x y = zb (decide (¬ x = 0 ∧ ¬ y = 0)) := by
  unfold twoC
  rw [if_neg (by decide), if_pos rfl]
theorem twoC_30 (x y : Int) : twoC 30 x y = zb (decide (x < y)) := by
  unfold twoC
  rw [if_neg (by decide), if_neg (by decide), if_pos rfl]
theorem twoC_31 (x y : Int) : twoC 31 x y = zb (decide (y < x)) := by
  unfold twoC
  rw [if_neg (by decide), if_neg (by decide), if_neg (by decide), if_pos rfl]
theorem twoC_32 (x y : Int) : twoC 32 x y = zb (decide (x = y)) := by
  unfold twoC
  rw [if_neg (by decide), if_neg (by decide), if_neg (by decide), if_neg (by decide), if_pos rfl]
theorem twoC_33 (x y : Int) : twoC 33 x y = zb (decide (¬ x = y)) := by
  unfold twoC
  rw [if_neg (by decide), if_neg (by decide), if_neg (by decide), if_neg (by decide), if_neg (by decide), if_pos rfl]
theorem twoC_34 (x y : Int) : twoC 34 x y = clipI (x + y) := by
  unfold twoC
  rw [if_neg (by decide), if_neg (by decide), if_neg (by decide), if_neg (by decide), if_neg (by decide), if_neg (by decide), if_pos rfl]
theorem twoC_35 (x y : Int) : twoC 35 x y = clipI (x - y) := by
  unfold twoC
  rw [if_neg (by decide), if_neg (by decide), if_neg (by decide), if_neg (by decide), if_neg (by decide), if_neg (by decide), if_neg (by decide), if_pos rfl]
theorem twoC_36 (x y : Int) : twoC 36 x y = clipI (x * y) := by
  unfold twoC
  rw [if_neg (by decide), if_neg (by decide), if_neg (by decide), if_neg (by decide), if_neg (by decide), if_neg (by decide), if_neg (by decide), if_neg (by decide), if_pos rfl]
theorem twoC_37 (x y : Int) : twoC 37 x y = (if y = 0 then 0 else clipI (x.tdiv y)) := by
  unfold twoC
  rw [if_neg (by decide), if_neg (by decide), if_neg (by decide), if_neg (by decide), if_neg (by decide), if_neg (by decide), if_neg (by decide), if_neg (by decide), if_neg (by decide), if_pos rfl]
theorem twoC_41 (x y : Int) : twoC 41 x y = zb (decide (x ≤ y)) := by
  unfold twoC
  rw [if_neg (by decide), if_neg (by decide), if_neg (by decide), if_neg (by decide), if_neg (by decide), if_neg (by decide), if_neg (by decide), if_neg (by decide), if_neg (by decide), if_neg (by decide), if_pos rfl]
theorem twoC_42 (x y : Int) : twoC 42 x y = zb (decide (y ≤ x)) := by
  unfold twoC
  rw [if_neg (by decide), if_neg (by decide), if_neg (by decide), if_neg (by decide), if_neg (by decide), if_neg (by decide), if_neg (by decide), if_neg (by decide), if_neg (by decide), if_neg (by decide), if_neg (by decide)]

set_option maxHeartbeats 4000000 in
set_option maxRecDepth 100000 in
theorem kX2_pushOfTwo (l : Launch) (G : GT) (p q t0 a0 n : Nat) (V : Nat → Int) (kd bl la : Int) (hn : n + 2 ≤ 300) (o : Int) (ho : o = 14 ∨ o = 15 ∨ (30 ≤ o ∧ o ≤ 37) ∨ o = 41 ∨ o = 42) (hx : bd6 (V n)) (hy : bd6 (V (n + 1))) (h01 : o = 14 ∨ o = 15 → (V n = 0 ∨ V n = 1) ∧ (V (n + 1) = 0 ∨ V (n + 1) = 1)) : Ctr l G yX2_pushOfTwo cX2_pushOfTwo 8 ((Option.none : Option Jvm.ClassFile.FieldType)) 2 0 0 [vr p, vi o] (fun w => isLa p q t0 a0 (n + 2) V kd bl la w) (fun w r w' => r = none ∧ isLa p q t0 a0 (n + 1) (uN V n (twoC o (V n) (V (n + 1)))) kd bl la w' ∧ Frm p q w w') := by
  refine Ctr.of (t := tX2_pushOfTwo) (lv0 := [some (vr p), some (vi o), none, none, none, none, none, none]) (by decide +kernel) tX2_pushOfTwo_ok rfl rfl (fun w g hP M => ?_)
  have hpq : p ≠ q := hP.ne
  have hqp : q ≠ p := fun e => hpq e.symm
  have hx1 := hx.1
  have hx2 := hx.2
  have hy1 := hy.1
  have hy2 := hy.2
  have hm := mul6 hx hy
  have hd1 := (tdiv6 (y := V (n + 1)) hx).1
  have hd2 := (tdiv6 (y := V (n + 1)) hx).2
  refine M.run 1 (pc' := 1) (lv' := [some (vr p), some (vi o), none, none, none, none, none, none]) (st' := [vr p]) rfl ?_
  refine M.callV (kX2_pop l G p q t0 a0 (n + 1) V kd bl la (by omega)) cv_X2_62 cd_X2_pop rfl (st := []) rfl hP.1 (by decide) (by decide) rfl (Nat.zero_le _) (Nat.zero_le _) hP (fun r1 w2 q3 => ?_)
  obtain ⟨q3r, q3l, q3f⟩ := q3
  rw [q3r]
  have q3g : Frm p q w w2 := FrmT Frm.rf q3f
  refine M.i2l rfl (qI (by omega)) ?_
  refine M.run 2 (pc' := 7) (lv' := [some (vr p), some (vi o), some (vl (V (n + 1))), none, none, none, none, none]) (st' := [vr p]) rfl ?_
  refine M.callV (kX2_pop l G p q t0 a0 (n) V kd bl la (by omega)) cv_X2_62 cd_X2_pop rfl (st := []) rfl q3l.1 (by decide) (by decide) rfl (Nat.zero_le _) (Nat.zero_le _) q3l (fun r5 w6 q7 => ?_)
  obtain ⟨q7r, q7l, q7f⟩ := q7
  rw [q7r]
  have q7g : Frm p q w w6 := FrmT q3g q7f
  refine M.i2l rfl (qI (by omega)) ?_
  refine M.run 3 (pc' := 16) (lv' := [some (vr p), some (vi o), some (vl (V (n + 1))), none, some (vl (V (n))), none, some (vl 0), none]) (st' := []) rfl ?_
  have tail : ∀ v : Int, (-1000000000000 ≤ v ∧ v ≤ 1000000000000) → clipI v = twoC o (V n) (V (n + 1)) → g 0 0 w6 314 [some (vr p), some (vi o), some (vl (V (n + 1))), none, some (vl (V (n))), none, some (vl v), none] [] := by
    intro v hv hc
    refine M.run 1 (pc' := 315) (lv' := [some (vr p), some (vi o), some (vl (V (n + 1))), none, some (vl (V (n))), none, some (vl v), none]) (st' := [vr p]) rfl ?_
    refine M.ldc2 (x := (-1000000)) kl_X2_106 rfl rfl ?_
    refine M.ldc2 (x := 1000000) kl_X2_108 rfl rfl ?_
    refine M.run 1 (pc' := 323) (lv' := [some (vr p), some (vi o), some (vl (V (n + 1))), none, some (vl (V (n))), none, some (vl v), none]) (st' := [vl v, vl 1000000, vl (-1000000), vr p]) rfl ?_
    refine M.mminL cs_X2_110 rfl (qL (by decide)) (qL (by omega)) (by decide) (Nat.zero_le _) (Nat.zero_le _) rfl ?_
    refine M.mmaxL cs_X2_113 rfl (qL (by decide)) (qL (by omega)) (by decide) (Nat.zero_le _) (Nat.zero_le _) rfl ?_
    refine M.run 1 (pc' := 330) (lv' := [some (vr p), some (vi o), some (vl (V (n + 1))), none, some (vl (V (n))), none, some (vl v), none]) (st' := [vi (max (-1000000) (min 1000000 v)), vr p]) rfl ?_
    rw [show max (-1000000) (min 1000000 v) = twoC o (V n) (V (n + 1)) from by rw [← hc]; unfold clipI; (repeat' split) <;> omega]
    refine M.callV (kX2_push l G p q t0 a0 (n) V kd bl la (twoC o (V n) (V (n + 1))) (by omega)) cv_X2_66 cd_X2_push rfl (st := []) rfl q7l.1 (by decide) (by decide) rfl (Nat.zero_le _) (Nat.zero_le _) q7l (fun r9 w10 q11 => ?_)
    obtain ⟨q11r, q11l, q11f⟩ := q11
    rw [q11r]
    have q11g : Frm p q w w10 := FrmT q7g q11f
    exact M.vret rfl (Nat.zero_le _) (Nat.zero_le _) ⟨rfl, q11l, q11g⟩
  refine M.run 1 (pc' := 17) (lv' := [some (vr p), some (vi o), some (vl (V (n + 1))), none, some (vl (V (n))), none, some (vl 0), none]) (st' := [vi o]) rfl ?_
  by_cases hs17_0 : o = 14
  · refine M.tswIn (tgt := 194) (off := 177) rfl (qI (by omega)) (by omega) (by omega) (by rw [hs17_0]; rfl) (by decide) ?_
    refine M.run 2 (pc' := 197) (lv' := [some (vr p), some (vi o), some (vl (V (n + 1))), none, some (vl (V (n))), none, some (vl 0), none]) (st' := [vl (V (n + 1)), vl (V (n))]) rfl ?_
    refine M.lor1 rfl (h01 (by omega)).1 (h01 (by omega)).2 ?_
    refine M.run 2 (pc' := 314) (lv' := [some (vr p), some (vi o), some (vl (V (n + 1))), none, some (vl (V (n))), none, some (vl (zb (decide (¬ V (n) = 0 ∨ ¬ V (n + 1) = 0)))), none]) (st' := []) rfl ?_
    exact tail (zb (decide (¬ V (n) = 0 ∨ ¬ V (n + 1) = 0))) (by rcases zb_01 ((decide (¬ V (n) = 0 ∨ ¬ V (n + 1) = 0))) with z | z <;> rw [z] <;> decide) (by rw [hs17_0, twoC_14]; exact clip_zb _)
  by_cases hs17_1 : o = 15
  · refine M.tswIn (tgt := 203) (off := 186) rfl (qI (by omega)) (by omega) (by omega) (by rw [hs17_1]; rfl) (by decide) ?_
    refine M.run 2 (pc' := 206) (lv' := [some (vr p), some (vi o), some (vl (V (n + 1))), none, some (vl (V (n))), none, some (vl 0), none]) (st' := [vl (V (n + 1)), vl (V (n))]) rfl ?_
    refine M.land1 rfl (h01 (by omega)).1 (h01 (by omega)).2 ?_
    refine M.run 2 (pc' := 314) (lv' := [some (vr p), some (vi o), some (vl (V (n + 1))), none, some (vl (V (n))), none, some (vl (zb (decide (¬ V (n) = 0 ∧ ¬ V (n + 1) = 0)))), none]) (st' := []) rfl ?_
    exact tail (zb (decide (¬ V (n) = 0 ∧ ¬ V (n + 1) = 0))) (by rcases zb_01 ((decide (¬ V (n) = 0 ∧ ¬ V (n + 1) = 0))) with z | z <;> rw [z] <;> decide) (by rw [hs17_1, twoC_15]; exact clip_zb _)
  by_cases hs17_2 : o = 16
  · omega
  by_cases hs17_3 : o = 17
  · omega
  by_cases hs17_4 : o = 18
  · omega
  by_cases hs17_5 : o = 19
  · omega
  by_cases hs17_6 : o = 20
  · omega
  by_cases hs17_7 : o = 21
  · omega
  by_cases hs17_8 : o = 22
  · omega
  by_cases hs17_9 : o = 23
  · omega
  by_cases hs17_10 : o = 24
  · omega
  by_cases hs17_11 : o = 25
  · omega
  by_cases hs17_12 : o = 26
  · omega
  by_cases hs17_13 : o = 27
  · omega
  by_cases hs17_14 : o = 28
  · omega
  by_cases hs17_15 : o = 29
  · omega
  by_cases hs17_16 : o = 30
  · refine M.tswIn (tgt := 212) (off := 195) rfl (qI (by omega)) (by omega) (by omega) (by rw [hs17_16]; rfl) (by decide) ?_
    refine M.run 2 (pc' := 215) (lv' := [some (vr p), some (vi o), some (vl (V (n + 1))), none, some (vl (V (n))), none, some (vl 0), none]) (st' := [vl (V (n + 1)), vl (V (n))]) rfl ?_
    refine M.lcmp rfl (qL (by omega)) (qL (by omega)) ?_
    refine M.if_ge (tgt := 223) rfl (qI (by omega)) (by decide) (fun h216 => ?_) (fun h216 => ?_)
    · skip
      replace h216 := lc_ge_t h216
      refine M.run 3 (pc' := 314) (lv' := [some (vr p), some (vi o), some (vl (V (n + 1))), none, some (vl (V (n))), none, some (vl 0), none]) (st' := []) rfl ?_
      exact tail 0 (by omega) (by rw [hs17_16, twoC_30]; exact clip_0 (by omega))
    · skip
      replace h216 := lc_ge_f h216
      refine M.run 4 (pc' := 314) (lv' := [some (vr p), some (vi o), some (vl (V (n + 1))), none, some (vl (V (n))), none, some (vl 1), none]) (st' := []) rfl ?_
      exact tail 1 (by omega) (by rw [hs17_16, twoC_30]; exact clip_1 (by omega))
  by_cases hs17_17 : o = 31
  · refine M.tswIn (tgt := 229) (off := 212) rfl (qI (by omega)) (by omega) (by omega) (by rw [hs17_17]; rfl) (by decide) ?_
    refine M.run 2 (pc' := 232) (lv' := [some (vr p), some (vi o), some (vl (V (n + 1))), none, some (vl (V (n))), none, some (vl 0), none]) (st' := [vl (V (n + 1)), vl (V (n))]) rfl ?_
    refine M.lcmp rfl (qL (by omega)) (qL (by omega)) ?_
    refine M.if_le (tgt := 240) rfl (qI (by omega)) (by decide) (fun h233 => ?_) (fun h233 => ?_)
    · skip
      replace h233 := lc_le_t h233
      refine M.run 3 (pc' := 314) (lv' := [some (vr p), some (vi o), some (vl (V (n + 1))), none, some (vl (V (n))), none, some (vl 0), none]) (st' := []) rfl ?_
      exact tail 0 (by omega) (by rw [hs17_17, twoC_31]; exact clip_0 (by omega))
    · skip
      replace h233 := lc_le_f h233
      refine M.run 4 (pc' := 314) (lv' := [some (vr p), some (vi o), some (vl (V (n + 1))), none, some (vl (V (n))), none, some (vl 1), none]) (st' := []) rfl ?_
      exact tail 1 (by omega) (by rw [hs17_17, twoC_31]; exact clip_1 (by omega))
  by_cases hs17_18 : o = 32
  · refine M.tswIn (tgt := 246) (off := 229) rfl (qI (by omega)) (by omega) (by omega) (by rw [hs17_18]; rfl) (by decide) ?_
    refine M.run 2 (pc' := 249) (lv' := [some (vr p), some (vi o), some (vl (V (n + 1))), none, some (vl (V (n))), none, some (vl 0), none]) (st' := [vl (V (n + 1)), vl (V (n))]) rfl ?_
    refine M.lcmp rfl (qL (by omega)) (qL (by omega)) ?_
    refine M.if_ne (tgt := 257) rfl (qI (by omega)) (by decide) (fun h250 => ?_) (fun h250 => ?_)
    · skip
      replace h250 := lc_ne_t h250
      refine M.run 3 (pc' := 314) (lv' := [some (vr p), some (vi o), some (vl (V (n + 1))), none, some (vl (V (n))), none, some (vl 0), none]) (st' := []) rfl ?_
      exact tail 0 (by omega) (by rw [hs17_18, twoC_32]; exact clip_0 (by omega))
    · skip
      replace h250 := lc_ne_f h250
      refine M.run 4 (pc' := 314) (lv' := [some (vr p), some (vi o), some (vl (V (n + 1))), none, some (vl (V (n))), none, some (vl 1), none]) (st' := []) rfl ?_
      exact tail 1 (by omega) (by rw [hs17_18, twoC_32]; exact clip_1 (by omega))
  by_cases hs17_19 : o = 33
  · refine M.tswIn (tgt := 263) (off := 246) rfl (qI (by omega)) (by omega) (by omega) (by rw [hs17_19]; rfl) (by decide) ?_
    refine M.run 2 (pc' := 266) (lv' := [some (vr p), some (vi o), some (vl (V (n + 1))), none, some (vl (V (n))), none, some (vl 0), none]) (st' := [vl (V (n + 1)), vl (V (n))]) rfl ?_
    refine M.lcmp rfl (qL (by omega)) (qL (by omega)) ?_
    refine M.if_eq (tgt := 274) rfl (qI (by omega)) (by decide) (fun h267 => ?_) (fun h267 => ?_)
    · skip
      replace h267 := lc_eq_t h267
      refine M.run 3 (pc' := 314) (lv' := [some (vr p), some (vi o), some (vl (V (n + 1))), none, some (vl (V (n))), none, some (vl 0), none]) (st' := []) rfl ?_
      exact tail 0 (by omega) (by rw [hs17_19, twoC_33]; exact clip_0 (by omega))
    · skip
      replace h267 := lc_eq_f h267
      refine M.run 4 (pc' := 314) (lv' := [some (vr p), some (vi o), some (vl (V (n + 1))), none, some (vl (V (n))), none, some (vl 1), none]) (st' := []) rfl ?_
      exact tail 1 (by omega) (by rw [hs17_19, twoC_33]; exact clip_1 (by omega))
  by_cases hs17_20 : o = 34
  · refine M.tswIn (tgt := 148) (off := 131) rfl (qI (by omega)) (by omega) (by omega) (by rw [hs17_20]; rfl) (by decide) ?_
    refine M.run 5 (pc' := 314) (lv' := [some (vr p), some (vi o), some (vl (V (n + 1))), none, some (vl (V (n))), none, some (vl ((V (n)) + (V (n + 1)))), none]) (st' := []) rfl ?_
    exact tail ((V (n)) + (V (n + 1))) (by omega) (by rw [hs17_20, twoC_34])
  by_cases hs17_21 : o = 35
  · refine M.tswIn (tgt := 157) (off := 140) rfl (qI (by omega)) (by omega) (by omega) (by rw [hs17_21]; rfl) (by decide) ?_
    refine M.run 5 (pc' := 314) (lv' := [some (vr p), some (vi o), some (vl (V (n + 1))), none, some (vl (V (n))), none, some (vl ((V (n)) - (V (n + 1)))), none]) (st' := []) rfl ?_
    exact tail ((V (n)) - (V (n + 1))) (by omega) (by rw [hs17_21, twoC_35])
  by_cases hs17_22 : o = 36
  · refine M.tswIn (tgt := 166) (off := 149) rfl (qI (by omega)) (by omega) (by omega) (by rw [hs17_22]; rfl) (by decide) ?_
    refine M.run 5 (pc' := 314) (lv' := [some (vr p), some (vi o), some (vl (V (n + 1))), none, some (vl (V (n))), none, some (vl ((V (n)) * (V (n + 1)))), none]) (st' := []) rfl ?_
    exact tail ((V (n)) * (V (n + 1))) (by omega) (by rw [hs17_22, twoC_36])
  by_cases hs17_23 : o = 37
  · refine M.tswIn (tgt := 175) (off := 158) rfl (qI (by omega)) (by omega) (by omega) (by rw [hs17_23]; rfl) (by decide) ?_
    refine M.run 2 (pc' := 177) (lv' := [some (vr p), some (vi o), some (vl (V (n + 1))), none, some (vl (V (n))), none, some (vl 0), none]) (st' := [vl 0, vl (V (n + 1))]) rfl ?_
    refine M.lcmp rfl (qL (by omega)) (qL (by decide)) ?_
    refine M.if_ne (tgt := 185) rfl (qI (by omega)) (by decide) (fun h178 => ?_) (fun h178 => ?_)
    · skip
      replace h178 := lc_ne_t h178
      refine M.run 2 (pc' := 188) (lv' := [some (vr p), some (vi o), some (vl (V (n + 1))), none, some (vl (V (n))), none, some (vl 0), none]) (st' := [vl (V (n + 1)), vl (V (n))]) rfl ?_
      refine M.ldiv rfl (qL (by omega)) (qL (by omega)) h178 ?_
      refine M.run 2 (pc' := 314) (lv' := [some (vr p), some (vi o), some (vl (V (n + 1))), none, some (vl (V (n))), none, some (vl ((V (n)).tdiv (V (n + 1)))), none]) (st' := []) rfl ?_
      exact tail ((V (n)).tdiv (V (n + 1))) (by omega) (by rw [hs17_23, twoC_37, if_neg h178])
    · skip
      replace h178 := lc_ne_f h178
      refine M.run 4 (pc' := 314) (lv' := [some (vr p), some (vi o), some (vl (V (n + 1))), none, some (vl (V (n))), none, some (vl 0), none]) (st' := []) rfl ?_
      exact tail 0 (by omega) (by rw [hs17_23, twoC_37, if_pos (by omega)]; exact clip_z)
  by_cases hs17_24 : o = 38
  · omega
  by_cases hs17_25 : o = 39
  · omega
  by_cases hs17_26 : o = 40
  · omega
  by_cases hs17_27 : o = 41
  · refine M.tswIn (tgt := 280) (off := 263) rfl (qI (by omega)) (by omega) (by omega) (by rw [hs17_27]; rfl) (by decide) ?_
    refine M.run 2 (pc' := 283) (lv' := [some (vr p), some (vi o), some (vl (V (n + 1))), none, some (vl (V (n))), none, some (vl 0), none]) (st' := [vl (V (n + 1)), vl (V (n))]) rfl ?_
    refine M.lcmp rfl (qL (by omega)) (qL (by omega)) ?_
    refine M.if_gt (tgt := 291) rfl (qI (by omega)) (by decide) (fun h284 => ?_) (fun h284 => ?_)
    · skip
      replace h284 := lc_gt_t h284
      refine M.run 3 (pc' := 314) (lv' := [some (vr p), some (vi o), some (vl (V (n + 1))), none, some (vl (V (n))), none, some (vl 0), none]) (st' := []) rfl ?_
      exact tail 0 (by omega) (by rw [hs17_27, twoC_41]; exact clip_0 (by omega))
    · skip
      replace h284 := lc_gt_f h284
      refine M.run 4 (pc' := 314) (lv' := [some (vr p), some (vi o), some (vl (V (n + 1))), none, some (vl (V (n))), none, some (vl 1), none]) (st' := []) rfl ?_
      exact tail 1 (by omega) (by rw [hs17_27, twoC_41]; exact clip_1 (by omega))
  by_cases hs17_28 : o = 42
  · refine M.tswIn (tgt := 297) (off := 280) rfl (qI (by omega)) (by omega) (by omega) (by rw [hs17_28]; rfl) (by decide) ?_
    refine M.run 2 (pc' := 300) (lv' := [some (vr p), some (vi o), some (vl (V (n + 1))), none, some (vl (V (n))), none, some (vl 0), none]) (st' := [vl (V (n + 1)), vl (V (n))]) rfl ?_
    refine M.lcmp rfl (qL (by omega)) (qL (by omega)) ?_
    refine M.if_lt (tgt := 308) rfl (qI (by omega)) (by decide) (fun h301 => ?_) (fun h301 => ?_)
    · skip
      replace h301 := lc_lt_t h301
      refine M.run 3 (pc' := 314) (lv' := [some (vr p), some (vi o), some (vl (V (n + 1))), none, some (vl (V (n))), none, some (vl 0), none]) (st' := []) rfl ?_
      exact tail 0 (by omega) (by rw [hs17_28, twoC_42]; exact clip_0 (by omega))
    · skip
      replace h301 := lc_lt_f h301
      refine M.run 4 (pc' := 314) (lv' := [some (vr p), some (vi o), some (vl (V (n + 1))), none, some (vl (V (n))), none, some (vl 1), none]) (st' := []) rfl ?_
      exact tail 1 (by omega) (by rw [hs17_28, twoC_42]; exact clip_1 (by omega))
  omega
