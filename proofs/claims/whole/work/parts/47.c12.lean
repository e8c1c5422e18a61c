/-- what a law's names say, in the class -/
def enC (sc tl : Nat → Int) (kd bl la : Int) : Nat → Int := fun k => if k = 0 then sc 18 else if k = 1 then sc 20 else if k = 2 then kd else if k = 3 then bl else if k = 4 then tl 6 else la
theorem enC_o {sc tl : Nat → Int} {kd bl la : Int} {k : Nat} (h : 5 ≤ k) : enC sc tl kd bl la k = la := by
  unfold enC
  rw [if_neg (by omega), if_neg (by omega), if_neg (by omega), if_neg (by omega), if_neg (by omega)]

set_option maxHeartbeats 4000000 in
set_option maxRecDepth 100000 in
theorem kX2_named (l : Launch) (G : GT) (p q n : Nat) (V : Nat → Int) (kd bl la : Int) (T A : Nat → Nat) (tl fx sc : Nat → Int) (RL : Nat → List Rw) (o : Int) (ho : 17 ≤ o ∧ o ≤ 23) : Ctr l G yX2_named cX2_named 2 ((Option.some Jvm.ClassFile.FieldType.int)) 1 0 0 [vr p, vi o] (fun w => isLa p q (T 0) (A 0) n V kd bl la w ∧ isTo T tl fx w ∧ isS2 A sc RL w) (fun w r w' => r = some (vi (enC sc tl kd bl la (o - 17).toNat)) ∧ w' = w) := by
  refine Ctr.of (t := tX2_named) (lv0 := [some (vr p), some (vi o)]) (by decide +kernel) tX2_named_ok rfl rfl (fun w g hP M => ?_)
  refine M.run 1 (pc' := 1) (lv' := [some (vr p), some (vi o)]) (st' := [vi o]) rfl ?_
  by_cases hs1_0 : o = 17
  · refine M.tswIn (tgt := 36) (off := 35) rfl (qI (by omega)) (by omega) (by omega) (by rw [hs1_0]; rfl) (by decide) ?_
    refine M.run 1 (pc' := 37) (lv' := [some (vr p), some (vi o)]) (st' := [vr p]) rfl ?_
    refine M.get fl_X2_15 rfl hP.1.1 (kf := 1) (v := vr (A 0)) rfl ?_
    refine M.get fl_X2_100 rfl hP.2.2.1 (kf := 0) (v := vi (sc 18)) rfl ?_
    exact M.iret rfl (Nat.zero_le _) (Nat.zero_le _) ⟨reI (by rw [show (o - 17).toNat = 0 by omega]; rfl), rfl⟩
  by_cases hs1_1 : o = 18
  · refine M.tswIn (tgt := 44) (off := 43) rfl (qI (by omega)) (by omega) (by omega) (by rw [hs1_1]; rfl) (by decide) ?_
    refine M.run 1 (pc' := 45) (lv' := [some (vr p), some (vi o)]) (st' := [vr p]) rfl ?_
    refine M.get fl_X2_15 rfl hP.1.1 (kf := 1) (v := vr (A 0)) rfl ?_
    refine M.get fl_X2_103 rfl hP.2.2.1 (kf := 1) (v := vi (sc 20)) rfl ?_
    exact M.iret rfl (Nat.zero_le _) (Nat.zero_le _) ⟨reI (by rw [show (o - 17).toNat = 1 by omega]; rfl), rfl⟩
  by_cases hs1_2 : o = 19
  · refine M.tswIn (tgt := 52) (off := 51) rfl (qI (by omega)) (by omega) (by omega) (by rw [hs1_2]; rfl) (by decide) ?_
    refine M.run 1 (pc' := 53) (lv' := [some (vr p), some (vi o)]) (st' := [vr p]) rfl ?_
    refine M.get fl_X2_50 rfl hP.1.1 (kf := 4) (v := vi kd) rfl ?_
    exact M.iret rfl (Nat.zero_le _) (Nat.zero_le _) ⟨reI (by rw [show (o - 17).toNat = 2 by omega]; rfl), rfl⟩
  by_cases hs1_3 : o = 20
  · refine M.tswIn (tgt := 57) (off := 56) rfl (qI (by omega)) (by omega) (by omega) (by rw [hs1_3]; rfl) (by decide) ?_
    refine M.run 1 (pc' := 58) (lv' := [some (vr p), some (vi o)]) (st' := [vr p]) rfl ?_
    refine M.get fl_X2_53 rfl hP.1.1 (kf := 5) (v := vi bl) rfl ?_
    exact M.iret rfl (Nat.zero_le _) (Nat.zero_le _) ⟨reI (by rw [show (o - 17).toNat = 3 by omega]; rfl), rfl⟩
  by_cases hs1_4 : o = 21
  · refine M.tswIn (tgt := 62) (off := 61) rfl (qI (by omega)) (by omega) (by omega) (by rw [hs1_4]; rfl) (by decide) ?_
    refine M.run 1 (pc' := 63) (lv' := [some (vr p), some (vi o)]) (st' := [vr p]) rfl ?_
    refine M.get fl_X2_9 rfl hP.1.1 (kf := 0) (v := vr (T 0)) rfl ?_
    refine M.get fl_X2_44 rfl hP.2.1.1 (kf := 6) (v := vi (tl 6)) rfl ?_
    exact M.iret rfl (Nat.zero_le _) (Nat.zero_le _) ⟨reI (by rw [show (o - 17).toNat = 4 by omega]; rfl), rfl⟩
  refine M.tswOut (tgt := 70) rfl (qI (by omega)) (by omega) (by decide) ?_
  refine M.run 1 (pc' := 71) (lv' := [some (vr p), some (vi o)]) (st' := [vr p]) rfl ?_
  refine M.get fl_X2_56 rfl hP.1.1 (kf := 6) (v := vi la) rfl ?_
  exact M.iret rfl (Nat.zero_le _) (Nat.zero_le _) ⟨reI (enC_o (by omega)).symm, rfl⟩
