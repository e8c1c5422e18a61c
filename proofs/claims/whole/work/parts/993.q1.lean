/-! the reference's reader: small methods -/
section QLSH
variable {l : Launch} {G : GT} {y : MethodName} {cc : ByteArray} {t : Tab} {nL : Nat} {ret : Option FieldType} {d mc ms : Nat} {Qp : Option AV → Wo → Prop} {g : gF}
variable {k n : Nat} {w : Wo} {pc : Nat} {lv : Lo} {st : List AV}
theorem lI_n (b : Nat) : lI (b : Int) = Int64.ofNat b := Int64.ofInt_eq_ofNat
theorem lI_tn {b : Nat} (h : b < 9223372036854775808) : (lI (b : Int)).toBitVec.toNat = b := by
  rw [lI_n]
  show (BitVec.ofNat 64 b).toNat = b
  rw [BitVec.toNat_ofNat, Nat.mod_eq_of_lt (by omega)]
theorem lI_ext {x : Int64} {b : Nat} (h : b < 9223372036854775808) (hx : x.toBitVec.toNat = b) : x = lI (b : Int) := Int64.toBitVec.inj (BitVec.eq_of_toNat_eq (by rw [lI_tn h]; exact hx))
theorem Mach.lshl8 {b : Nat} (hb2 : b < 36028797018963968) (M : Mach l G y cc t nL ret d mc ms Qp g) (hq : qlk t pc = some (.lshl, 1)) (kk : g k n w (pc + 1) lv (vl ((b * 256 : Nat) : Int) :: st)) : g k n w pc lv (vi 8 :: vl (b : Nat) :: st) := by
  obtain ⟨p, e, s, m, args, below, meth, c, A, hx, hb, ht, hml, hr', hlk, hown, hts, hnm, hA, hAB, hB, hK, hSt, rfl⟩ := M
  intro H locs ls hP hD hS hl
  refine lv_lshl hx hb (qdec ht hq) (v := lI ((b * 256 : Nat) : Int)) ?_ (kk H locs ls hP hD hS hl)
  have e8 : (iI 8).toInt64 &&& 63 = 8 := by decide +kernel
  rw [e8]
  refine lI_ext (by omega) ?_
  rw [Int64.toBitVec_shiftLeft]
  have h31 : ((8 : Int64).toBitVec.smod 64) = 8#64 := by decide +kernel
  rw [h31, BitVec.shiftLeft_eq', BitVec.toNat_shiftLeft, lI_tn (by omega), Nat.shiftLeft_eq]
  show b * 2 ^ 8 % 2 ^ 64 = b * 256
  omega
theorem Mach.lor8 {b c2 : Nat} (hb2 : b < 36028797018963968) (hc2 : c2 < 256) (M : Mach l G y cc t nL ret d mc ms Qp g) (hq : qlk t pc = some (.lor, 1)) (kk : g k n w (pc + 1) lv (vl ((b * 256 + c2 : Nat) : Int) :: st)) : g k n w pc lv (vl (c2 : Nat) :: vl ((b * 256 : Nat) : Int) :: st) := by
  obtain ⟨p, e, s, m, args, below, meth, c, A, hx, hb, ht, hml, hr', hlk, hown, hts, hnm, hA, hAB, hB, hK, hSt, rfl⟩ := M
  intro H locs ls hP hD hS hl
  refine lv_lor hx hb (qdec ht hq) ?_
  have e8 : lI ((b * 256 : Nat) : Int) ||| lI (c2 : Nat) = lI ((b * 256 + c2 : Nat) : Int) := by
    refine lI_ext (by omega) ?_
    rw [Int64.toBitVec_or, BitVec.toNat_or, lI_tn (by omega), lI_tn (by omega), Nat.mul_comm b 256]
    exact (Nat.two_pow_add_eq_or_of_lt (i := 8) hc2 b).symm
  rw [e8]
  exact kk H locs ls hP hD hS hl
theorem Mach.lshr48 {b : Nat} (hb2 : b < 9223372036854775808) (M : Mach l G y cc t nL ret d mc ms Qp g) (hq : qlk t pc = some (.lshr, 1)) (kk : g k n w (pc + 1) lv (vl ((b / 281474976710656 : Nat) : Int) :: st)) : g k n w pc lv (vi 48 :: vl (b : Nat) :: st) := by
  obtain ⟨p, e, s, m, args, below, meth, c, A, hx, hb, ht, hml, hr', hlk, hown, hts, hnm, hA, hAB, hB, hK, hSt, rfl⟩ := M
  intro H locs ls hP hD hS hl
  refine lv_lshr hx hb (qdec ht hq) (v := lI ((b / 281474976710656 : Nat) : Int)) ?_ (kk H locs ls hP hD hS hl)
  have e8 : (iI 48).toInt64 &&& 63 = 48 := by decide +kernel
  rw [e8]
  have hdv : b / 281474976710656 ≤ b := Nat.div_le_self _ _
  refine lI_ext (by omega) ?_
  rw [Int64.toBitVec_shiftRight]
  have h31 : ((48 : Int64).toBitVec.smod 64) = 48#64 := by decide +kernel
  rw [h31, BitVec.sshiftRight_eq', BitVec.sshiftRight_eq_of_msb_false (BitVec.msb_eq_false_iff_two_mul_lt.mpr (by rw [lI_tn hb2]; omega)), BitVec.toNat_ushiftRight, lI_tn hb2, Nat.shiftRight_eq_div_pow]
  rfl
end QLSH
/-- the byte at a place of the tape; none -/
def byA (f : Nat → Int) (t k : Nat) : Int := if k < t then f k else -1

set_option maxHeartbeats 4000000 in
set_option maxRecDepth 100000 in
theorem kX11_isLetterByte (l : Launch) (G : GT) (x : Int) (hx : -2147483648 ≤ x ∧ x ≤ 2147483647) : Ctr l G yX11_isLetterByte cX11_isLetterByte 1 ((Option.some Jvm.ClassFile.FieldType.boolean)) 1 0 0 [vi x] (fun w => True) (fun w r w' => r = some (vi (zb (decide (isLt x)))) ∧ w' = w) := by
  refine Ctr.of (t := tX11_isLetterByte) (lv0 := [some (vi x)]) (by decide +kernel) tX11_isLetterByte_ok rfl rfl (fun w g hP M => ?_)
  refine M.run 2 (pc' := 3) (lv' := [some (vi x)]) (st' := [vi 97, vi x]) rfl ?_
  refine M.icmp_lt (tgt := 12) rfl (qI (by omega)) (qI (by decide)) (by decide) (fun h3 => ?_) (fun h3 => ?_)
  · skip
    refine M.run 2 (pc' := 15) (lv' := [some (vi x)]) (st' := [vi 65, vi x]) rfl ?_
    refine M.icmp_lt (tgt := 28) rfl (qI (by omega)) (qI (by decide)) (by decide) (fun h15 => ?_) (fun h15 => ?_)
    · skip
      refine M.run 1 (pc' := 29) (lv' := [some (vi x)]) (st' := [vi 0]) rfl ?_
      exact M.zret rfl (Or.inl rfl) (Nat.zero_le _) (Nat.zero_le _) ⟨reI (by rw [decide_eq_false (by omega)]; rfl), rfl⟩
    · skip
      refine M.run 2 (pc' := 21) (lv' := [some (vi x)]) (st' := [vi 90, vi x]) rfl ?_
      refine M.icmp_gt (tgt := 28) rfl (qI (by omega)) (qI (by decide)) (by decide) (fun h21 => ?_) (fun h21 => ?_)
      · skip
        refine M.run 1 (pc' := 29) (lv' := [some (vi x)]) (st' := [vi 0]) rfl ?_
        exact M.zret rfl (Or.inl rfl) (Nat.zero_le _) (Nat.zero_le _) ⟨reI (by rw [decide_eq_false (by omega)]; rfl), rfl⟩
      · skip
        refine M.run 2 (pc' := 29) (lv' := [some (vi x)]) (st' := [vi 1]) rfl ?_
        exact M.zret rfl (Or.inr rfl) (Nat.zero_le _) (Nat.zero_le _) ⟨reI (by rw [decide_eq_true (by omega)]; rfl), rfl⟩
  · skip
    refine M.run 2 (pc' := 9) (lv' := [some (vi x)]) (st' := [vi 122, vi x]) rfl ?_
    refine M.icmp_le (tgt := 24) rfl (qI (by omega)) (qI (by decide)) (by decide) (fun h9 => ?_) (fun h9 => ?_)
    · skip
      refine M.run 2 (pc' := 29) (lv' := [some (vi x)]) (st' := [vi 1]) rfl ?_
      exact M.zret rfl (Or.inr rfl) (Nat.zero_le _) (Nat.zero_le _) ⟨reI (by rw [decide_eq_true (by omega)]; rfl), rfl⟩
    · skip
      refine M.run 2 (pc' := 15) (lv' := [some (vi x)]) (st' := [vi 65, vi x]) rfl ?_
      refine M.icmp_lt (tgt := 28) rfl (qI (by omega)) (qI (by decide)) (by decide) (fun h15 => ?_) (fun h15 => ?_)
      · skip
        refine M.run 1 (pc' := 29) (lv' := [some (vi x)]) (st' := [vi 0]) rfl ?_
        exact M.zret rfl (Or.inl rfl) (Nat.zero_le _) (Nat.zero_le _) ⟨reI (by rw [decide_eq_false (by omega)]; rfl), rfl⟩
      · skip
        refine M.run 2 (pc' := 21) (lv' := [some (vi x)]) (st' := [vi 90, vi x]) rfl ?_
        refine M.icmp_gt (tgt := 28) rfl (qI (by omega)) (qI (by decide)) (by decide) (fun h21 => ?_) (fun h21 => ?_)
        · skip
          refine M.run 1 (pc' := 29) (lv' := [some (vi x)]) (st' := [vi 0]) rfl ?_
          exact M.zret rfl (Or.inl rfl) (Nat.zero_le _) (Nat.zero_le _) ⟨reI (by rw [decide_eq_false (by omega)]; rfl), rfl⟩
        · skip
          refine M.run 2 (pc' := 29) (lv' := [some (vi x)]) (st' := [vi 1]) rfl ?_
          exact M.zret rfl (Or.inr rfl) (Nat.zero_le _) (Nat.zero_le _) ⟨reI (by rw [decide_eq_true (by omega)]; rfl), rfl⟩
set_option maxHeartbeats 4000000 in
set_option maxRecDepth 100000 in
theorem kX11_isFigure (l : Launch) (G : GT) (x : Int) (hx : -2147483648 ≤ x ∧ x ≤ 2147483647) : Ctr l G yX11_isFigure cX11_isFigure 1 ((Option.some Jvm.ClassFile.FieldType.boolean)) 1 0 0 [vi x] (fun w => True) (fun w r w' => r = some (vi (zb (decide (isDg x)))) ∧ w' = w) := by
  refine Ctr.of (t := tX11_isFigure) (lv0 := [some (vi x)]) (by decide +kernel) tX11_isFigure_ok rfl rfl (fun w g hP M => ?_)
  refine M.run 2 (pc' := 3) (lv' := [some (vi x)]) (st' := [vi 48, vi x]) rfl ?_
  refine M.icmp_lt (tgt := 16) rfl (qI (by omega)) (qI (by decide)) (by decide) (fun h3 => ?_) (fun h3 => ?_)
  · skip
    refine M.run 1 (pc' := 17) (lv' := [some (vi x)]) (st' := [vi 0]) rfl ?_
    exact M.zret rfl (Or.inl rfl) (Nat.zero_le _) (Nat.zero_le _) ⟨reI (by rw [decide_eq_false (by omega)]; rfl), rfl⟩
  · skip
    refine M.run 2 (pc' := 9) (lv' := [some (vi x)]) (st' := [vi 57, vi x]) rfl ?_
    refine M.icmp_gt (tgt := 16) rfl (qI (by omega)) (qI (by decide)) (by decide) (fun h9 => ?_) (fun h9 => ?_)
    · skip
      refine M.run 1 (pc' := 17) (lv' := [some (vi x)]) (st' := [vi 0]) rfl ?_
      exact M.zret rfl (Or.inl rfl) (Nat.zero_le _) (Nat.zero_le _) ⟨reI (by rw [decide_eq_false (by omega)]; rfl), rfl⟩
    · skip
      refine M.run 2 (pc' := 17) (lv' := [some (vi x)]) (st' := [vi 1]) rfl ?_
      exact M.zret rfl (Or.inr rfl) (Nat.zero_le _) (Nat.zero_le _) ⟨reI (by rw [decide_eq_true (by omega)]; rfl), rfl⟩
set_option maxHeartbeats 4000000 in
set_option maxRecDepth 100000 in
theorem kX11_isSign (l : Launch) (G : GT) (x : Int) (hx : -2147483648 ≤ x ∧ x ≤ 2147483647) : Ctr l G yX11_isSign cX11_isSign 1 ((Option.some Jvm.ClassFile.FieldType.boolean)) 1 0 0 [vi x] (fun w => True) (fun w r w' => r = some (vi (zb (decide (isSg x)))) ∧ w' = w) := by
  refine Ctr.of (t := tX11_isSign) (lv0 := [some (vi x)]) (by decide +kernel) tX11_isSign_ok rfl rfl (fun w g hP M => ?_)
  refine M.run 1 (pc' := 1) (lv' := [some (vi x)]) (st' := [vi x]) rfl ?_
  by_cases hs1_0 : x = 35
  · refine M.tswIn (tgt := 128) (off := 127) rfl (qI (by omega)) (by omega) (by omega) (by rw [hs1_0]; rfl) (by decide) ?_
    refine M.run 1 (pc' := 129) (lv' := [some (vi x)]) (st' := [vi 1]) rfl ?_
    exact M.zret rfl (Or.inr rfl) (Nat.zero_le _) (Nat.zero_le _) ⟨reI (by rw [decide_eq_true (by omega)]; rfl), rfl⟩
  by_cases hs1_1 : x = 36
  · refine M.tswIn (tgt := 130) (off := 129) rfl (qI (by omega)) (by omega) (by omega) (by rw [hs1_1]; rfl) (by decide) ?_
    refine M.run 1 (pc' := 131) (lv' := [some (vi x)]) (st' := [vi 0]) rfl ?_
    exact M.zret rfl (Or.inl rfl) (Nat.zero_le _) (Nat.zero_le _) ⟨reI (by rw [decide_eq_false (by omega)]; rfl), rfl⟩
  by_cases hs1_2 : x = 37
  · refine M.tswIn (tgt := 130) (off := 129) rfl (qI (by omega)) (by omega) (by omega) (by rw [hs1_2]; rfl) (by decide) ?_
    refine M.run 1 (pc' := 131) (lv' := [some (vi x)]) (st' := [vi 0]) rfl ?_
    exact M.zret rfl (Or.inl rfl) (Nat.zero_le _) (Nat.zero_le _) ⟨reI (by rw [decide_eq_false (by omega)]; rfl), rfl⟩
  by_cases hs1_3 : x = 38
  · refine M.tswIn (tgt := 130) (off := 129) rfl (qI (by omega)) (by omega) (by omega) (by rw [hs1_3]; rfl) (by decide) ?_
    refine M.run 1 (pc' := 131) (lv' := [some (vi x)]) (st' := [vi 0]) rfl ?_
    exact M.zret rfl (Or.inl rfl) (Nat.zero_le _) (Nat.zero_le _) ⟨reI (by rw [decide_eq_false (by omega)]; rfl), rfl⟩
  by_cases hs1_4 : x = 39
  · refine M.tswIn (tgt := 130) (off := 129) rfl (qI (by omega)) (by omega) (by omega) (by rw [hs1_4]; rfl) (by decide) ?_
    refine M.run 1 (pc' := 131) (lv' := [some (vi x)]) (st' := [vi 0]) rfl ?_
    exact M.zret rfl (Or.inl rfl) (Nat.zero_le _) (Nat.zero_le _) ⟨reI (by rw [decide_eq_false (by omega)]; rfl), rfl⟩
  by_cases hs1_5 : x = 40
  · refine M.tswIn (tgt := 128) (off := 127) rfl (qI (by omega)) (by omega) (by omega) (by rw [hs1_5]; rfl) (by decide) ?_
    refine M.run 1 (pc' := 129) (lv' := [some (vi x)]) (st' := [vi 1]) rfl ?_
    exact M.zret rfl (Or.inr rfl) (Nat.zero_le _) (Nat.zero_le _) ⟨reI (by rw [decide_eq_true (by omega)]; rfl), rfl⟩
  by_cases hs1_6 : x = 41
  · refine M.tswIn (tgt := 128) (off := 127) rfl (qI (by omega)) (by omega) (by omega) (by rw [hs1_6]; rfl) (by decide) ?_
    refine M.run 1 (pc' := 129) (lv' := [some (vi x)]) (st' := [vi 1]) rfl ?_
    exact M.zret rfl (Or.inr rfl) (Nat.zero_le _) (Nat.zero_le _) ⟨reI (by rw [decide_eq_true (by omega)]; rfl), rfl⟩
  by_cases hs1_7 : x = 42
  · refine M.tswIn (tgt := 128) (off := 127) rfl (qI (by omega)) (by omega) (by omega) (by rw [hs1_7]; rfl) (by decide) ?_
    refine M.run 1 (pc' := 129) (lv' := [some (vi x)]) (st' := [vi 1]) rfl ?_
    exact M.zret rfl (Or.inr rfl) (Nat.zero_le _) (Nat.zero_le _) ⟨reI (by rw [decide_eq_true (by omega)]; rfl), rfl⟩
  by_cases hs1_8 : x = 43
  · refine M.tswIn (tgt := 128) (off := 127) rfl (qI (by omega)) (by omega) (by omega) (by rw [hs1_8]; rfl) (by decide) ?_
    refine M.run 1 (pc' := 129) (lv' := [some (vi x)]) (st' := [vi 1]) rfl ?_
    exact M.zret rfl (Or.inr rfl) (Nat.zero_le _) (Nat.zero_le _) ⟨reI (by rw [decide_eq_true (by omega)]; rfl), rfl⟩
  by_cases hs1_9 : x = 44
  · refine M.tswIn (tgt := 130) (off := 129) rfl (qI (by omega)) (by omega) (by omega) (by rw [hs1_9]; rfl) (by decide) ?_
    refine M.run 1 (pc' := 131) (lv' := [some (vi x)]) (st' := [vi 0]) rfl ?_
    exact M.zret rfl (Or.inl rfl) (Nat.zero_le _) (Nat.zero_le _) ⟨reI (by rw [decide_eq_false (by omega)]; rfl), rfl⟩
  by_cases hs1_10 : x = 45
  · refine M.tswIn (tgt := 128) (off := 127) rfl (qI (by omega)) (by omega) (by omega) (by rw [hs1_10]; rfl) (by decide) ?_
    refine M.run 1 (pc' := 129) (lv' := [some (vi x)]) (st' := [vi 1]) rfl ?_
    exact M.zret rfl (Or.inr rfl) (Nat.zero_le _) (Nat.zero_le _) ⟨reI (by rw [decide_eq_true (by omega)]; rfl), rfl⟩
  by_cases hs1_11 : x = 46
  · refine M.tswIn (tgt := 130) (off := 129) rfl (qI (by omega)) (by omega) (by omega) (by rw [hs1_11]; rfl) (by decide) ?_
    refine M.run 1 (pc' := 131) (lv' := [some (vi x)]) (st' := [vi 0]) rfl ?_
    exact M.zret rfl (Or.inl rfl) (Nat.zero_le _) (Nat.zero_le _) ⟨reI (by rw [decide_eq_false (by omega)]; rfl), rfl⟩
  by_cases hs1_12 : x = 47
  · refine M.tswIn (tgt := 128) (off := 127) rfl (qI (by omega)) (by omega) (by omega) (by rw [hs1_12]; rfl) (by decide) ?_
    refine M.run 1 (pc' := 129) (lv' := [some (vi x)]) (st' := [vi 1]) rfl ?_
    exact M.zret rfl (Or.inr rfl) (Nat.zero_le _) (Nat.zero_le _) ⟨reI (by rw [decide_eq_true (by omega)]; rfl), rfl⟩
  by_cases hs1_13 : x = 48
  · refine M.tswIn (tgt := 130) (off := 129) rfl (qI (by omega)) (by omega) (by omega) (by rw [hs1_13]; rfl) (by decide) ?_
    refine M.run 1 (pc' := 131) (lv' := [some (vi x)]) (st' := [vi 0]) rfl ?_
    exact M.zret rfl (Or.inl rfl) (Nat.zero_le _) (Nat.zero_le _) ⟨reI (by rw [decide_eq_false (by omega)]; rfl), rfl⟩
  by_cases hs1_14 : x = 49
  · refine M.tswIn (tgt := 130) (off := 129) rfl (qI (by omega)) (by omega) (by omega) (by rw [hs1_14]; rfl) (by decide) ?_
    refine M.run 1 (pc' := 131) (lv' := [some (vi x)]) (st' := [vi 0]) rfl ?_
    exact M.zret rfl (Or.inl rfl) (Nat.zero_le _) (Nat.zero_le _) ⟨reI (by rw [decide_eq_false (by omega)]; rfl), rfl⟩
  by_cases hs1_15 : x = 50
  · refine M.tswIn (tgt := 130) (off := 129) rfl (qI (by omega)) (by omega) (by omega) (by rw [hs1_15]; rfl) (by decide) ?_
    refine M.run 1 (pc' := 131) (lv' := [some (vi x)]) (st' := [vi 0]) rfl ?_
    exact M.zret rfl (Or.inl rfl) (Nat.zero_le _) (Nat.zero_le _) ⟨reI (by rw [decide_eq_false (by omega)]; rfl), rfl⟩
  by_cases hs1_16 : x = 51
  · refine M.tswIn (tgt := 130) (off := 129) rfl (qI (by omega)) (by omega) (by omega) (by rw [hs1_16]; rfl) (by decide) ?_
    refine M.run 1 (pc' := 131) (lv' := [some (vi x)]) (st' := [vi 0]) rfl ?_
    exact M.zret rfl (Or.inl rfl) (Nat.zero_le _) (Nat.zero_le _) ⟨reI (by rw [decide_eq_false (by omega)]; rfl), rfl⟩
  by_cases hs1_17 : x = 52
  · refine M.tswIn (tgt := 130) (off := 129) rfl (qI (by omega)) (by omega) (by omega) (by rw [hs1_17]; rfl) (by decide) ?_
    refine M.run 1 (pc' := 131) (lv' := [some (vi x)]) (st' := [vi 0]) rfl ?_
    exact M.zret rfl (Or.inl rfl) (Nat.zero_le _) (Nat.zero_le _) ⟨reI (by rw [decide_eq_false (by omega)]; rfl), rfl⟩
  by_cases hs1_18 : x = 53
  · refine M.tswIn (tgt := 130) (off := 129) rfl (qI (by omega)) (by omega) (by omega) (by rw [hs1_18]; rfl) (by decide) ?_
    refine M.run 1 (pc' := 131) (lv' := [some (vi x)]) (st' := [vi 0]) rfl ?_
    exact M.zret rfl (Or.inl rfl) (Nat.zero_le _) (Nat.zero_le _) ⟨reI (by rw [decide_eq_false (by omega)]; rfl), rfl⟩
  by_cases hs1_19 : x = 54
  · refine M.tswIn (tgt := 130) (off := 129) rfl (qI (by omega)) (by omega) (by omega) (by rw [hs1_19]; rfl) (by decide) ?_
    refine M.run 1 (pc' := 131) (lv' := [some (vi x)]) (st' := [vi 0]) rfl ?_
    exact M.zret rfl (Or.inl rfl) (Nat.zero_le _) (Nat.zero_le _) ⟨reI (by rw [decide_eq_false (by omega)]; rfl), rfl⟩
  by_cases hs1_20 : x = 55
  · refine M.tswIn (tgt := 130) (off := 129) rfl (qI (by omega)) (by omega) (by omega) (by rw [hs1_20]; rfl) (by decide) ?_
    refine M.run 1 (pc' := 131) (lv' := [some (vi x)]) (st' := [vi 0]) rfl ?_
    exact M.zret rfl (Or.inl rfl) (Nat.zero_le _) (Nat.zero_le _) ⟨reI (by rw [decide_eq_false (by omega)]; rfl), rfl⟩
  by_cases hs1_21 : x = 56
  · refine M.tswIn (tgt := 130) (off := 129) rfl (qI (by omega)) (by omega) (by omega) (by rw [hs1_21]; rfl) (by decide) ?_
    refine M.run 1 (pc' := 131) (lv' := [some (vi x)]) (st' := [vi 0]) rfl ?_
    exact M.zret rfl (Or.inl rfl) (Nat.zero_le _) (Nat.zero_le _) ⟨reI (by rw [decide_eq_false (by omega)]; rfl), rfl⟩
  by_cases hs1_22 : x = 57
  · refine M.tswIn (tgt := 130) (off := 129) rfl (qI (by omega)) (by omega) (by omega) (by rw [hs1_22]; rfl) (by decide) ?_
    refine M.run 1 (pc' := 131) (lv' := [some (vi x)]) (st' := [vi 0]) rfl ?_
    exact M.zret rfl (Or.inl rfl) (Nat.zero_le _) (Nat.zero_le _) ⟨reI (by rw [decide_eq_false (by omega)]; rfl), rfl⟩
  by_cases hs1_23 : x = 58
  · refine M.tswIn (tgt := 128) (off := 127) rfl (qI (by omega)) (by omega) (by omega) (by rw [hs1_23]; rfl) (by decide) ?_
    refine M.run 1 (pc' := 129) (lv' := [some (vi x)]) (st' := [vi 1]) rfl ?_
    exact M.zret rfl (Or.inr rfl) (Nat.zero_le _) (Nat.zero_le _) ⟨reI (by rw [decide_eq_true (by omega)]; rfl), rfl⟩
  by_cases hs1_24 : x = 59
  · refine M.tswIn (tgt := 128) (off := 127) rfl (qI (by omega)) (by omega) (by omega) (by rw [hs1_24]; rfl) (by decide) ?_
    refine M.run 1 (pc' := 129) (lv' := [some (vi x)]) (st' := [vi 1]) rfl ?_
    exact M.zret rfl (Or.inr rfl) (Nat.zero_le _) (Nat.zero_le _) ⟨reI (by rw [decide_eq_true (by omega)]; rfl), rfl⟩
  by_cases hs1_25 : x = 60
  · refine M.tswIn (tgt := 128) (off := 127) rfl (qI (by omega)) (by omega) (by omega) (by rw [hs1_25]; rfl) (by decide) ?_
    refine M.run 1 (pc' := 129) (lv' := [some (vi x)]) (st' := [vi 1]) rfl ?_
    exact M.zret rfl (Or.inr rfl) (Nat.zero_le _) (Nat.zero_le _) ⟨reI (by rw [decide_eq_true (by omega)]; rfl), rfl⟩
  by_cases hs1_26 : x = 61
  · refine M.tswIn (tgt := 128) (off := 127) rfl (qI (by omega)) (by omega) (by omega) (by rw [hs1_26]; rfl) (by decide) ?_
    refine M.run 1 (pc' := 129) (lv' := [some (vi x)]) (st' := [vi 1]) rfl ?_
    exact M.zret rfl (Or.inr rfl) (Nat.zero_le _) (Nat.zero_le _) ⟨reI (by rw [decide_eq_true (by omega)]; rfl), rfl⟩
  by_cases hs1_27 : x = 62
  · refine M.tswIn (tgt := 128) (off := 127) rfl (qI (by omega)) (by omega) (by omega) (by rw [hs1_27]; rfl) (by decide) ?_
    refine M.run 1 (pc' := 129) (lv' := [some (vi x)]) (st' := [vi 1]) rfl ?_
    exact M.zret rfl (Or.inr rfl) (Nat.zero_le _) (Nat.zero_le _) ⟨reI (by rw [decide_eq_true (by omega)]; rfl), rfl⟩
  refine M.tswOut (tgt := 130) rfl (qI (by omega)) (by omega) (by decide) ?_
  refine M.run 1 (pc' := 131) (lv' := [some (vi x)]) (st' := [vi 0]) rfl ?_
  exact M.zret rfl (Or.inl rfl) (Nat.zero_le _) (Nat.zero_le _) ⟨reI (by rw [decide_eq_false (by omega)]; rfl), rfl⟩
set_option maxHeartbeats 4000000 in
set_option maxRecDepth 100000 in
theorem kX11_rank (l : Launch) (G : GT) (x : Int) (hx : -2147483648 ≤ x ∧ x ≤ 2147483647) : Ctr l G yX11_rank cX11_rank 1 ((Option.some Jvm.ClassFile.FieldType.int)) 1 0 0 [vi x] (fun w => True) (fun w r w' => r = some (vi (rkO x)) ∧ w' = w) := by
  refine Ctr.of (t := tX11_rank) (lv0 := [some (vi x)]) (by decide +kernel) tX11_rank_ok rfl rfl (fun w g hP M => ?_)
  refine M.run 2 (pc' := 3) (lv' := [some (vi x)]) (st' := [vi 40, vi x]) rfl ?_
  refine M.icmp_lt (tgt := 10) rfl (qI (by omega)) (qI (by decide)) (by decide) (fun h3 => ?_) (fun h3 => ?_)
  · skip
    refine M.run 2 (pc' := 13) (lv' := [some (vi x)]) (st' := [vi 22, vi x]) rfl ?_
    refine M.icmp_ne (tgt := 20) rfl (qI (by omega)) (qI (by decide)) (by decide) (fun h13 => ?_) (fun h13 => ?_)
    · skip
      refine M.run 2 (pc' := 23) (lv' := [some (vi x)]) (st' := [vi 21, vi x]) rfl ?_
      refine M.icmp_ne (tgt := 30) rfl (qI (by omega)) (qI (by decide)) (by decide) (fun h23 => ?_) (fun h23 => ?_)
      · skip
        refine M.run 2 (pc' := 33) (lv' := [some (vi x)]) (st' := [vi 20, vi x]) rfl ?_
        refine M.icmp_ne (tgt := 40) rfl (qI (by omega)) (qI (by decide)) (by decide) (fun h33 => ?_) (fun h33 => ?_)
        · skip
          refine M.run 2 (pc' := 43) (lv' := [some (vi x)]) (st' := [vi 10, vi x]) rfl ?_
          refine M.icmp_lt (tgt := 50) rfl (qI (by omega)) (qI (by decide)) (by decide) (fun h43 => ?_) (fun h43 => ?_)
          · skip
            refine M.run 2 (pc' := 53) (lv' := [some (vi x)]) (st' := [vi 8, vi x]) rfl ?_
            refine M.icmp_lt (tgt := 61) rfl (qI (by omega)) (qI (by decide)) (by decide) (fun h53 => ?_) (fun h53 => ?_)
            · skip
              refine M.run 2 (pc' := 64) (lv' := [some (vi x)]) (st' := [vi 6, vi x]) rfl ?_
              refine M.icmp_lt (tgt := 71) rfl (qI (by omega)) (qI (by decide)) (by decide) (fun h64 => ?_) (fun h64 => ?_)
              · skip
                refine M.run 1 (pc' := 73) (lv' := [some (vi x)]) (st' := [vi 7]) rfl ?_
                exact M.iret rfl (Nat.zero_le _) (Nat.zero_le _) ⟨reI (by unfold rkO; (repeat' split) <;> omega), rfl⟩
              · skip
                refine M.run 2 (pc' := 73) (lv' := [some (vi x)]) (st' := [vi 5]) rfl ?_
                exact M.iret rfl (Nat.zero_le _) (Nat.zero_le _) ⟨reI (by unfold rkO; (repeat' split) <;> omega), rfl⟩
            · skip
              refine M.run 2 (pc' := 73) (lv' := [some (vi x)]) (st' := [vi 6]) rfl ?_
              exact M.iret rfl (Nat.zero_le _) (Nat.zero_le _) ⟨reI (by unfold rkO; (repeat' split) <;> omega), rfl⟩
          · skip
            refine M.run 2 (pc' := 73) (lv' := [some (vi x)]) (st' := [vi 4]) rfl ?_
            exact M.iret rfl (Nat.zero_le _) (Nat.zero_le _) ⟨reI (by unfold rkO; (repeat' split) <;> omega), rfl⟩
        · skip
          refine M.run 2 (pc' := 73) (lv' := [some (vi x)]) (st' := [vi 3]) rfl ?_
          exact M.iret rfl (Nat.zero_le _) (Nat.zero_le _) ⟨reI (by unfold rkO; (repeat' split) <;> omega), rfl⟩
      · skip
        refine M.run 2 (pc' := 73) (lv' := [some (vi x)]) (st' := [vi 2]) rfl ?_
        exact M.iret rfl (Nat.zero_le _) (Nat.zero_le _) ⟨reI (by unfold rkO; (repeat' split) <;> omega), rfl⟩
    · skip
      refine M.run 2 (pc' := 73) (lv' := [some (vi x)]) (st' := [vi 1]) rfl ?_
      exact M.iret rfl (Nat.zero_le _) (Nat.zero_le _) ⟨reI (by unfold rkO; (repeat' split) <;> omega), rfl⟩
  · skip
    refine M.run 2 (pc' := 73) (lv' := [some (vi x)]) (st' := [vi 0]) rfl ?_
    exact M.iret rfl (Nat.zero_le _) (Nat.zero_le _) ⟨reI (by unfold rkO; (repeat' split) <;> omega), rfl⟩
theorem kX11_w2 (l : Launch) (G : GT) (x1 x2 : Nat) (hx1 : x1 < 256) (hx2 : x2 < 256) : Ctr l G yX11_w2 cX11_w2 2 ((Option.some Jvm.ClassFile.FieldType.long)) 2 0 0 [vi (x1 : Nat), vi (x2 : Nat)] (fun w => True) (fun w r w' => r = some (vl (((x1 * 256 + x2) : Nat) : Int)) ∧ w' = w) := by
  refine Ctr.of (t := tX11_w2) (lv0 := [some (vi (x1 : Nat)), some (vi (x2 : Nat))]) (by decide +kernel) tX11_w2_ok rfl rfl (fun w g hP M => ?_)
  refine M.run 1 (pc' := 1) (lv' := [some (vi (x1 : Nat)), some (vi (x2 : Nat))]) (st' := [vi (x1 : Nat)]) rfl ?_
  refine M.i2l rfl (qI (by omega)) ?_
  refine M.run 1 (pc' := 4) (lv' := [some (vi (x1 : Nat)), some (vi (x2 : Nat))]) (st' := [vi 8, vl ((x1 : Nat) : Int)]) rfl ?_
  refine M.lshl8 (by omega) rfl ?_
  refine M.run 1 (pc' := 6) (lv' := [some (vi (x1 : Nat)), some (vi (x2 : Nat))]) (st' := [vi (x2 : Nat), vl ((x1 * 256 : Nat) : Int)]) rfl ?_
  refine M.i2l rfl (qI (by omega)) ?_
  refine M.lor8 (by omega) (by omega) rfl ?_
  exact M.lret rfl (Nat.zero_le _) (Nat.zero_le _) ⟨rfl, rfl⟩
theorem kX11_w3 (l : Launch) (G : GT) (x1 x2 x3 : Nat) (hx1 : x1 < 256) (hx2 : x2 < 256) (hx3 : x3 < 256) : Ctr l G yX11_w3 cX11_w3 3 ((Option.some Jvm.ClassFile.FieldType.long)) 3 0 0 [vi (x1 : Nat), vi (x2 : Nat), vi (x3 : Nat)] (fun w => True) (fun w r w' => r = some (vl ((((x1 * 256 + x2) * 256 + x3) : Nat) : Int)) ∧ w' = w) := by
  refine Ctr.of (t := tX11_w3) (lv0 := [some (vi (x1 : Nat)), some (vi (x2 : Nat)), some (vi (x3 : Nat))]) (by decide +kernel) tX11_w3_ok rfl rfl (fun w g hP M => ?_)
  refine M.run 2 (pc' := 2) (lv' := [some (vi (x1 : Nat)), some (vi (x2 : Nat)), some (vi (x3 : Nat))]) (st' := [vi (x2 : Nat), vi (x1 : Nat)]) rfl ?_
  refine M.callS (kX11_w2 l G x1 x2 hx1 hx2) cs_X11_114 cd_X11_w2 rfl (st := []) rfl (by decide) (by decide) rfl (Nat.zero_le _) (Nat.zero_le _) trivial (fun r1 w1 q1 => ?_)
  rw [q1.1, q1.2]
  refine M.run 1 (pc' := 7) (lv' := [some (vi (x1 : Nat)), some (vi (x2 : Nat)), some (vi (x3 : Nat))]) (st' := [vi 8, vl (((x1 * 256 + x2) : Nat) : Int)]) rfl ?_
  refine M.lshl8 (by omega) rfl ?_
  refine M.run 1 (pc' := 9) (lv' := [some (vi (x1 : Nat)), some (vi (x2 : Nat)), some (vi (x3 : Nat))]) (st' := [vi (x3 : Nat), vl (((x1 * 256 + x2) * 256 : Nat) : Int)]) rfl ?_
  refine M.i2l rfl (qI (by omega)) ?_
  refine M.lor8 (by omega) (by omega) rfl ?_
  exact M.lret rfl (Nat.zero_le _) (Nat.zero_le _) ⟨rfl, rfl⟩
theorem kX11_w4 (l : Launch) (G : GT) (x1 x2 x3 x4 : Nat) (hx1 : x1 < 256) (hx2 : x2 < 256) (hx3 : x3 < 256) (hx4 : x4 < 256) : Ctr l G yX11_w4 cX11_w4 4 ((Option.some Jvm.ClassFile.FieldType.long)) 4 0 0 [vi (x1 : Nat), vi (x2 : Nat), vi (x3 : Nat), vi (x4 : Nat)] (fun w => True) (fun w r w' => r = some (vl (((((x1 * 256 + x2) * 256 + x3) * 256 + x4) : Nat) : Int)) ∧ w' = w) := by
  refine Ctr.of (t := tX11_w4) (lv0 := [some (vi (x1 : Nat)), some (vi (x2 : Nat)), some (vi (x3 : Nat)), some (vi (x4 : Nat))]) (by decide +kernel) tX11_w4_ok rfl rfl (fun w g hP M => ?_)
  refine M.run 3 (pc' := 3) (lv' := [some (vi (x1 : Nat)), some (vi (x2 : Nat)), some (vi (x3 : Nat)), some (vi (x4 : Nat))]) (st' := [vi (x3 : Nat), vi (x2 : Nat), vi (x1 : Nat)]) rfl ?_
  refine M.callS (kX11_w3 l G x1 x2 x3 hx1 hx2 hx3) cs_X11_118 cd_X11_w3 rfl (st := []) rfl (by decide) (by decide) rfl (Nat.zero_le _) (Nat.zero_le _) trivial (fun r1 w1 q1 => ?_)
  rw [q1.1, q1.2]
  refine M.run 1 (pc' := 8) (lv' := [some (vi (x1 : Nat)), some (vi (x2 : Nat)), some (vi (x3 : Nat)), some (vi (x4 : Nat))]) (st' := [vi 8, vl ((((x1 * 256 + x2) * 256 + x3) : Nat) : Int)]) rfl ?_
  refine M.lshl8 (by omega) rfl ?_
  refine M.run 1 (pc' := 10) (lv' := [some (vi (x1 : Nat)), some (vi (x2 : Nat)), some (vi (x3 : Nat)), some (vi (x4 : Nat))]) (st' := [vi (x4 : Nat), vl ((((x1 * 256 + x2) * 256 + x3) * 256 : Nat) : Int)]) rfl ?_
  refine M.i2l rfl (qI (by omega)) ?_
  refine M.lor8 (by omega) (by omega) rfl ?_
  exact M.lret rfl (Nat.zero_le _) (Nat.zero_le _) ⟨rfl, rfl⟩
theorem kX11_w5 (l : Launch) (G : GT) (x1 x2 x3 x4 x5 : Nat) (hx1 : x1 < 256) (hx2 : x2 < 256) (hx3 : x3 < 256) (hx4 : x4 < 256) (hx5 : x5 < 256) : Ctr l G yX11_w5 cX11_w5 5 ((Option.some Jvm.ClassFile.FieldType.long)) 5 0 0 [vi (x1 : Nat), vi (x2 : Nat), vi (x3 : Nat), vi (x4 : Nat), vi (x5 : Nat)] (fun w => True) (fun w r w' => r = some (vl ((((((x1 * 256 + x2) * 256 + x3) * 256 + x4) * 256 + x5) : Nat) : Int)) ∧ w' = w) := by
  refine Ctr.of (t := tX11_w5) (lv0 := [some (vi (x1 : Nat)), some (vi (x2 : Nat)), some (vi (x3 : Nat)), some (vi (x4 : Nat)), some (vi (x5 : Nat))]) (by decide +kernel) tX11_w5_ok rfl rfl (fun w g hP M => ?_)
  refine M.run 4 (pc' := 4) (lv' := [some (vi (x1 : Nat)), some (vi (x2 : Nat)), some (vi (x3 : Nat)), some (vi (x4 : Nat)), some (vi (x5 : Nat))]) (st' := [vi (x4 : Nat), vi (x3 : Nat), vi (x2 : Nat), vi (x1 : Nat)]) rfl ?_
  refine M.callS (kX11_w4 l G x1 x2 x3 x4 hx1 hx2 hx3 hx4) cs_X11_122 cd_X11_w4 rfl (st := []) rfl (by decide) (by decide) rfl (Nat.zero_le _) (Nat.zero_le _) trivial (fun r1 w1 q1 => ?_)
  rw [q1.1, q1.2]
  refine M.run 1 (pc' := 9) (lv' := [some (vi (x1 : Nat)), some (vi (x2 : Nat)), some (vi (x3 : Nat)), some (vi (x4 : Nat)), some (vi (x5 : Nat))]) (st' := [vi 8, vl (((((x1 * 256 + x2) * 256 + x3) * 256 + x4) : Nat) : Int)]) rfl ?_
  refine M.lshl8 (by omega) rfl ?_
  refine M.run 1 (pc' := 12) (lv' := [some (vi (x1 : Nat)), some (vi (x2 : Nat)), some (vi (x3 : Nat)), some (vi (x4 : Nat)), some (vi (x5 : Nat))]) (st' := [vi (x5 : Nat), vl (((((x1 * 256 + x2) * 256 + x3) * 256 + x4) * 256 : Nat) : Int)]) rfl ?_
  refine M.i2l rfl (qI (by omega)) ?_
  refine M.lor8 (by omega) (by omega) rfl ?_
  exact M.lret rfl (Nat.zero_le _) (Nat.zero_le _) ⟨rfl, rfl⟩
theorem kX11_w6 (l : Launch) (G : GT) (x1 x2 x3 x4 x5 x6 : Nat) (hx1 : x1 < 256) (hx2 : x2 < 256) (hx3 : x3 < 256) (hx4 : x4 < 256) (hx5 : x5 < 256) (hx6 : x6 < 256) : Ctr l G yX11_w6 cX11_w6 6 ((Option.some Jvm.ClassFile.FieldType.long)) 6 0 0 [vi (x1 : Nat), vi (x2 : Nat), vi (x3 : Nat), vi (x4 : Nat), vi (x5 : Nat), vi (x6 : Nat)] (fun w => True) (fun w r w' => r = some (vl (((((((x1 * 256 + x2) * 256 + x3) * 256 + x4) * 256 + x5) * 256 + x6) : Nat) : Int)) ∧ w' = w) := by
  refine Ctr.of (t := tX11_w6) (lv0 := [some (vi (x1 : Nat)), some (vi (x2 : Nat)), some (vi (x3 : Nat)), some (vi (x4 : Nat)), some (vi (x5 : Nat)), some (vi (x6 : Nat))]) (by decide +kernel) tX11_w6_ok rfl rfl (fun w g hP M => ?_)
  refine M.run 5 (pc' := 6) (lv' := [some (vi (x1 : Nat)), some (vi (x2 : Nat)), some (vi (x3 : Nat)), some (vi (x4 : Nat)), some (vi (x5 : Nat)), some (vi (x6 : Nat))]) (st' := [vi (x5 : Nat), vi (x4 : Nat), vi (x3 : Nat), vi (x2 : Nat), vi (x1 : Nat)]) rfl ?_
  refine M.callS (kX11_w5 l G x1 x2 x3 x4 x5 hx1 hx2 hx3 hx4 hx5) cs_X11_126 cd_X11_w5 rfl (st := []) rfl (by decide) (by decide) rfl (Nat.zero_le _) (Nat.zero_le _) trivial (fun r1 w1 q1 => ?_)
  rw [q1.1, q1.2]
  refine M.run 1 (pc' := 11) (lv' := [some (vi (x1 : Nat)), some (vi (x2 : Nat)), some (vi (x3 : Nat)), some (vi (x4 : Nat)), some (vi (x5 : Nat)), some (vi (x6 : Nat))]) (st' := [vi 8, vl ((((((x1 * 256 + x2) * 256 + x3) * 256 + x4) * 256 + x5) : Nat) : Int)]) rfl ?_
  refine M.lshl8 (by omega) rfl ?_
  refine M.run 1 (pc' := 14) (lv' := [some (vi (x1 : Nat)), some (vi (x2 : Nat)), some (vi (x3 : Nat)), some (vi (x4 : Nat)), some (vi (x5 : Nat)), some (vi (x6 : Nat))]) (st' := [vi (x6 : Nat), vl ((((((x1 * 256 + x2) * 256 + x3) * 256 + x4) * 256 + x5) * 256 : Nat) : Int)]) rfl ?_
  refine M.i2l rfl (qI (by omega)) ?_
  refine M.lor8 (by omega) (by omega) rfl ?_
  exact M.lret rfl (Nat.zero_le _) (Nat.zero_le _) ⟨rfl, rfl⟩
