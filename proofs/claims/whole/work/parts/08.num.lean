theorem lI_lt {a b : Int} (ha : inL a) (hb : inL b) : lI a < lI b ↔ a < b := by rw [Int64.lt_iff_toInt_lt, lI_toInt ha, lI_toInt hb]
theorem lI_eq {a b : Int} (ha : inL a) (hb : inL b) : lI a = lI b ↔ a = b := by rw [← Int64.toInt_inj, lI_toInt ha, lI_toInt hb]
theorem inL_0 : inL 0 := ⟨by decide, by decide⟩
theorem lI_cmp {x z : Int} (hx : inL x) (hz : inL z) : lg_cmp (lI x) (lI z) = iI (if x < z then -1 else if x = z then 0 else 1) := by
  unfold lg_cmp
  by_cases h : x < z
  · simp [lI_lt hz hx, lI_eq hx hz, h, iI, show ¬ z < x by omega, show ¬ x = z by omega]
  · by_cases h2 : x = z
    · simp [lI_lt hz hx, lI_eq hx hz, h2, iI]
    · simp [lI_lt hz hx, lI_eq hx hz, h, h2, iI, show z < x by omega]
theorem iI_31 {b2 : Nat} (h2 : b2 < 32) : iI (b2 : Nat) &&& 31 = iI (b2 : Nat) := by
  have h : ∀ b : Fin 32, iI ((b.val : Nat) : Int) &&& 31 = iI ((b.val : Nat) : Int) := by decide +kernel
  exact h ⟨b2, h2⟩
theorem iI_31n : ∀ b : Fin 32, ((Int32.ofNat b.val &&& 31).toBitVec.smod 32).toNat = b.val := by decide +kernel
theorem iI_n (b : Nat) : iI (b : Int) = Int32.ofNat b := Int32.ofInt_eq_ofNat
theorem iI_shr {b1 b2 : Nat} (h1 : b1 < 2147483648) (h2 : b2 < 32) : iI (b1 : Nat) >>> (iI (b2 : Nat) &&& 31) = iI ((b1 >>> b2 : Nat) : Int) := by
  rw [iI_n, iI_n, iI_n]
  apply Int32.toBitVec.inj
  rw [Int32.toBitVec_shiftRight]
  have h31 : ((Int32.ofNat b2 &&& 31).toBitVec.smod 32).toNat = b2 := iI_31n ⟨b2, h2⟩
  apply BitVec.eq_of_toNat_eq
  rw [BitVec.sshiftRight_eq', h31]
  have hm : (Int32.ofNat b1).toBitVec.toNat = b1 := by
    show (BitVec.ofNat 32 b1).toNat = b1
    rw [BitVec.toNat_ofNat, Nat.mod_eq_of_lt (by omega)]
  rw [BitVec.sshiftRight_eq_of_msb_false (BitVec.msb_eq_false_iff_two_mul_lt.mpr (by rw [hm]; omega)), BitVec.toNat_ushiftRight, hm]
  show _ = (BitVec.ofNat 32 (b1 >>> b2)).toNat
  have h3 : b1 >>> b2 ≤ b1 := Nat.shiftRight_le b1 b2
  rw [BitVec.toNat_ofNat, Nat.mod_eq_of_lt (by omega)]
theorem iI_shl {b1 b2 : Nat} (h2 : b2 < 32) : iI (b1 : Nat) <<< (iI (b2 : Nat) &&& 31) = iI ((b1 <<< b2 : Nat) : Int) := by
  rw [iI_n, iI_n, iI_n]
  apply Int32.toBitVec.inj
  rw [Int32.toBitVec_shiftLeft]
  have h31 : ((Int32.ofNat b2 &&& 31).toBitVec.smod 32).toNat = b2 := iI_31n ⟨b2, h2⟩
  apply BitVec.eq_of_toNat_eq
  rw [BitVec.shiftLeft_eq', h31, BitVec.toNat_shiftLeft]
  show ((BitVec.ofNat 32 b1).toNat <<< b2) % 2 ^ 32 = (BitVec.ofNat 32 (b1 <<< b2)).toNat
  rw [BitVec.toNat_ofNat, BitVec.toNat_ofNat, Nat.shiftLeft_eq, Nat.shiftLeft_eq, Nat.mod_mul_mod]
theorem iI_tn {b : Nat} (h : b < 2147483648) : (iI (b : Int)).toBitVec.toNat = b := by
  rw [iI_n]
  show (BitVec.ofNat 32 b).toNat = b
  rw [BitVec.toNat_ofNat, Nat.mod_eq_of_lt (by omega)]
theorem iI_ext {x : Int32} {b : Nat} (h : b < 2147483648) (hx : x.toBitVec.toNat = b) : x = iI (b : Int) := Int32.toBitVec.inj (BitVec.eq_of_toNat_eq (by rw [iI_tn h]; exact hx))
theorem iI_and {b1 b2 : Nat} (h1 : b1 < 2147483648) (h2 : b2 < 2147483648) : iI (b1 : Nat) &&& iI (b2 : Nat) = iI ((b1 &&& b2 : Nat) : Int) := by
  have h3 := Nat.and_le_left (n := b1) (m := b2)
  refine iI_ext (by omega) ?_
  rw [Int32.toBitVec_and, BitVec.toNat_and, iI_tn h1, iI_tn h2]
theorem iI_or {b1 b2 : Nat} (h1 : b1 < 2147483648) (h2 : b2 < 2147483648) : iI (b1 : Nat) ||| iI (b2 : Nat) = iI ((b1 ||| b2 : Nat) : Int) := by
  have h3 : b1 ||| b2 < 2 ^ 31 := Nat.or_lt_two_pow (by omega) (by omega)
  refine iI_ext (by omega) ?_
  rw [Int32.toBitVec_or, BitVec.toNat_or, iI_tn h1, iI_tn h2]
/-- the bits of the first but of the second -/
def bDf (a b : Nat) : Nat := Nat.bitwise (fun x y => x && !y) a b
theorem bDf_bit (a b i : Nat) : (bDf a b).testBit i = (a.testBit i && !b.testBit i) := Nat.testBit_bitwise rfl a b i
theorem bDf_lt {a b k : Nat} (h : a < 2 ^ k) : bDf a b < 2 ^ k := by
  apply Nat.lt_pow_two_of_testBit
  intro i hi
  rw [bDf_bit, Nat.testBit_lt_two_pow (Nat.lt_of_lt_of_le h (Nat.pow_le_pow_right (by decide) hi))]
  rfl
theorem iI_not {b : Nat} : iI (b : Nat) ^^^ iI (-1) = iI (-(b : Int) - 1) := by
  have e3 : iI (-(b : Int) - 1) = -(iI (b : Int)) - iI 1 := by rw [iI_neg, iI_sub]
  rw [e3]
  apply Int32.toBitVec.inj
  rw [Int32.toBitVec_xor, Int32.toBitVec_sub, Int32.toBitVec_neg]
  have e1 : (iI (-1)).toBitVec = BitVec.allOnes 32 := by decide +kernel
  have e2 : (iI 1).toBitVec = 1#32 := by decide +kernel
  rw [e1, e2, BitVec.xor_allOnes, BitVec.neg_eq_not_add, BitVec.add_sub_cancel]
theorem iI_andn {b1 b2 : Nat} (h1 : b1 < 2147483648) (h2 : b2 < 2147483648) : iI (b1 : Nat) &&& iI (-(b2 : Int) - 1) = iI ((bDf b1 b2 : Nat) : Int) := by
  have h3 : bDf b1 b2 < 2 ^ 31 := bDf_lt (by omega)
  refine iI_ext (by omega) ?_
  have e1 : (iI (-1)).toBitVec = BitVec.allOnes 32 := by decide +kernel
  rw [← iI_not, Int32.toBitVec_and, Int32.toBitVec_xor, e1, BitVec.xor_allOnes]
  apply Nat.eq_of_testBit_eq
  intro i
  rw [bDf_bit, BitVec.testBit_toNat, BitVec.getLsbD_and, BitVec.getLsbD_not, ← BitVec.testBit_toNat, ← BitVec.testBit_toNat, iI_tn h1, iI_tn h2]
  by_cases hi : i < 32
  · simp [hi]
  · have : b1.testBit i = false := Nat.testBit_lt_two_pow (Nat.lt_of_lt_of_le (show b1 < 2 ^ 31 from h1) (Nat.pow_le_pow_right (by decide) (by omega)))
    simp [this]
section QNUM
variable {l : Launch} {G : GT} {y : MethodName} {cc : ByteArray} {t : Tab} {nL : Nat} {ret : Option FieldType} {d mc ms : Nat} {Qp : Option AV → Wo → Prop} {g : gF}
variable {k n : Nat} {w : Wo} {pc pc' tgt : Nat} {lv lv' : Lo} {st st' : List AV} {off x z : Int} {a : Nat}
theorem Mach.idiv (M : Mach l G y cc t nL ret d mc ms Qp g) (hq : qlk t pc = some (.idiv, 1)) (hx1 : inI x) (hz1 : inI z) (hz0 : z ≠ 0) (kk : g k n w (pc + 1) lv (vi (x.tdiv z) :: st)) : g k n w pc lv (vi z :: vi x :: st) := by
  obtain ⟨p, e, s, m, args, below, meth, c, A, hx, hb, ht, hml, hr', hlk, hown, hts, hnm, hA, hAB, hB, hK, hSt, rfl⟩ := M
  intro H locs ls hP hD hS hl
  refine lv_idiv hx hb (qdec ht hq) (fun q => hz0 ((iI_eq hz1 inI_0).mp q)) ?_
  rw [show iI x / iI z = iI (x.tdiv z) from (Int32.ofInt_tdiv hx1.1 hx1.2 hz1.1 hz1.2).symm]
  exact kk H locs ls hP hD hS hl
theorem Mach.irem (M : Mach l G y cc t nL ret d mc ms Qp g) (hq : qlk t pc = some (.irem, 1)) (hx1 : inI x) (hz1 : inI z) (hz0 : z ≠ 0) (kk : g k n w (pc + 1) lv (vi (x.tmod z) :: st)) : g k n w pc lv (vi z :: vi x :: st) := by
  obtain ⟨p, e, s, m, args, below, meth, c, A, hx, hb, ht, hml, hr', hlk, hown, hts, hnm, hA, hAB, hB, hK, hSt, rfl⟩ := M
  intro H locs ls hP hD hS hl
  refine lv_irem hx hb (qdec ht hq) (fun q => hz0 ((iI_eq hz1 inI_0).mp q)) ?_
  rw [show iI x / iI z = iI (x.tdiv z) from (Int32.ofInt_tdiv hx1.1 hx1.2 hz1.1 hz1.2).symm, iI_mul, iI_sub, show x - x.tdiv z * z = x.tmod z from by rw [Int.tmod_def, Int.mul_comm]]
  exact kk H locs ls hP hD hS hl
theorem Mach.ldiv (M : Mach l G y cc t nL ret d mc ms Qp g) (hq : qlk t pc = some (.ldiv, 1)) (hx1 : inL x) (hz1 : inL z) (hz0 : z ≠ 0) (kk : g k n w (pc + 1) lv (vl (x.tdiv z) :: st)) : g k n w pc lv (vl z :: vl x :: st) := by
  obtain ⟨p, e, s, m, args, below, meth, c, A, hx, hb, ht, hml, hr', hlk, hown, hts, hnm, hA, hAB, hB, hK, hSt, rfl⟩ := M
  intro H locs ls hP hD hS hl
  refine lv_ldiv hx hb (qdec ht hq) (fun q => hz0 ((lI_eq hz1 inL_0).mp q)) ?_
  rw [show lI x / lI z = lI (x.tdiv z) from (Int64.ofInt_tdiv hx1.1 hx1.2 hz1.1 hz1.2).symm]
  exact kk H locs ls hP hD hS hl
theorem Mach.lrem (M : Mach l G y cc t nL ret d mc ms Qp g) (hq : qlk t pc = some (.lrem, 1)) (hx1 : inL x) (hz1 : inL z) (hz0 : z ≠ 0) (kk : g k n w (pc + 1) lv (vl (x.tmod z) :: st)) : g k n w pc lv (vl z :: vl x :: st) := by
  obtain ⟨p, e, s, m, args, below, meth, c, A, hx, hb, ht, hml, hr', hlk, hown, hts, hnm, hA, hAB, hB, hK, hSt, rfl⟩ := M
  intro H locs ls hP hD hS hl
  refine lv_lrem hx hb (qdec ht hq) (fun q => hz0 ((lI_eq hz1 inL_0).mp q)) ?_
  rw [show lI x / lI z = lI (x.tdiv z) from (Int64.ofInt_tdiv hx1.1 hx1.2 hz1.1 hz1.2).symm, lI_mul, lI_sub, show x - x.tdiv z * z = x.tmod z from by rw [Int.tmod_def, Int.mul_comm]]
  exact kk H locs ls hP hD hS hl
theorem Mach.iand (M : Mach l G y cc t nL ret d mc ms Qp g) (hq : qlk t pc = some (.iand, 1)) {b1 b2 : Nat} (h1 : b1 < 2147483648) (h2 : b2 < 2147483648) (kk : g k n w (pc + 1) lv (vi ((b1 &&& b2 : Nat) : Int) :: st)) : g k n w pc lv (vi (b2 : Nat) :: vi (b1 : Nat) :: st) := by
  obtain ⟨p, e, s, m, args, below, meth, c, A, hx, hb, ht, hml, hr', hlk, hown, hts, hnm, hA, hAB, hB, hK, hSt, rfl⟩ := M
  intro H locs ls hP hD hS hl
  refine lv_iand hx hb (qdec ht hq) ?_
  rw [iI_and h1 h2]
  exact kk H locs ls hP hD hS hl
theorem Mach.ior (M : Mach l G y cc t nL ret d mc ms Qp g) (hq : qlk t pc = some (.ior, 1)) {b1 b2 : Nat} (h1 : b1 < 2147483648) (h2 : b2 < 2147483648) (kk : g k n w (pc + 1) lv (vi ((b1 ||| b2 : Nat) : Int) :: st)) : g k n w pc lv (vi (b2 : Nat) :: vi (b1 : Nat) :: st) := by
  obtain ⟨p, e, s, m, args, below, meth, c, A, hx, hb, ht, hml, hr', hlk, hown, hts, hnm, hA, hAB, hB, hK, hSt, rfl⟩ := M
  intro H locs ls hP hD hS hl
  refine lv_ior hx hb (qdec ht hq) ?_
  rw [iI_or h1 h2]
  exact kk H locs ls hP hD hS hl
theorem Mach.ishr (M : Mach l G y cc t nL ret d mc ms Qp g) (hq : qlk t pc = some (.ishr, 1)) {b1 b2 : Nat} (h1 : b1 < 2147483648) (h2 : b2 < 32) (kk : g k n w (pc + 1) lv (vi ((b1 >>> b2 : Nat) : Int) :: st)) : g k n w pc lv (vi (b2 : Nat) :: vi (b1 : Nat) :: st) := by
  obtain ⟨p, e, s, m, args, below, meth, c, A, hx, hb, ht, hml, hr', hlk, hown, hts, hnm, hA, hAB, hB, hK, hSt, rfl⟩ := M
  intro H locs ls hP hD hS hl
  refine lv_ishr hx hb (qdec ht hq) ?_
  rw [show iI (b1 : Nat) >>> (iI (b2 : Nat) &&& 31) = iI ((b1 >>> b2 : Nat) : Int) from iI_shr h1 h2]
  exact kk H locs ls hP hD hS hl
theorem Mach.ishl (M : Mach l G y cc t nL ret d mc ms Qp g) (hq : qlk t pc = some (.ishl, 1)) {b1 b2 : Nat} (h2 : b2 < 32) (kk : g k n w (pc + 1) lv (vi ((b1 <<< b2 : Nat) : Int) :: st)) : g k n w pc lv (vi (b2 : Nat) :: vi (b1 : Nat) :: st) := by
  obtain ⟨p, e, s, m, args, below, meth, c, A, hx, hb, ht, hml, hr', hlk, hown, hts, hnm, hA, hAB, hB, hK, hSt, rfl⟩ := M
  intro H locs ls hP hD hS hl
  refine lv_ishl hx hb (qdec ht hq) ?_
  rw [show iI (b1 : Nat) <<< (iI (b2 : Nat) &&& 31) = iI ((b1 <<< b2 : Nat) : Int) from iI_shl h2]
  exact kk H locs ls hP hD hS hl
theorem Mach.i2l (M : Mach l G y cc t nL ret d mc ms Qp g) (hq : qlk t pc = some (.i2l, 1)) (hx1 : inI x) (kk : g k n w (pc + 1) lv (vl x :: st)) : g k n w pc lv (vi x :: st) := by
  obtain ⟨p, e, s, m, args, below, meth, c, A, hx, hb, ht, hml, hr', hlk, hown, hts, hnm, hA, hAB, hB, hK, hSt, rfl⟩ := M
  intro H locs ls hP hD hS hl
  refine lv_i2l hx hb (qdec ht hq) (Int32.toInt64_ofInt hx1.1 hx1.2) ?_
  exact kk H locs ls hP hD hS hl
theorem Mach.lcmp (M : Mach l G y cc t nL ret d mc ms Qp g) (hq : qlk t pc = some (.lcmp, 1)) (hx1 : inL x) (hz1 : inL z) (kk : g k n w (pc + 1) lv (vi (if x < z then -1 else if x = z then 0 else 1) :: st)) : g k n w pc lv (vl z :: vl x :: st) := by
  obtain ⟨p, e, s, m, args, below, meth, c, A, hx, hb, ht, hml, hr', hlk, hown, hts, hnm, hA, hAB, hB, hK, hSt, rfl⟩ := M
  intro H locs ls hP hD hS hl
  refine W.lcmp hx hb (qdec ht hq) ?_
  rw [show lg_cmp (lI x) (lI z) = iI (if x < z then -1 else if x = z then 0 else 1) from lI_cmp hx1 hz1]
  exact kk H locs ls hP hD hS hl
theorem Mach.ldc {idx : Nat} {v : Int32} (M : Mach l G y cc t nL ret d mc ms Qp g) (hk : Cond.constant y.cls idx v ∈ lw_g) (hq : qlk t pc = some (.ldc idx, 2)) (hv : v = iI x) (kk : g k n w (pc + 2) lv (vi x :: st)) : g k n w pc lv st := by
  obtain ⟨p, e, s, m, args, below, meth, c, A, hx, hb, ht, hml, hr', hlk, hown, hts, hnm, hA, hAB, hB, hK, hSt, rfl⟩ := M
  subst hv
  intro H locs ls hP hD hS hl
  exact lv_ldc hx hb hown (hts _ hk) (qdec ht hq) (kk H locs ls hP hD hS hl)
theorem Mach.ldc2 {idx : Nat} {v : Int64} (M : Mach l G y cc t nL ret d mc ms Qp g) (hk : Cond.constantLong y.cls idx v ∈ lw_g) (hq : qlk t pc = some (.ldc2_w idx, 3)) (hv : v = lI x) (kk : g k n w (pc + 3) lv (vl x :: st)) : g k n w pc lv st := by
  obtain ⟨p, e, s, m, args, below, meth, c, A, hx, hb, ht, hml, hr', hlk, hown, hts, hnm, hA, hAB, hB, hK, hSt, rfl⟩ := M
  subst hv
  intro H locs ls hP hD hS hl
  exact lv_ldc2 hx hb hown (hts _ hk) (qdec ht hq) (kk H locs ls hP hD hS hl)
theorem Mach.ixm1 (M : Mach l G y cc t nL ret d mc ms Qp g) {b1 : Nat} (hq : qlk t pc = some (.ixor, 1)) (kk : g k n w (pc + 1) lv (vi (-(b1 : Int) - 1) :: st)) : g k n w pc lv (vi (-1) :: vi (b1 : Nat) :: st) := by
  obtain ⟨p, e, s, m, args, below, meth, c, A, hx, hb, ht, hml, hr', hlk, hown, hts, hnm, hA, hAB, hB, hK, hSt, rfl⟩ := M
  intro H locs ls hP hD hS hl
  refine lv_ixor hx hb (qdec ht hq) ?_
  rw [iI_not]
  exact kk H locs ls hP hD hS hl
theorem Mach.iandn (M : Mach l G y cc t nL ret d mc ms Qp g) {b1 b2 : Nat} (hq : qlk t pc = some (.iand, 1)) (h1 : b1 < 2147483648) (h2 : b2 < 2147483648) (kk : g k n w (pc + 1) lv (vi ((bDf b1 b2 : Nat) : Int) :: st)) : g k n w pc lv (vi (-(b2 : Int) - 1) :: vi (b1 : Nat) :: st) := by
  obtain ⟨p, e, s, m, args, below, meth, c, A, hx, hb, ht, hml, hr', hlk, hown, hts, hnm, hA, hAB, hB, hK, hSt, rfl⟩ := M
  intro H locs ls hP hD hS hl
  refine lv_iand hx hb (qdec ht hq) ?_
  rw [iI_andn h1 h2]
  exact kk H locs ls hP hD hS hl
theorem Mach.ldcw {idx : Nat} {v : Int32} (M : Mach l G y cc t nL ret d mc ms Qp g) (hk : Cond.constant y.cls idx v ∈ lw_g) (hq : qlk t pc = some (.ldc_w idx, 3)) (hv : v = iI x) (kk : g k n w (pc + 3) lv (vi x :: st)) : g k n w pc lv st := by
  obtain ⟨p, e, s, m, args, below, meth, c, A, hx, hb, ht, hml, hr', hlk, hown, hts, hnm, hA, hAB, hB, hK, hSt, rfl⟩ := M
  subst hv
  intro H locs ls hP hD hS hl
  exact lv_ldcw hx hb hown (hts _ hk) (qdec ht hq) (kk H locs ls hP hD hS hl)
end QNUM
