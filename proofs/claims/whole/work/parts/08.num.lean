theorem lI_lt {a b : Int} (ha : inL a) (hb : inL b) : lI a < lI b ↔ a < b := by rw [Int64.lt_iff_toInt_lt, lI_toInt ha, lI_toInt hb]
theorem lI_eq {a b : Int} (ha : inL a) (hb : inL b) : lI a = lI b ↔ a = b := by rw [← Int64.toInt_inj, lI_toInt ha, lI_toInt hb]
theorem inL_0 : inL 0 := ⟨by decide, by decide⟩
theorem lI_cmp {x z : Int} (hx : inL x) (hz : inL z) : lg_cmp (lI x) (lI z) = iI (if x < z then -1 else if x = z then 0 else 1) := by
  unfold lg_cmp
  by_cases h : x < z
  · simp [lI_lt hx hz, h, iI]
  · by_cases h2 : x = z
    · simp [lI_lt hx hz, lI_eq hx hz, h, h2, iI]
    · simp [lI_lt hx hz, lI_eq hx hz, h, h2, iI]
theorem iI_31 {b2 : Nat} (h2 : b2 < 32) : iI (b2 : Nat) &&& 31 = iI (b2 : Nat) := by
  have h : ∀ b : Fin 32, iI ((b.val : Nat) : Int) &&& 31 = iI ((b.val : Nat) : Int) := by decide +kernel
  exact h ⟨b2, h2⟩
theorem iI_31n : ∀ b : Fin 32, ((Int32.ofNat b.val &&& 31).toBitVec.smod 32).toNat = b.val := by decide +kernel
theorem iI_n (b : Nat) : iI (b : Int) = Int32.ofNat b := Int32.ofInt_eq_ofNat
theorem iI_shr {b1 b2 : Nat} (h1 : b1 < 2147483648) (h2 : b2 < 32) : iI (b1 : Nat) >>> (iI (b2 : Nat) &&& 31) = iI ((b1 >>> b2 : Nat) : Int) := by
  rw [iI_n, iI_n, iI_n]
  apply Int32.toBitVec.inj
  rw [Int32.toBitVec_shiftRight]
  have h31 : ((Int32.ofNat b2 &&& 31).toBitVec.smod 32).toNat = b2 := iI_31n ⟨b2, h2⟩
  apply BitVec.eq_of_toNat_eq
  rw [BitVec.sshiftRight_eq', h31]
  have hm : (Int32.ofNat b1).toBitVec.toNat = b1 := by
    show (BitVec.ofNat 32 b1).toNat = b1
    rw [BitVec.toNat_ofNat, Nat.mod_eq_of_lt (by omega)]
  rw [BitVec.sshiftRight_eq_of_msb_false (BitVec.msb_eq_false_iff_two_mul_lt.mpr (by rw [hm]; omega)), BitVec.toNat_ushiftRight, hm]
  show _ = (BitVec.ofNat 32 (b1 >>> b2)).toNat
  have h3 : b1 >>> b2 ≤ b1 := Nat.shiftRight_le b1 b2
  rw [BitVec.toNat_ofNat, Nat.mod_eq_of_lt (by omega)]
theorem iI_shl {b1 b2 : Nat} (h2 : b2 < 32) : iI (b1 : Nat) <<< (iI (b2 : Nat) &&& 31) = iI ((b1 <<< b2 : Nat) : Int) := by
  rw [iI_n, iI_n, iI_n]
  apply Int32.toBitVec.inj
  rw [Int32.toBitVec_shiftLeft]
  have h31 : ((Int32.ofNat b2 &&& 31).toBitVec.smod 32).toNat = b2 := iI_31n ⟨b2, h2⟩
  apply BitVec.eq_of_toNat_eq
  rw [BitVec.shiftLeft_eq', h31, BitVec.toNat_shiftLeft]
  show ((BitVec.ofNat 32 b1).toNat <<< b2) % 2 ^ 32 = (BitVec.ofNat 32 (b1 <<< b2)).toNat
  rw [BitVec.toNat_ofNat, BitVec.toNat_ofNat, Nat.shiftLeft_eq, Nat.shiftLeft_eq, Nat.mod_mul_mod]
section QNUM
variable {l : Launch} {G : GT} {y : MethodName} {cc : ByteArray} {t : Tab} {nL : Nat} {ret : Option FieldType} {d mc ms : Nat} {Qp : Option AV → Wo → Prop} {g : gF}
variable {k n : Nat} {w : Wo} {pc pc' tgt : Nat} {lv lv' : Lo} {st st' : List AV} {off x z : Int} {a : Nat}
theorem Mach.idiv (M : Mach l G y cc t nL ret d mc ms Qp g) (hq : qlk t pc = some (.idiv, 1)) (hx1 : inI x) (hz1 : inI z) (hz0 : z ≠ 0) (hov : ¬ (x = -2147483648 ∧ z = -1)) (kk : g k n w (pc + 1) lv (vi (x.tdiv z) :: st)) : g k n w pc lv (vi z :: vi x :: st) := by
  obtain ⟨p, e, s, m, args, below, meth, c, A, hx, hb, ht, hml, hr', hlk, hown, hts, hnm, hA, hAB, hB, hK, hSt, rfl⟩ := M
  intro H locs ls hP hD hS hl
  refine lv_idiv hx hb (qdec ht hq) (fun q => hz0 ((iI_eq hz1 inI_0).mp q)) ?_
  rw [show iI x / iI z = iI (x.tdiv z) from (Int32.ofInt_tdiv hx1.1 hx1.2 hz1.1 hz1.2).symm]
  exact kk H locs ls hP hD hS hl
theorem Mach.irem (M : Mach l G y cc t nL ret d mc ms Qp g) (hq : qlk t pc = some (.irem, 1)) (hx1 : inI x) (hz1 : inI z) (hz0 : z ≠ 0) (kk : g k n w (pc + 1) lv (vi (x.tmod z) :: st)) : g k n w pc lv (vi z :: vi x :: st) := by
  obtain ⟨p, e, s, m, args, below, meth, c, A, hx, hb, ht, hml, hr', hlk, hown, hts, hnm, hA, hAB, hB, hK, hSt, rfl⟩ := M
  intro H locs ls hP hD hS hl
  refine lv_irem hx hb (qdec ht hq) (fun q => hz0 ((iI_eq hz1 inI_0).mp q)) ?_
  rw [show iI x % iI z = iI (x.tmod z) from (Int32.ofInt_tmod hx1.1 hx1.2 hz1.1 hz1.2).symm]
  exact kk H locs ls hP hD hS hl
theorem Mach.ldiv (M : Mach l G y cc t nL ret d mc ms Qp g) (hq : qlk t pc = some (.ldiv, 1)) (hx1 : inL x) (hz1 : inL z) (hz0 : z ≠ 0) (kk : g k n w (pc + 1) lv (vl (x.tdiv z) :: st)) : g k n w pc lv (vl z :: vl x :: st) := by
  obtain ⟨p, e, s, m, args, below, meth, c, A, hx, hb, ht, hml, hr', hlk, hown, hts, hnm, hA, hAB, hB, hK, hSt, rfl⟩ := M
  intro H locs ls hP hD hS hl
  refine lv_ldiv hx hb (qdec ht hq) (fun q => hz0 ((lI_eq hz1 inL_0).mp q)) ?_
  rw [show lI x / lI z = lI (x.tdiv z) from (Int64.ofInt_tdiv hx1.1 hx1.2 hz1.1 hz1.2).symm]
  exact kk H locs ls hP hD hS hl
theorem Mach.lrem (M : Mach l G y cc t nL ret d mc ms Qp g) (hq : qlk t pc = some (.lrem, 1)) (hx1 : inL x) (hz1 : inL z) (hz0 : z ≠ 0) (kk : g k n w (pc + 1) lv (vl (x.tmod z) :: st)) : g k n w pc lv (vl z :: vl x :: st) := by
  obtain ⟨p, e, s, m, args, below, meth, c, A, hx, hb, ht, hml, hr', hlk, hown, hts, hnm, hA, hAB, hB, hK, hSt, rfl⟩ := M
  intro H locs ls hP hD hS hl
  refine lv_lrem hx hb (qdec ht hq) (fun q => hz0 ((lI_eq hz1 inL_0).mp q)) ?_
  rw [show lI x % lI z = lI (x.tmod z) from (Int64.ofInt_tmod hx1.1 hx1.2 hz1.1 hz1.2).symm]
  exact kk H locs ls hP hD hS hl
theorem Mach.iand (M : Mach l G y cc t nL ret d mc ms Qp g) (hq : qlk t pc = some (.iand, 1)) {b1 b2 : Nat} (h1 : b1 < 2147483648) (h2 : b2 < 2147483648) (kk : g k n w (pc + 1) lv (vi ((b1 &&& b2 : Nat) : Int) :: st)) : g k n w pc lv (vi (b2 : Nat) :: vi (b1 : Nat) :: st) := by
  obtain ⟨p, e, s, m, args, below, meth, c, A, hx, hb, ht, hml, hr', hlk, hown, hts, hnm, hA, hAB, hB, hK, hSt, rfl⟩ := M
  intro H locs ls hP hD hS hl
  refine lv_iand hx hb (qdec ht hq) ?_
  rw [show iI (b1 : Nat) &&& iI (b2 : Nat) = iI ((b1 &&& b2 : Nat) : Int) from by unfold iI; rw [Int32.ofInt_eq_ofNat, Int32.ofInt_eq_ofNat, Int32.ofInt_eq_ofNat]; exact (Int32.ofNat_and b1 b2).symm]
  exact kk H locs ls hP hD hS hl
theorem Mach.ior (M : Mach l G y cc t nL ret d mc ms Qp g) (hq : qlk t pc = some (.ior, 1)) {b1 b2 : Nat} (h1 : b1 < 2147483648) (h2 : b2 < 2147483648) (kk : g k n w (pc + 1) lv (vi ((b1 ||| b2 : Nat) : Int) :: st)) : g k n w pc lv (vi (b2 : Nat) :: vi (b1 : Nat) :: st) := by
  obtain ⟨p, e, s, m, args, below, meth, c, A, hx, hb, ht, hml, hr', hlk, hown, hts, hnm, hA, hAB, hB, hK, hSt, rfl⟩ := M
  intro H locs ls hP hD hS hl
  refine lv_ior hx hb (qdec ht hq) ?_
  rw [show iI (b1 : Nat) ||| iI (b2 : Nat) = iI ((b1 ||| b2 : Nat) : Int) from by unfold iI; rw [Int32.ofInt_eq_ofNat, Int32.ofInt_eq_ofNat, Int32.ofInt_eq_ofNat]; exact (Int32.ofNat_or b1 b2).symm]
  exact kk H locs ls hP hD hS hl
theorem Mach.ishr (M : Mach l G y cc t nL ret d mc ms Qp g) (hq : qlk t pc = some (.ishr, 1)) {b1 b2 : Nat} (h1 : b1 < 2147483648) (h2 : b2 < 32) (kk : g k n w (pc + 1) lv (vi ((b1 >>> b2 : Nat) : Int) :: st)) : g k n w pc lv (vi (b2 : Nat) :: vi (b1 : Nat) :: st) := by
  obtain ⟨p, e, s, m, args, below, meth, c, A, hx, hb, ht, hml, hr', hlk, hown, hts, hnm, hA, hAB, hB, hK, hSt, rfl⟩ := M
  intro H locs ls hP hD hS hl
  refine lv_ishr hx hb (qdec ht hq) ?_
  rw [show iI (b1 : Nat) >>> (iI (b2 : Nat) &&& 31) = iI ((b1 >>> b2 : Nat) : Int) from iI_shr h1 h2]
  exact kk H locs ls hP hD hS hl
theorem Mach.ishl (M : Mach l G y cc t nL ret d mc ms Qp g) (hq : qlk t pc = some (.ishl, 1)) {b1 b2 : Nat} (h2 : b2 < 32) (kk : g k n w (pc + 1) lv (vi ((b1 <<< b2 : Nat) : Int) :: st)) : g k n w pc lv (vi (b2 : Nat) :: vi (b1 : Nat) :: st) := by
  obtain ⟨p, e, s, m, args, below, meth, c, A, hx, hb, ht, hml, hr', hlk, hown, hts, hnm, hA, hAB, hB, hK, hSt, rfl⟩ := M
  intro H locs ls hP hD hS hl
  refine lv_ishl hx hb (qdec ht hq) ?_
  rw [show iI (b1 : Nat) <<< (iI (b2 : Nat) &&& 31) = iI ((b1 <<< b2 : Nat) : Int) from iI_shl h2]
  exact kk H locs ls hP hD hS hl
theorem Mach.i2l (M : Mach l G y cc t nL ret d mc ms Qp g) (hq : qlk t pc = some (.i2l, 1)) (hx1 : inI x) (kk : g k n w (pc + 1) lv (vl x :: st)) : g k n w pc lv (vi x :: st) := by
  obtain ⟨p, e, s, m, args, below, meth, c, A, hx, hb, ht, hml, hr', hlk, hown, hts, hnm, hA, hAB, hB, hK, hSt, rfl⟩ := M
  intro H locs ls hP hD hS hl
  refine lv_i2l hx hb (qdec ht hq) (Int32.toInt64_ofInt hx1.1 hx1.2) ?_
  exact kk H locs ls hP hD hS hl
theorem Mach.lcmp (M : Mach l G y cc t nL ret d mc ms Qp g) (hq : qlk t pc = some (.lcmp, 1)) (hx1 : inL x) (hz1 : inL z) (kk : g k n w (pc + 1) lv (vi (if x < z then -1 else if x = z then 0 else 1) :: st)) : g k n w pc lv (vl z :: vl x :: st) := by
  obtain ⟨p, e, s, m, args, below, meth, c, A, hx, hb, ht, hml, hr', hlk, hown, hts, hnm, hA, hAB, hB, hK, hSt, rfl⟩ := M
  intro H locs ls hP hD hS hl
  refine W.lcmp hx hb (qdec ht hq) ?_
  rw [show lg_cmp (lI x) (lI z) = iI (if x < z then -1 else if x = z then 0 else 1) from lI_cmp hx1 hz1]
  exact kk H locs ls hP hD hS hl
theorem Mach.ldc {idx : Nat} {v : Int32} (M : Mach l G y cc t nL ret d mc ms Qp g) (hk : Cond.constant y.cls idx v ∈ lw_g) (hq : qlk t pc = some (.ldc idx, 2)) (hv : v = iI x) (kk : g k n w (pc + 2) lv (vi x :: st)) : g k n w pc lv st := by
  obtain ⟨p, e, s, m, args, below, meth, c, A, hx, hb, ht, hml, hr', hlk, hown, hts, hnm, hA, hAB, hB, hK, hSt, rfl⟩ := M
  subst hv
  intro H locs ls hP hD hS hl
  exact lv_ldc hx hb hown (hts _ hk) (qdec ht hq) (kk H locs ls hP hD hS hl)
theorem Mach.ldc2 {idx : Nat} {v : Int64} (M : Mach l G y cc t nL ret d mc ms Qp g) (hk : Cond.constantLong y.cls idx v ∈ lw_g) (hq : qlk t pc = some (.ldc2_w idx, 3)) (hv : v = lI x) (kk : g k n w (pc + 3) lv (vl x :: st)) : g k n w pc lv st := by
  obtain ⟨p, e, s, m, args, below, meth, c, A, hx, hb, ht, hml, hr', hlk, hown, hts, hnm, hA, hAB, hB, hK, hSt, rfl⟩ := M
  subst hv
  intro H locs ls hP hD hS hl
  exact lv_ldc2 hx hb hown (hts _ hk) (qdec ht hq) (kk H locs ls hP hD hS hl)
end QNUM
