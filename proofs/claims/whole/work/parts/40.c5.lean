theorem iI_ush {b1 b2 : Nat} (h1 : b1 < 2147483648) (h2 : b2 < 32) : ((iI (b1 : Nat)).toUInt32 >>> ((iI (b2 : Nat)).toUInt32 &&& Int32.toUInt32 31)).toInt32 = iI ((b1 >>> b2 : Nat) : Int) := by
  have h3 : b1 >>> b2 ≤ b1 := Nat.shiftRight_le b1 b2
  refine iI_ext (by omega) ?_
  show ((iI (b1 : Nat)).toUInt32 >>> ((iI (b2 : Nat)).toUInt32 &&& Int32.toUInt32 31)).toNat = _
  have e1 : (iI (b1 : Nat)).toUInt32.toNat = b1 := iI_tn h1
  have e2 : (iI (b2 : Nat)).toUInt32.toNat = b2 := iI_tn (by omega)
  have e3 : (Int32.toUInt32 31).toNat = 2 ^ 5 - 1 := by decide
  rw [UInt32.toNat_shiftRight, UInt32.toNat_and, e1, e2, e3, Nat.and_two_pow_sub_one_eq_mod, show b2 % 2 ^ 5 % 32 = b2 by omega]
section QUSH
variable {l : Launch} {G : GT} {y : MethodName} {cc : ByteArray} {t : Tab} {nL : Nat} {ret : Option FieldType} {d mc ms : Nat} {Qp : Option AV → Wo → Prop} {g : gF}
variable {k n : Nat} {w : Wo} {pc : Nat} {lv : Lo} {st : List AV}
theorem Mach.iushr (M : Mach l G y cc t nL ret d mc ms Qp g) (hq : qlk t pc = some (.iushr, 1)) {b1 b2 : Nat} (h1 : b1 < 2147483648) (h2 : b2 < 32) (kk : g k n w (pc + 1) lv (vi ((b1 >>> b2 : Nat) : Int) :: st)) : g k n w pc lv (vi (b2 : Nat) :: vi (b1 : Nat) :: st) := by
  obtain ⟨p, e, s, m, args, below, meth, c, A, hx, hb, ht, hml, hr', hlk, hown, hts, hnm, hA, hAB, hB, hK, hSt, rfl⟩ := M
  intro H locs ls hP hD hS hl
  exact lv_iushr hx hb (qdec ht hq) (iI_ush h1 h2) (kk H locs ls hP hD hS hl)
end QUSH
/-! how many bits: by halves, quarters, eighths -/
theorem and_sp (k a m b n : Nat) (ha : a < 2 ^ k) (hm : m < 2 ^ k) : (2 ^ k * b + a) &&& (2 ^ k * n + m) = 2 ^ k * (b &&& n) + (a &&& m) := by
  apply Nat.eq_of_testBit_eq
  intro j
  have hl : a &&& m < 2 ^ k := Nat.lt_of_le_of_lt Nat.and_le_left ha
  rw [Nat.testBit_and, Nat.testBit_two_pow_mul_add _ ha, Nat.testBit_two_pow_mul_add _ hm, Nat.testBit_two_pow_mul_add _ hl]
  split
  · rw [Nat.testBit_and]
  · rw [Nat.testBit_and]
def s1 (x : Nat) : Nat := x - (x >>> 1 &&& 1431655765)
def s2 (x : Nat) : Nat := (x &&& 858993459) + (x >>> 2 &&& 858993459)
def s3 (x : Nat) : Nat := x + x >>> 4 &&& 252645135
theorem and4 {a0 a1 a2 a3 m : Nat} (h0 : a0 < 256) (h1 : a1 < 256) (h2 : a2 < 256) (h3 : a3 < 256) (hm : m < 256) : (a0 + 256 * a1 + 65536 * a2 + 16777216 * a3) &&& (m + 256 * m + 65536 * m + 16777216 * m) = (a0 &&& m) + 256 * (a1 &&& m) + 65536 * (a2 &&& m) + 16777216 * (a3 &&& m) := by
  have q3 := and_sp 8 a2 m a3 m h2 hm
  have q2 := and_sp 8 a1 m (2 ^ 8 * a3 + a2) (2 ^ 8 * m + m) h1 hm
  have q1 := and_sp 8 a0 m (2 ^ 8 * (2 ^ 8 * a3 + a2) + a1) (2 ^ 8 * (2 ^ 8 * m + m) + m) h0 hm
  rw [q2, q3] at q1
  rw [show a0 + 256 * a1 + 65536 * a2 + 16777216 * a3 = 2 ^ 8 * (2 ^ 8 * (2 ^ 8 * a3 + a2) + a1) + a0 by omega, show m + 256 * m + 65536 * m + 16777216 * m = 2 ^ 8 * (2 ^ 8 * (2 ^ 8 * m + m) + m) + m by omega, q1]
  omega
def t1 (b : Nat) : Nat := b - (b / 2 &&& 85)
def t2 (b : Nat) : Nat := (b &&& 51) + (b / 4 &&& 51)
def t3 (b : Nat) : Nat := (b + b / 16) % 256 &&& 15
theorem t_all : ∀ b : Fin 256, (b.val / 2 &&& 85) ≤ b.val ∧ t1 b.val < 256 ∧ t2 (t1 b.val) < 256 ∧ (t2 (t1 b.val) % 16 ≤ 4 ∧ t2 (t1 b.val) / 16 ≤ 4) ∧ t3 (t2 (t1 b.val)) = bPcF 8 b.val ∧ ((b.val + 256) / 2 &&& 85) = (b.val / 2 &&& 85) ∧ (128 + b.val / 2 &&& 85) = (b.val / 2 &&& 85) := by decide +kernel
theorem t_q : ∀ b : Fin 256, ∀ c : Fin 4, (64 * c.val + b.val / 4 &&& 51) = (b.val / 4 &&& 51) := by decide +kernel
theorem t_n : ∀ b : Fin 256, ∀ c : Fin 16, b.val % 16 ≤ 4 → b.val / 16 ≤ 4 → ((b.val + (16 * c.val + b.val / 16)) % 256 &&& 15) = t3 b.val ∧ b.val + (16 * (c.val % 5) + b.val / 16) < 256 := by decide +kernel
theorem bPcF_add : ∀ (j k x : Nat), bPcF (j + k) x = bPcF j (x % 2 ^ j) + bPcF k (x / 2 ^ j)
  | 0, k, x => by
    rw [Nat.zero_add, Nat.pow_zero, Nat.div_one]
    exact (Nat.zero_add _).symm
  | j + 1, k, x => by
    have ih := bPcF_add j k (x / 2)
    rw [Nat.add_right_comm]
    show x % 2 + bPcF (j + k) (x / 2) = (x % 2 ^ (j + 1)) % 2 + bPcF j (x % 2 ^ (j + 1) / 2) + bPcF k (x / 2 ^ (j + 1))
    have e1 : x % 2 ^ (j + 1) % 2 = x % 2 := by rw [Nat.pow_succ, Nat.mul_comm, Nat.mod_mul_right_mod]
    have e2 : x % 2 ^ (j + 1) / 2 = x / 2 % 2 ^ j := by rw [Nat.pow_succ, Nat.mul_comm, Nat.mod_mul_right_div_self]
    have e3 : x / 2 ^ (j + 1) = x / 2 / 2 ^ j := by rw [Nat.pow_succ, Nat.mul_comm, Nat.div_div_eq_div_mul]
    rw [ih, e1, e2, e3]
    omega
theorem bPcF_8 {x k : Nat} (h : x < 2 ^ k) (hk : k ≤ 8) : bPcF 8 x = bPcF k x := by
  have e := bPcF_add k (8 - k) x
  rw [show k + (8 - k) = 8 by omega, Nat.mod_eq_of_lt h, Nat.div_eq_of_lt h, bPcF_0] at e
  omega
/-- the four bytes at once -/
theorem bc_all {b0 b1 b2 b3 : Nat} (h0 : b0 < 256) (h1 : b1 < 256) (h2 : b2 < 256) (h3 : b3 < 64) :
    let x := b0 + 256 * b1 + 65536 * b2 + 16777216 * b3
    let y := t1 b0 + 256 * t1 b1 + 65536 * t1 b2 + 16777216 * t1 b3
    let z := t2 (t1 b0) + 256 * t2 (t1 b1) + 65536 * t2 (t1 b2) + 16777216 * t2 (t1 b3)
    (x / 2 &&& 1431655765) ≤ x ∧ x - (x / 2 &&& 1431655765) = y ∧ (y &&& 858993459) + (y / 4 &&& 858993459) = z ∧ (z + z / 16 &&& 252645135) = bPcF 8 b0 + 256 * bPcF 8 b1 + 65536 * bPcF 8 b2 + 16777216 * bPcF 8 b3 := by
  obtain ⟨a0, c0, d0, e0, f0, g0, i0⟩ := t_all ⟨b0, h0⟩
  obtain ⟨a1, c1, d1, e1, f1, g1, i1⟩ := t_all ⟨b1, h1⟩
  obtain ⟨a2, c2, d2, e2, f2, g2, i2⟩ := t_all ⟨b2, h2⟩
  obtain ⟨a3, c3, d3, e3, f3, g3, i3⟩ := t_all ⟨b3, by omega⟩
  simp only [] at a0 a1 a2 a3 c0 c1 c2 c3 d0 d1 d2 d3 e0 e1 e2 e3 f0 f1 f2 f3 i0 i1 i2 i3
  have hh : ∀ b c : Nat, b < 256 → c < 2 → (128 * c + b / 2 &&& 85) = (b / 2 &&& 85) := fun b c hb hc => by
    obtain ⟨_, _, _, _, _, _, i⟩ := t_all ⟨b, hb⟩
    simp only [] at i
    rcases Nat.lt_or_ge c 1 with z | z
    · rw [show c = 0 by omega, Nat.mul_zero, Nat.zero_add]
    · rw [show c = 1 by omega]; exact i
  have q1 : ((b0 + 256 * b1 + 65536 * b2 + 16777216 * b3) / 2 &&& 1431655765) = (b0 / 2 &&& 85) + 256 * (b1 / 2 &&& 85) + 65536 * (b2 / 2 &&& 85) + 16777216 * (b3 / 2 &&& 85) := by
    rw [show (b0 + 256 * b1 + 65536 * b2 + 16777216 * b3) / 2 = (128 * (b1 % 2) + b0 / 2) + 256 * (128 * (b2 % 2) + b1 / 2) + 65536 * (128 * (b3 % 2) + b2 / 2) + 16777216 * (b3 / 2) by omega, show (1431655765 : Nat) = 85 + 256 * 85 + 65536 * 85 + 16777216 * 85 from rfl, and4 (by omega) (by omega) (by omega) (by omega) (by decide), hh b0 _ h0 (by omega), hh b1 _ h1 (by omega), hh b2 _ h2 (by omega)]
  have hy : (b0 + 256 * b1 + 65536 * b2 + 16777216 * b3) - ((b0 / 2 &&& 85) + 256 * (b1 / 2 &&& 85) + 65536 * (b2 / 2 &&& 85) + 16777216 * (b3 / 2 &&& 85)) = t1 b0 + 256 * t1 b1 + 65536 * t1 b2 + 16777216 * t1 b3 := by
    unfold t1
    omega
  have hq : ∀ b c : Nat, b < 256 → c < 4 → (64 * c + b / 4 &&& 51) = (b / 4 &&& 51) := fun b c hb hc => t_q ⟨b, hb⟩ ⟨c, hc⟩
  have hz : ((t1 b0 + 256 * t1 b1 + 65536 * t1 b2 + 16777216 * t1 b3) &&& 858993459) + ((t1 b0 + 256 * t1 b1 + 65536 * t1 b2 + 16777216 * t1 b3) / 4 &&& 858993459) = t2 (t1 b0) + 256 * t2 (t1 b1) + 65536 * t2 (t1 b2) + 16777216 * t2 (t1 b3) := by
    rw [show (t1 b0 + 256 * t1 b1 + 65536 * t1 b2 + 16777216 * t1 b3) / 4 = (64 * (t1 b1 % 4) + t1 b0 / 4) + 256 * (64 * (t1 b2 % 4) + t1 b1 / 4) + 65536 * (64 * (t1 b3 % 4) + t1 b2 / 4) + 16777216 * (t1 b3 / 4) by omega, show (858993459 : Nat) = 51 + 256 * 51 + 65536 * 51 + 16777216 * 51 from rfl, and4 c0 c1 c2 c3 (by decide), and4 (by omega) (by omega) (by omega) (by omega) (by decide), hq _ _ c0 (by omega), hq _ _ c1 (by omega), hq _ _ c2 (by omega)]
    unfold t2
    omega
  have hn : ∀ b c : Nat, b < 256 → c ≤ 4 → b % 16 ≤ 4 → b / 16 ≤ 4 → (b + (16 * c + b / 16) &&& 15) = t3 b ∧ b + (16 * c + b / 16) < 256 := fun b c hb hc hl hh2 => by
    obtain ⟨u1, u2⟩ := t_n ⟨b, hb⟩ ⟨c, by omega⟩ hl hh2
    simp only [] at u1 u2
    rw [show c % 5 = c by omega] at u2
    rw [Nat.mod_eq_of_lt u2] at u1
    exact ⟨u1, u2⟩
  have n0 := hn _ (t2 (t1 b1) % 16) d0 (by omega) e0.1 e0.2
  have n1 := hn _ (t2 (t1 b2) % 16) d1 (by omega) e1.1 e1.2
  have n2 := hn _ (t2 (t1 b3) % 16) d2 (by omega) e2.1 e2.2
  have n3 := hn _ 0 d3 (by omega) e3.1 e3.2
  have hw : ((t2 (t1 b0) + 256 * t2 (t1 b1) + 65536 * t2 (t1 b2) + 16777216 * t2 (t1 b3)) + (t2 (t1 b0) + 256 * t2 (t1 b1) + 65536 * t2 (t1 b2) + 16777216 * t2 (t1 b3)) / 16 &&& 252645135) = bPcF 8 b0 + 256 * bPcF 8 b1 + 65536 * bPcF 8 b2 + 16777216 * bPcF 8 b3 := by
    rw [show (t2 (t1 b0) + 256 * t2 (t1 b1) + 65536 * t2 (t1 b2) + 16777216 * t2 (t1 b3)) + (t2 (t1 b0) + 256 * t2 (t1 b1) + 65536 * t2 (t1 b2) + 16777216 * t2 (t1 b3)) / 16 = (t2 (t1 b0) + (16 * (t2 (t1 b1) % 16) + t2 (t1 b0) / 16)) + 256 * (t2 (t1 b1) + (16 * (t2 (t1 b2) % 16) + t2 (t1 b1) / 16)) + 65536 * (t2 (t1 b2) + (16 * (t2 (t1 b3) % 16) + t2 (t1 b2) / 16)) + 16777216 * (t2 (t1 b3) + (16 * 0 + t2 (t1 b3) / 16)) by omega,
      show (252645135 : Nat) = 15 + 256 * 15 + 65536 * 15 + 16777216 * 15 from rfl, and4 n0.2 n1.2 n2.2 n3.2 (by decide), n0.1, n1.1, n2.1, n3.1, f0, f1, f2, f3]
  refine ⟨by rw [q1]; omega, by rw [q1]; exact hy, hz, hw⟩
theorem bPc_4 {b0 b1 b2 b3 : Nat} (h0 : b0 < 256) (h1 : b1 < 256) (h2 : b2 < 256) (h3 : b3 < 64) : bPc (b0 + 256 * b1 + 65536 * b2 + 16777216 * b3) = bPcF 8 b0 + bPcF 8 b1 + bPcF 8 b2 + bPcF 8 b3 := by
  unfold bPc
  rw [show 30 = 8 + (8 + (8 + 6)) from rfl, bPcF_add, bPcF_add 8 (8 + 6), bPcF_add 8 6, bPcF_8 (x := b3) (k := 6) h3 (by decide),
    show (b0 + 256 * b1 + 65536 * b2 + 16777216 * b3) % 2 ^ 8 = b0 by omega, show (b0 + 256 * b1 + 65536 * b2 + 16777216 * b3) / 2 ^ 8 % 2 ^ 8 = b1 by omega, show (b0 + 256 * b1 + 65536 * b2 + 16777216 * b3) / 2 ^ 8 / 2 ^ 8 % 2 ^ 8 = b2 by omega, show (b0 + 256 * b1 + 65536 * b2 + 16777216 * b3) / 2 ^ 8 / 2 ^ 8 / 2 ^ 8 = b3 by omega]
  omega
