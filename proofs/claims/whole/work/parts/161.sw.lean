/-! switches -/
section QSW
variable {l : Launch} {G : GT} {y : MethodName} {cc : ByteArray} {t : Tab} {nL : Nat} {ret : Option FieldType} {d mc ms : Nat} {Qp : Option AV → Wo → Prop} {g : gF}
variable {k n : Nat} {w : Wo} {pc tgt : Nat} {lv : Lo} {st : List AV} {off x dflt lo hi : Int} {len : Nat}
theorem Mach.tswIn {offs : Array Int} (M : Mach l G y cc t nL ret d mc ms Qp g) (hq : qlk t pc = some (.tableswitch dflt lo hi offs, len)) (hx1 : inI x) (h1 : lo ≤ x) (h2 : x ≤ hi) (ho : offs[(x - lo).toNat]? = some off) (htg : (pc : Int) + off = (tgt : Int)) (kk : g k n w tgt lv st) : g k n w pc lv (vi x :: st) := by
  obtain ⟨p, e, s, m, args, below, meth, c, A, hx, hb, ht, hml, hr', hlk, hown, hts, hnm, hA, hAB, hB, hK, hSt, rfl⟩ := M
  intro H locs ls hP hD hS hl
  exact lv_tableIn hx hb (qdec ht hq) (by rw [iI_toInt hx1]; omega) (by rw [iI_toInt hx1]; omega) (by rw [iI_toInt hx1]; exact ho) htg (kk H locs ls hP hD hS hl)
theorem Mach.tswOut {offs : Array Int} (M : Mach l G y cc t nL ret d mc ms Qp g) (hq : qlk t pc = some (.tableswitch dflt lo hi offs, len)) (hx1 : inI x) (h1 : x < lo ∨ hi < x) (htg : (pc : Int) + dflt = (tgt : Int)) (kk : g k n w tgt lv st) : g k n w pc lv (vi x :: st) := by
  obtain ⟨p, e, s, m, args, below, meth, c, A, hx, hb, ht, hml, hr', hlk, hown, hts, hnm, hA, hAB, hB, hK, hSt, rfl⟩ := M
  intro H locs ls hP hD hS hl
  exact lv_tableOut hx hb (qdec ht hq) (by rw [iI_toInt hx1]; exact h1) htg (kk H locs ls hP hD hS hl)
theorem Mach.lsw {ps : Array (Int × Int)} (M : Mach l G y cc t nL ret d mc ms Qp g) (hq : qlk t pc = some (.lookupswitch dflt ps, len)) (hx1 : inI x) (hp : (ps.toList.zip (ps.toList.drop 1)).all (fun (a, next) => a.1 < next.1) = true) (ho : Op.lookupswitch.offset ps.toList dflt x = off) (htg : (pc : Int) + off = (tgt : Int)) (kk : g k n w tgt lv st) : g k n w pc lv (vi x :: st) := by
  obtain ⟨p, e, s, m, args, below, meth, c, A, hx, hb, ht, hml, hr', hlk, hown, hts, hnm, hA, hAB, hB, hK, hSt, rfl⟩ := M
  intro H locs ls hP hD hS hl
  exact lv_lookup hx hb (qdec ht hq) hp (by rw [iI_toInt hx1]; exact ho) htg (kk H locs ls hP hD hS hl)
end QSW
