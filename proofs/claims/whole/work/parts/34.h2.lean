theorem iI_shrI {x : Int} {b2 : Nat} (hx : inI x) (h2 : b2 < 32) (hr : inI (x / ((2 ^ b2 : Nat) : Int))) : iI x >>> (iI (b2 : Nat) &&& 31) = iI (x / ((2 ^ b2 : Nat) : Int)) := by
  apply Int32.toInt_inj.mp
  have h31 : ((iI (b2 : Nat) &&& 31).toBitVec.smod 32).toNat = b2 := by rw [iI_n]; exact iI_31n ⟨b2, h2⟩
  have e1 : (iI x >>> (iI (b2 : Nat) &&& 31)).toInt = (iI x).toInt >>> b2 := by
    show (iI x >>> (iI (b2 : Nat) &&& 31)).toBitVec.toInt = _
    rw [Int32.toBitVec_shiftRight, BitVec.toInt_sshiftRight', h31]
    rfl
  rw [e1, iI_toInt hx, iI_toInt hr, Int.shiftRight_eq_div_pow]
theorem iI_bn (y : Int) : (iI y).toBitVec.toNat = (y % 4294967296).toNat := by
  show (Int32.ofInt y).toBitVec.toNat = _
  rw [Int32.toBitVec_ofInt, BitVec.toNat_ofInt]
  rfl
theorem iI_255 (y : Int) : iI y &&& iI 255 = iI (y % 256) := by
  have h : iI y &&& iI ((255 : Nat) : Int) = iI (((y % 256).toNat : Nat) : Int) := by
    refine iI_ext (by omega) ?_
    rw [Int32.toBitVec_and, BitVec.toNat_and, iI_bn, iI_tn (by decide), show (255 : Nat) = 2 ^ 8 - 1 from rfl, Nat.and_two_pow_sub_one_eq_mod]
    omega
  rw [show (((y % 256).toNat : Nat) : Int) = y % 256 from Int.toNat_of_nonneg (by omega)] at h
  exact h
section QSHI
variable {l : Launch} {G : GT} {y : MethodName} {cc : ByteArray} {t : Tab} {nL : Nat} {ret : Option FieldType} {d mc ms : Nat} {Qp : Option AV → Wo → Prop} {g : gF}
variable {k n : Nat} {w : Wo} {pc : Nat} {lv : Lo} {st : List AV} {x : Int}
theorem Mach.ishrI (M : Mach l G y cc t nL ret d mc ms Qp g) (hq : qlk t pc = some (.ishr, 1)) {b2 : Nat} (hx1 : inI x) (h2 : b2 < 32) (hr : inI (x / ((2 ^ b2 : Nat) : Int))) (kk : g k n w (pc + 1) lv (vi (x / ((2 ^ b2 : Nat) : Int)) :: st)) : g k n w pc lv (vi (b2 : Nat) :: vi x :: st) := by
  obtain ⟨p, e, s, m, args, below, meth, c, A, hx, hb, ht, hml, hr', hlk, hown, hts, hnm, hA, hAB, hB, hK, hSt, rfl⟩ := M
  intro H locs ls hP hD hS hl
  refine lv_ishr hx hb (qdec ht hq) ?_
  rw [show iI x >>> (iI (b2 : Nat) &&& 31) = iI (x / ((2 ^ b2 : Nat) : Int)) from iI_shrI hx1 h2 hr]
  exact kk H locs ls hP hD hS hl
theorem Mach.iand255 (M : Mach l G y cc t nL ret d mc ms Qp g) (hq : qlk t pc = some (.iand, 1)) (kk : g k n w (pc + 1) lv (vi (x % 256) :: st)) : g k n w pc lv (vi 255 :: vi x :: st) := by
  obtain ⟨p, e, s, m, args, below, meth, c, A, hx, hb, ht, hml, hr', hlk, hown, hts, hnm, hA, hAB, hB, hK, hSt, rfl⟩ := M
  intro H locs ls hP hD hS hl
  refine lv_iand hx hb (qdec ht hq) ?_
  rw [iI_255]
  exact kk H locs ls hP hD hS hl
end QSHI
/-- four bytes of a number, the highest first -/
def fo4 (f : Nat → Int) (t : Nat) (x : Int) : Nat → Int := uN (uN (uN (uN f t (x / ((2 ^ 24 : Nat) : Int) % 256)) (t + 1) (x / ((2 ^ 16 : Nat) : Int) % 256)) (t + 2) (x / ((2 ^ 8 : Nat) : Int) % 256)) (t + 3) (x / ((2 ^ 0 : Nat) : Int) % 256)
theorem liftK {o : Nat} {am : Nat → Nat} {u tl : Nat → Int} {b0 : Nat → Nat → Int} {D : Dy} {L : List Dy} {l : Launch} {G : GT} {y : MethodName} {cc : ByteArray} {maxL : Nat} {ret : Option FieldType} {d mc ms : Nat} {av : List AV} {Q : (Nat → Int) → (Nat → Nat → Int) → Wo → Option AV → Wo → Prop} {Q2 : Wo → Option AV → Wo → Prop}
    (h : ∀ a0 a b, TE tl a0 → Rg a0 L → Rp a D → Fr a0 a → Fb b0 b → Ctr l G y cc maxL ret d mc ms av (fun w => isM o am u a b w) (Q a b)) (hQ : ∀ a0 a b w r w', TE tl a0 → Rg a0 L → Rp a D → Fr a0 a → Fb b0 b → Q a b w r w' → Q2 w r w') : Ctr l G y cc maxL ret d mc ms av (fun w => isT o am u tl b0 D L w) Q2 :=
  Ctr.mono (Ctr.exE (α := (Nat → Int) × (Nat → Int) × (Nat → Nat → Int)) (C := fun p => TE tl p.1 ∧ Rg p.1 L ∧ Rp p.2.1 D ∧ Fr p.1 p.2.1 ∧ Fb b0 p.2.2) (P := fun p w => isM o am u p.2.1 p.2.2 w) (Q := fun p => Q p.2.1 p.2.2) (Q2 := Q2) (fun p hc => h p.1 p.2.1 p.2.2 hc.1 hc.2.1 hc.2.2.1 hc.2.2.2.1 hc.2.2.2.2) (fun p w r w' hc q => hQ p.1 p.2.1 p.2.2 w r w' hc.1 hc.2.1 hc.2.2.1 hc.2.2.2.1 hc.2.2.2.2 q)) (fun w hw => by
    obtain ⟨a0, ⟨a, b, h1, h2, h3, h4⟩, h5, h6⟩ := hw
    exact ⟨(a0, a, b), ⟨h5, h6, h2, h3, h4⟩, h1⟩) (fun _ _ _ _ q => q)
/-- one number told anew -/
theorem isT_one {o : Nat} {am : Nat → Nat} {u tl : Nat → Int} {b0 b : Nat → Nat → Int} {D : Dy} {L : List Dy} {w : Wo} {n : Int} {a0 a : Nat → Int} {q : Nat} {v : Int} (hq : q < 18) (h3 : q ≠ 3) (h5 : q ≠ 5) (hd : Dok n D) (hM : isM o am u (uN a q v) b w) (hR : Rp a D) (hF : Fr a0 a) (hB : Fb b0 b) (hTE : TE tl a0) (hRg : Rg a0 L) : isT o am u (uN tl q v) b0 D L w := by
  refine isT_up2 hd hM hR hF hB hTE hRg (fun k hk => uN_o (by omega)) (fun k k1 k2 k3 => ?_) (fun k k1 k2 => ?_)
  · by_cases e : k = q
    · subst e; rw [uN_s, uN_s]
    · rw [uN_o e, uN_o e]; exact (hF k (Or.inl k1)).trans (hTE.1 k k1 k2 k3)
  · rw [uN_o (by omega), uN_o (by omega)]; exact (hF k (Or.inr k1)).trans (hTE.2 k k1 k2)
theorem isT_same {o : Nat} {am : Nat → Nat} {u tl : Nat → Int} {b0 b : Nat → Nat → Int} {D : Dy} {L : List Dy} {w : Wo} {a0 a : Nat → Int} (hM : isM o am u a b w) (hR : Rp a D) (hF : Fr a0 a) (hB : Fb b0 b) (hTE : TE tl a0) (hRg : Rg a0 L) : isT o am u tl b0 D L w := ⟨a0, ⟨a, b, hM, hR, hF, hB⟩, hTE, hRg⟩
theorem vX11_delay (l : Launch) (G : GT) (o : Nat) (am : Nat → Nat) (u tl : Nat → Int) (b0 : Nat → Nat → Int) (D : Dy) (L : List Dy) (n : Int) (hd : Dok n D) (x : Int) (hx : -2147483648 ≤ x ∧ x ≤ 2147483647) : Ctr l G yX11_delay cX11_delay 2 (Option.some Jvm.ClassFile.FieldType.boolean) 2 0 0 [vr o, vi x] (fun w => isT o am u tl b0 D L w) (fun w r w' => r = some (vi (zb (decide (1 ≤ x ∧ x ≤ 20)))) ∧ isT o am u (if 1 ≤ x ∧ x ≤ 20 then uN tl 6 x else tl) b0 D L w') := by
  refine liftK (fun a0 a b h1 h2 h3 h4 h5 => kX11_delay l G o am u a b x hx) (fun a0 a b w r w' h1 h2 h3 h4 h5 q => ⟨q.1, ?_⟩)
  have q2 := q.2
  by_cases e : 1 ≤ x ∧ x ≤ 20
  · rw [if_pos e] at q2 ⊢
    exact isT_one (by decide) (by decide) (by decide) hd q2 h3 h4 h5 h1 h2
  · rw [if_neg e] at q2 ⊢
    exact isT_same q2 h3 h4 h5 h1 h2
theorem vX11_size (l : Launch) (G : GT) (o : Nat) (am : Nat → Nat) (u tl : Nat → Int) (b0 : Nat → Nat → Int) (D : Dy) (L : List Dy) (n : Int) (hd : Dok n D) (x : Int) (hx : -2147483648 ≤ x ∧ x ≤ 2147483647) : Ctr l G yX11_size cX11_size 2 (Option.some Jvm.ClassFile.FieldType.boolean) 2 0 0 [vr o, vi x] (fun w => isT o am u tl b0 D L w) (fun w r w' => r = some (vi (zb (decide (1 ≤ x ∧ x ≤ 9)))) ∧ isT o am u (if 1 ≤ x ∧ x ≤ 9 then uN tl 7 x else tl) b0 D L w') := by
  refine liftK (fun a0 a b h1 h2 h3 h4 h5 => kX11_size l G o am u a b x hx) (fun a0 a b w r w' h1 h2 h3 h4 h5 q => ⟨q.1, ?_⟩)
  have q2 := q.2
  by_cases e : 1 ≤ x ∧ x ≤ 9
  · rw [if_pos e] at q2 ⊢
    exact isT_one (by decide) (by decide) (by decide) hd q2 h3 h4 h5 h1 h2
  · rw [if_neg e] at q2 ⊢
    exact isT_same q2 h3 h4 h5 h1 h2
theorem vX11_tries (l : Launch) (G : GT) (o : Nat) (am : Nat → Nat) (u tl : Nat → Int) (b0 : Nat → Nat → Int) (D : Dy) (L : List Dy) (n : Int) (hd : Dok n D) (x : Int) (hx : -2147483648 ≤ x ∧ x ≤ 2147483647) : Ctr l G yX11_tries cX11_tries 2 (Option.some Jvm.ClassFile.FieldType.boolean) 2 0 0 [vr o, vi x] (fun w => isT o am u tl b0 D L w) (fun w r w' => r = some (vi (zb (decide (0 ≤ x ∧ x ≤ 9)))) ∧ isT o am u (if 0 ≤ x ∧ x ≤ 9 then uN tl 8 x else tl) b0 D L w') := by
  refine liftK (fun a0 a b h1 h2 h3 h4 h5 => kX11_tries l G o am u a b x hx) (fun a0 a b w r w' h1 h2 h3 h4 h5 q => ⟨q.1, ?_⟩)
  have q2 := q.2
  by_cases e : 0 ≤ x ∧ x ≤ 9
  · rw [if_pos e] at q2 ⊢
    exact isT_one (by decide) (by decide) (by decide) hd q2 h3 h4 h5 h1 h2
  · rw [if_neg e] at q2 ⊢
    exact isT_same q2 h3 h4 h5 h1 h2
theorem vX11_window (l : Launch) (G : GT) (o : Nat) (am : Nat → Nat) (u tl : Nat → Int) (b0 : Nat → Nat → Int) (D : Dy) (L : List Dy) (n : Int) (hd : Dok n D) (x f z : Int) (hx : -2147483648 ≤ x ∧ x ≤ 2147483647) (hf : -2147483648 ≤ f ∧ f ≤ 2147483647) (hz : -2147483648 ≤ z ∧ z ≤ 2147483647) : Ctr l G yX11_window cX11_window 4 (Option.some Jvm.ClassFile.FieldType.boolean) 2 0 0 [vr o, vi x, vi f, vi z] (fun w => isT o am u tl b0 D L w) (fun w r w' => r = some (vi (zb (decide ((1 ≤ x ∧ x ≤ 60) ∧ (0 ≤ z ∧ z ≤ x) ∧ 0 ≤ f ∧ f ≤ z - 1)))) ∧ isT o am u (if (1 ≤ x ∧ x ≤ 60) ∧ (0 ≤ z ∧ z ≤ x) ∧ 0 ≤ f ∧ f ≤ z - 1 then uN (uN (uN tl 9 x) 10 f) 11 z else tl) b0 D L w') := by
  refine liftK (fun a0 a b h1 h2 h3 h4 h5 => kX11_window l G o am u a b x f z hx hf hz) (fun a0 a b w r w' h1 h2 h3 h4 h5 q => ⟨q.1, ?_⟩)
  have q2 := q.2
  by_cases e : (1 ≤ x ∧ x ≤ 60) ∧ (0 ≤ z ∧ z ≤ x) ∧ 0 ≤ f ∧ f ≤ z - 1
  · rw [if_pos e] at q2 ⊢
    refine isT_up2 hd q2 h3 h4 h5 h1 h2 (fun k hk => ?_) (fun k k1 k2 k3 => ?_) (fun k k1 k2 => ?_)
    · rw [uN_o (by omega), uN_o (by omega), uN_o (by omega)]
    · by_cases e1 : k = 11
      · subst e1; rw [uN_s, uN_s]
      · rw [uN_o e1, uN_o e1]
        by_cases e2 : k = 10
        · subst e2; rw [uN_s, uN_s]
        · rw [uN_o e2, uN_o e2]
          by_cases e3 : k = 9
          · subst e3; rw [uN_s, uN_s]
          · rw [uN_o e3, uN_o e3]; exact (h4 k (Or.inl k1)).trans (h1.1 k k1 k2 k3)
    · rw [uN_o (by omega), uN_o (by omega), uN_o (by omega), uN_o (by omega), uN_o (by omega), uN_o (by omega)]; exact (h4 k (Or.inr k1)).trans (h1.2 k k1 k2)
  · rw [if_neg e] at q2 ⊢
    exact isT_same q2 h3 h4 h5 h1 h2

set_option maxHeartbeats 4000000 in
set_option maxRecDepth 100000 in
theorem kX11_four (l : Launch) (G : GT) (o : Nat) (am : Nat → Nat) (u a : Nat → Int) (b : Nat → Nat → Int) (x : Int) (hx : -2147483648 ≤ x ∧ x ≤ 2147483647) (t : Nat) (hu4 : u 4 = ((t : Nat) : Int)) (ht : t + 4 ≤ 300) : Ctr l G yX11_four cX11_four 3 ((Option.none : Option Jvm.ClassFile.FieldType)) 1 0 0 [vr o, vi x] (fun w => isM o am u a b w) (fun w r w' => r = none ∧ isM o am (uN u 4 (((t + 4 : Nat)) : Int)) a (uB b 3 (fo4 (b 3) t x)) w') := by
  refine Ctr.of (t := tX11_four) (lv0 := [some (vr o), some (vi x), none]) (by decide +kernel) tX11_four_ok rfl rfl (fun w g hP M => ?_)
  have hM := hP
  refine M.run 3 (pc' := 4) (lv' := [some (vr o), some (vi x), some (vi 24)]) (st' := [vi 24]) rfl ?_
  refine M.if_lt (tgt := 39) rfl (qI (by decide)) (by decide) (fun q => absurd q (by decide)) (fun _ => ?_)
  refine M.run 1 (pc' := 8) (lv' := [some (vr o), some (vi x), some (vi 24)]) (st' := [vr o]) rfl ?_
  refine M.get fl_X11_19 rfl (isM_o hM) (kf := 3) (v := vr (am 3)) rfl ?_
  refine M.run 1 (pc' := 12) (lv' := [some (vr o), some (vi x), some (vi 24)]) (st' := [vr o, vr (am 3)]) rfl ?_
  refine M.get fl_X11_75 rfl (isM_o hM) (kf := 4) (v := vi (u 4)) rfl ?_
  rw [show u 4 = ((t : Nat) : Int) from by omega]
  refine M.run 2 (pc' := 17) (lv' := [some (vr o), some (vi x), some (vi 24)]) (st' := [vi 24, vi x, vi ((t : Nat) : Int), vr (am 3)]) rfl ?_
  refine M.ishrI (b2 := 24) rfl (qI (by omega)) (by decide) ⟨by omega, by omega⟩ ?_
  refine M.run 1 (pc' := 21) (lv' := [some (vr o), some (vi x), some (vi 24)]) (st' := [vi 255, vi (x / ((2 ^ 24 : Nat) : Int)), vi ((t : Nat) : Int), vr (am 3)]) rfl ?_
  refine M.iand255 rfl ?_
  refine M.iastN (t) rfl (isM_3 hM) (by omega) (by decide) ?_
  have hM2 := isM_setB (k := 3) (t := 0) (n := 300) hM (by decide) (uN (b 3) t ((x / ((2 ^ 24 : Nat) : Int)) % 256))
  generalize up w (am 3) (Ar 0 300 (uN (b 3) t ((x / ((2 ^ 24 : Nat) : Int)) % 256))) = w1 at hM2 ⊢
  refine M.run 2 (pc' := 25) (lv' := [some (vr o), some (vi x), some (vi 24)]) (st' := [vr o, vr o]) rfl ?_
  refine M.get fl_X11_75 rfl (isM_o hM2) (kf := 4) (v := vi (u 4)) rfl ?_
  refine M.run 2 (pc' := 30) (lv' := [some (vr o), some (vi x), some (vi 24)]) (st' := [vi ((u 4) + 1), vr o]) rfl ?_
  refine M.put fl_X11_75 rfl (isM_o hM2) rfl rfl (Nat.le_of_ble_eq_true rfl) ?_
  have hM4 := isM_setU (u' := uN u 4 ((u 4) + 1)) (fs := (Mf am u).set 4 (vi ((u 4) + 1))) hM2 rfl
  generalize up w1 o (Ob 10 ((Mf am u).set 4 (vi ((u 4) + 1)))) = w3 at hM4 ⊢
  refine M.run 3 (pc' := 4) (lv' := [some (vr o), some (vi x), some (vi 16)]) (st' := [vi 16]) rfl ?_
  refine M.if_lt (tgt := 39) rfl (qI (by decide)) (by decide) (fun q => absurd q (by decide)) (fun _ => ?_)
  refine M.run 1 (pc' := 8) (lv' := [some (vr o), some (vi x), some (vi 16)]) (st' := [vr o]) rfl ?_
  refine M.get fl_X11_19 rfl (isM_o hM4) (kf := 3) (v := vr (am 3)) rfl ?_
  refine M.run 1 (pc' := 12) (lv' := [some (vr o), some (vi x), some (vi 16)]) (st' := [vr o, vr (am 3)]) rfl ?_
  refine M.get fl_X11_75 rfl (isM_o hM4) (kf := 4) (v := vi ((u 4) + 1)) rfl ?_
  rw [show (u 4) + 1 = ((t + 1 : Nat) : Int) from by omega]
  refine M.run 2 (pc' := 17) (lv' := [some (vr o), some (vi x), some (vi 16)]) (st' := [vi 16, vi x, vi ((t + 1 : Nat) : Int), vr (am 3)]) rfl ?_
  refine M.ishrI (b2 := 16) rfl (qI (by omega)) (by decide) ⟨by omega, by omega⟩ ?_
  refine M.run 1 (pc' := 21) (lv' := [some (vr o), some (vi x), some (vi 16)]) (st' := [vi 255, vi (x / ((2 ^ 16 : Nat) : Int)), vi ((t + 1 : Nat) : Int), vr (am 3)]) rfl ?_
  refine M.iand255 rfl ?_
  refine M.iastN (t + 1) rfl (show lk w3 (am 3) = some (Ar 0 300 (uN (b 3) t ((x / ((2 ^ 24 : Nat) : Int)) % 256))) from isM_3 hM4) (by omega) (by decide) ?_
  have hM6 := isM_setB (k := 3) (t := 0) (n := 300) hM4 (by decide) (uN (uN (b 3) t ((x / ((2 ^ 24 : Nat) : Int)) % 256)) (t + 1) ((x / ((2 ^ 16 : Nat) : Int)) % 256))
  generalize up w3 (am 3) (Ar 0 300 (uN (uN (b 3) t ((x / ((2 ^ 24 : Nat) : Int)) % 256)) (t + 1) ((x / ((2 ^ 16 : Nat) : Int)) % 256))) = w5 at hM6 ⊢
  refine M.run 2 (pc' := 25) (lv' := [some (vr o), some (vi x), some (vi 16)]) (st' := [vr o, vr o]) rfl ?_
  refine M.get fl_X11_75 rfl (isM_o hM6) (kf := 4) (v := vi ((u 4) + 1)) rfl ?_
  refine M.run 2 (pc' := 30) (lv' := [some (vr o), some (vi x), some (vi 16)]) (st' := [vi (((u 4) + 1) + 1), vr o]) rfl ?_
  refine M.put fl_X11_75 rfl (isM_o hM6) rfl rfl (Nat.le_of_ble_eq_true rfl) ?_
  have hM8 := isM_setU (u' := uN (uN u 4 ((u 4) + 1)) 4 (((u 4) + 1) + 1)) (fs := (Mf am (uN u 4 ((u 4) + 1))).set 4 (vi (((u 4) + 1) + 1))) hM6 rfl
  generalize up w5 o (Ob 10 ((Mf am (uN u 4 ((u 4) + 1))).set 4 (vi (((u 4) + 1) + 1)))) = w7 at hM8 ⊢
  refine M.run 3 (pc' := 4) (lv' := [some (vr o), some (vi x), some (vi 8)]) (st' := [vi 8]) rfl ?_
  refine M.if_lt (tgt := 39) rfl (qI (by decide)) (by decide) (fun q => absurd q (by decide)) (fun _ => ?_)
  refine M.run 1 (pc' := 8) (lv' := [some (vr o), some (vi x), some (vi 8)]) (st' := [vr o]) rfl ?_
  refine M.get fl_X11_19 rfl (isM_o hM8) (kf := 3) (v := vr (am 3)) rfl ?_
  refine M.run 1 (pc' := 12) (lv' := [some (vr o), some (vi x), some (vi 8)]) (st' := [vr o, vr (am 3)]) rfl ?_
  refine M.get fl_X11_75 rfl (isM_o hM8) (kf := 4) (v := vi (((u 4) + 1) + 1)) rfl ?_
  rw [show ((u 4) + 1) + 1 = ((t + 2 : Nat) : Int) from by omega]
  refine M.run 2 (pc' := 17) (lv' := [some (vr o), some (vi x), some (vi 8)]) (st' := [vi 8, vi x, vi ((t + 2 : Nat) : Int), vr (am 3)]) rfl ?_
  refine M.ishrI (b2 := 8) rfl (qI (by omega)) (by decide) ⟨by omega, by omega⟩ ?_
  refine M.run 1 (pc' := 21) (lv' := [some (vr o), some (vi x), some (vi 8)]) (st' := [vi 255, vi (x / ((2 ^ 8 : Nat) : Int)), vi ((t + 2 : Nat) : Int), vr (am 3)]) rfl ?_
  refine M.iand255 rfl ?_
  refine M.iastN (t + 2) rfl (show lk w7 (am 3) = some (Ar 0 300 (uN (uN (b 3) t ((x / ((2 ^ 24 : Nat) : Int)) % 256)) (t + 1) ((x / ((2 ^ 16 : Nat) : Int)) % 256))) from isM_3 hM8) (by omega) (by decide) ?_
  have hM10 := isM_setB (k := 3) (t := 0) (n := 300) hM8 (by decide) (uN (uN (uN (b 3) t ((x / ((2 ^ 24 : Nat) : Int)) % 256)) (t + 1) ((x / ((2 ^ 16 : Nat) : Int)) % 256)) (t + 2) ((x / ((2 ^ 8 : Nat) : Int)) % 256))
  generalize up w7 (am 3) (Ar 0 300 (uN (uN (uN (b 3) t ((x / ((2 ^ 24 : Nat) : Int)) % 256)) (t + 1) ((x / ((2 ^ 16 : Nat) : Int)) % 256)) (t + 2) ((x / ((2 ^ 8 : Nat) : Int)) % 256))) = w9 at hM10 ⊢
  refine M.run 2 (pc' := 25) (lv' := [some (vr o), some (vi x), some (vi 8)]) (st' := [vr o, vr o]) rfl ?_
  refine M.get fl_X11_75 rfl (isM_o hM10) (kf := 4) (v := vi (((u 4) + 1) + 1)) rfl ?_
  refine M.run 2 (pc' := 30) (lv' := [some (vr o), some (vi x), some (vi 8)]) (st' := [vi ((((u 4) + 1) + 1) + 1), vr o]) rfl ?_
  refine M.put fl_X11_75 rfl (isM_o hM10) rfl rfl (Nat.le_of_ble_eq_true rfl) ?_
  have hM12 := isM_setU (u' := uN (uN (uN u 4 ((u 4) + 1)) 4 (((u 4) + 1) + 1)) 4 ((((u 4) + 1) + 1) + 1)) (fs := (Mf am (uN (uN u 4 ((u 4) + 1)) 4 (((u 4) + 1) + 1))).set 4 (vi ((((u 4) + 1) + 1) + 1))) hM10 rfl
  generalize up w9 o (Ob 10 ((Mf am (uN (uN u 4 ((u 4) + 1)) 4 (((u 4) + 1) + 1))).set 4 (vi ((((u 4) + 1) + 1) + 1)))) = w11 at hM12 ⊢
  refine M.run 3 (pc' := 4) (lv' := [some (vr o), some (vi x), some (vi 0)]) (st' := [vi 0]) rfl ?_
  refine M.if_lt (tgt := 39) rfl (qI (by decide)) (by decide) (fun q => absurd q (by decide)) (fun _ => ?_)
  refine M.run 1 (pc' := 8) (lv' := [some (vr o), some (vi x), some (vi 0)]) (st' := [vr o]) rfl ?_
  refine M.get fl_X11_19 rfl (isM_o hM12) (kf := 3) (v := vr (am 3)) rfl ?_
  refine M.run 1 (pc' := 12) (lv' := [some (vr o), some (vi x), some (vi 0)]) (st' := [vr o, vr (am 3)]) rfl ?_
  refine M.get fl_X11_75 rfl (isM_o hM12) (kf := 4) (v := vi ((((u 4) + 1) + 1) + 1)) rfl ?_
  rw [show (((u 4) + 1) + 1) + 1 = ((t + 3 : Nat) : Int) from by omega]
  refine M.run 2 (pc' := 17) (lv' := [some (vr o), some (vi x), some (vi 0)]) (st' := [vi 0, vi x, vi ((t + 3 : Nat) : Int), vr (am 3)]) rfl ?_
  refine M.ishrI (b2 := 0) rfl (qI (by omega)) (by decide) ⟨by omega, by omega⟩ ?_
  refine M.run 1 (pc' := 21) (lv' := [some (vr o), some (vi x), some (vi 0)]) (st' := [vi 255, vi (x / ((2 ^ 0 : Nat) : Int)), vi ((t + 3 : Nat) : Int), vr (am 3)]) rfl ?_
  refine M.iand255 rfl ?_
  refine M.iastN (t + 3) rfl (show lk w11 (am 3) = some (Ar 0 300 (uN (uN (uN (b 3) t ((x / ((2 ^ 24 : Nat) : Int)) % 256)) (t + 1) ((x / ((2 ^ 16 : Nat) : Int)) % 256)) (t + 2) ((x / ((2 ^ 8 : Nat) : Int)) % 256))) from isM_3 hM12) (by omega) (by decide) ?_
  have hM14 := isM_setB (k := 3) (t := 0) (n := 300) hM12 (by decide) (uN (uN (uN (uN (b 3) t ((x / ((2 ^ 24 : Nat) : Int)) % 256)) (t + 1) ((x / ((2 ^ 16 : Nat) : Int)) % 256)) (t + 2) ((x / ((2 ^ 8 : Nat) : Int)) % 256)) (t + 3) ((x / ((2 ^ 0 : Nat) : Int)) % 256))
  generalize up w11 (am 3) (Ar 0 300 (uN (uN (uN (uN (b 3) t ((x / ((2 ^ 24 : Nat) : Int)) % 256)) (t + 1) ((x / ((2 ^ 16 : Nat) : Int)) % 256)) (t + 2) ((x / ((2 ^ 8 : Nat) : Int)) % 256)) (t + 3) ((x / ((2 ^ 0 : Nat) : Int)) % 256))) = w13 at hM14 ⊢
  refine M.run 2 (pc' := 25) (lv' := [some (vr o), some (vi x), some (vi 0)]) (st' := [vr o, vr o]) rfl ?_
  refine M.get fl_X11_75 rfl (isM_o hM14) (kf := 4) (v := vi ((((u 4) + 1) + 1) + 1)) rfl ?_
  refine M.run 2 (pc' := 30) (lv' := [some (vr o), some (vi x), some (vi 0)]) (st' := [vi (((((u 4) + 1) + 1) + 1) + 1), vr o]) rfl ?_
  refine M.put fl_X11_75 rfl (isM_o hM14) rfl rfl (Nat.le_of_ble_eq_true rfl) ?_
  have hM16 := isM_setU (u' := uN (uN (uN (uN u 4 ((u 4) + 1)) 4 (((u 4) + 1) + 1)) 4 ((((u 4) + 1) + 1) + 1)) 4 (((((u 4) + 1) + 1) + 1) + 1)) (fs := (Mf am (uN (uN (uN u 4 ((u 4) + 1)) 4 (((u 4) + 1) + 1)) 4 ((((u 4) + 1) + 1) + 1))).set 4 (vi (((((u 4) + 1) + 1) + 1) + 1))) hM14 rfl
  generalize up w13 o (Ob 10 ((Mf am (uN (uN (uN u 4 ((u 4) + 1)) 4 (((u 4) + 1) + 1)) 4 ((((u 4) + 1) + 1) + 1))).set 4 (vi (((((u 4) + 1) + 1) + 1) + 1)))) = w15 at hM16 ⊢
  refine M.run 3 (pc' := 4) (lv' := [some (vr o), some (vi x), some (vi (-8))]) (st' := [vi (-8)]) rfl ?_
  refine M.if_lt (tgt := 39) rfl (qI (by decide)) (by decide) (fun _ => ?_) (fun q => absurd q (by decide))
  exact M.vret rfl (Nat.zero_le _) (Nat.zero_le _) ⟨rfl, by
      have eu : uN (uN (uN (uN u 4 ((u 4) + 1)) 4 (((u 4) + 1) + 1)) 4 ((((u 4) + 1) + 1) + 1)) 4 (((((u 4) + 1) + 1) + 1) + 1) = uN u 4 ((t + 4 : Nat) : Int) := by
        funext k
        unfold uN
        split
        · omega
        · rfl
      have hMu := hM16
      rw [eu, uB_uB, uB_uB, uB_uB] at hMu
      exact hMu⟩
