section QNUL
variable {l : Launch} {G : GT} {y : MethodName} {cc : ByteArray} {t : Tab} {nL : Nat} {ret : Option FieldType} {d mc ms : Nat} {Qp : Option AV → Wo → Prop} {g : gF}
variable {k n : Nat} {w : Wo} {pc tgt : Nat} {lv : Lo} {st : List AV} {a : Nat} {off : Int}
theorem Mach.ifnullN (M : Mach l G y cc t nL ret d mc ms Qp g) (hq : qlk t pc = some (.ifnull off, 3)) (ho : (pc : Int) + off = (tgt : Int)) (kk : g k n w tgt lv st) : g k n w pc lv (vn :: st) := by
  obtain ⟨p, e, s, m, args, below, meth, c, A, hx, hb, ht, hml, hr', hlk, hown, hts, hnm, hA, hAB, hB, hK, hSt, rfl⟩ := M
  intro H locs ls hP hD hS hl
  exact lv_ifnullN hx hb (qdec ht hq) ho (kk H locs ls hP hD hS hl)
theorem Mach.ifnullR (M : Mach l G y cc t nL ret d mc ms Qp g) (hq : qlk t pc = some (.ifnull off, 3)) (kk : g k n w (pc + 3) lv st) : g k n w pc lv (vr a :: st) := by
  obtain ⟨p, e, s, m, args, below, meth, c, A, hx, hb, ht, hml, hr', hlk, hown, hts, hnm, hA, hAB, hB, hK, hSt, rfl⟩ := M
  intro H locs ls hP hD hS hl
  exact lv_ifnull hx hb (qdec ht hq) (kk H locs ls hP hD hS hl)
theorem Mach.ifnonnullN (M : Mach l G y cc t nL ret d mc ms Qp g) (hq : qlk t pc = some (.ifnonnull off, 3)) (kk : g k n w (pc + 3) lv st) : g k n w pc lv (vn :: st) := by
  obtain ⟨p, e, s, m, args, below, meth, c, A, hx, hb, ht, hml, hr', hlk, hown, hts, hnm, hA, hAB, hB, hK, hSt, rfl⟩ := M
  intro H locs ls hP hD hS hl
  exact lv_ifnonnullN hx hb (qdec ht hq) (kk H locs ls hP hD hS hl)
theorem Mach.ifnonnullR (M : Mach l G y cc t nL ret d mc ms Qp g) (hq : qlk t pc = some (.ifnonnull off, 3)) (ho : (pc : Int) + off = (tgt : Int)) (kk : g k n w tgt lv st) : g k n w pc lv (vr a :: st) := by
  obtain ⟨p, e, s, m, args, below, meth, c, A, hx, hb, ht, hml, hr', hlk, hown, hts, hnm, hA, hAB, hB, hK, hSt, rfl⟩ := M
  intro H locs ls hP hD hS hl
  exact lv_ifnonnull hx hb (qdec ht hq) ho (kk H locs ls hP hD hS hl)
/-- the row of no orders lies outside the world -/
theorem Mach.alenN (M : Mach l G y cc t nL ret d mc ms Qp g) (hq : qlk t pc = some (.arraylength, 1)) (kk : g k n w (pc + 1) lv (vi 0 :: st)) : g k n w pc lv (vr (gN G) :: st) := by
  obtain ⟨p, e, s, m, args, below, meth, c, A, hx, hb, ht, hml, hr', hlk, hown, hts, hnm, hA, hAB, hB, hK, hSt, rfl⟩ := M
  intro H locs ls hP hD hS hl
  exact va_tlen hx hb (va_T.narrow hSt.2.1 hAB) hS (v := iI 0) rfl (qdec ht hq) (kk H locs ls hP hD hS hl)
end QNUL
theorem Ctr.pre {l : Launch} {G : GT} {y : MethodName} {cc : ByteArray} {maxL : Nat} {ret : Option FieldType} {d mc ms : Nat} {av : List AV} {P : Wo → Prop} {Q : Wo → Option AV → Wo → Prop} {C : Prop} (hc : ∀ w, P w → C) (h : C → Ctr l G y cc maxL ret d mc ms av P Q) : Ctr l G y cc maxL ret d mc ms av P Q := fun w sz hp => h (hc w hp) w sz hp
theorem Ctr.ex {α : Type} {l : Launch} {G : GT} {y : MethodName} {cc : ByteArray} {maxL : Nat} {ret : Option FieldType} {d mc ms : Nat} {av : List AV} {P : α → Wo → Prop} {Q : Wo → Option AV → Wo → Prop} (h : ∀ x, Ctr l G y cc maxL ret d mc ms av (P x) Q) : Ctr l G y cc maxL ret d mc ms av (fun w => ∃ x, P x w) Q := fun w sz hp => hp.elim (fun x q => h x w sz q)
theorem Ctr.cases {l : Launch} {G : GT} {y : MethodName} {cc : ByteArray} {maxL : Nat} {ret : Option FieldType} {d mc ms : Nat} {av : List AV} {P : Wo → Prop} {Q : Wo → Option AV → Wo → Prop} (h : ∀ w0, P w0 → Ctr l G y cc maxL ret d mc ms av (fun w => w = w0) Q) : Ctr l G y cc maxL ret d mc ms av P Q := fun w sz hp => h w hp w sz rfl
theorem Ctr.orP {l : Launch} {G : GT} {y : MethodName} {cc : ByteArray} {maxL : Nat} {ret : Option FieldType} {d mc ms : Nat} {av : List AV} {P P2 : Wo → Prop} {Q : Wo → Option AV → Wo → Prop} (h : Ctr l G y cc maxL ret d mc ms av P Q) (h2 : Ctr l G y cc maxL ret d mc ms av P2 Q) : Ctr l G y cc maxL ret d mc ms av (fun w => P w ∨ P2 w) Q := fun w sz hp => hp.elim (fun q => h w sz q) (fun q => h2 w sz q)
/-- what the orders of a law say -/
def jOk (f : Nat → Int) (m : Nat) (z : Int) (gg : Gn) : Prop := ∀ (nm : Nat → Int) (of : Int → Int → Int) (V : Nat → Int), ∃ V2 k2, jrun nm of f m 0 (V, 0, 0) = some (V2, 1, k2) ∧ V2 0 = gg (nmS z nm) of
def codeC (hb a : Nat) (Y : Option Gn) (z : Int) (w : Wo) : Prop := ∃ m f gg, hb ≤ a ∧ 0 < m ∧ m ≤ 300 ∧ Y = some gg ∧ lk w a = some (Ar 0 (2 * m) f) ∧ (∀ j : Nat, j < 2 * m → -2147483648 ≤ f j ∧ f j ≤ 2147483647) ∧ jOk f m z gg
def codeOk (G : GT) (hb a : Nat) (Y : Option Gn) (z : Int) (w : Wo) : Prop := (a = gN G ∧ Y = none) ∨ codeC hb a Y z w
def isLw (p q t0 a0 : Nat) (w : Wo) : Prop := ∃ V n kd bl la, isLa p q t0 a0 n V kd bl la w
theorem enC_b {nn : Int} {tl : Nat → Int} {D : Dy} {kd bl la : Int} (hT : Tok tl) (hd : Dok nn D) (h1 : bd6 kd) (h2 : bd6 bl) (h3 : bd6 la) (k : Nat) : bd6 (enC D.1 tl kd bl la k) := by
  have q1 := Dok_clk hd
  have q2 := Dok_sun hd
  have q3 : 1 ≤ tl 6 ∧ tl 6 ≤ 20 := hT.1 6 (by decide)
  unfold enC
  repeat' split
  all_goals first | exact h1 | exact h2 | exact h3 | exact ⟨by omega, by omega⟩
theorem nmS_enC {tl : Nat → Int} {D : Dy} {kd bl la z : Int} : nmS z (enC D.1 tl kd bl la) = enA (stA tl D) kd bl la := nmS_en rfl rfl rfl rfl rfl (enC_o (by omega))

set_option maxHeartbeats 4000000 in
set_option maxRecDepth 100000 in
theorem kX2_losing0 (l : Launch) (G : GT) (hb p q : Nat) (T A : Nat → Nat) (tl fx : Nat → Int) (D : Dy) (nn : Int) (hT : Tok tl) (hd : Dok nn D) (hap : apL p q T A) (hpb : p < hb ∧ q < hb) (kd bl la : Int) (hkd : 0 ≤ kd ∧ kd ≤ 4) (hbl : 0 ≤ bl ∧ bl ≤ 2) (hla : 0 ≤ la ∧ la ≤ 1000) (Y : Option Gn)  : Ctr l G yX2_losing cX2_losing 5 ((Option.some Jvm.ClassFile.FieldType.int)) 4 0 0 [vr p, vn, vi kd, vi bl, vi la] (fun w => isLw p q (T 0) (A 0) w ∧ isTo T tl fx w ∧ isSt A D w) (fun w r w' => r = some (vi (2)) ∧ isLw p q (T 0) (A 0) w' ∧ Frm p q w w') := by
  refine Ctr.of (t := tX2_losing) (lv0 := [some (vr p), some (vn), some (vi kd), some (vi bl), some (vi la)]) (by decide +kernel) tX2_losing_ok rfl rfl (fun w g hP M => ?_)
  obtain ⟨V0, n0, k0, b0, l0, hL⟩ := hP.1
  have hq6 : 1 ≤ tl 6 ∧ tl 6 ≤ 20 := hT.1 6 (by decide)
  refine M.run 1 (pc' := 1) (lv' := [some (vr p), some (vn), some (vi kd), some (vi bl), some (vi la)]) (st' := [vn]) rfl ?_
  refine M.ifnullN (tgt := 12) rfl (by decide) ?_
  refine M.run 1 (pc' := 13) (lv' := [some (vr p), some (vn), some (vi kd), some (vi bl), some (vi la)]) (st' := [vi 2]) rfl ?_
  exact M.iret rfl (Nat.zero_le _) (Nat.zero_le _) ⟨rfl, ⟨V0, n0, k0, b0, l0, hL⟩, Frm.rf⟩
set_option maxHeartbeats 4000000 in
set_option maxRecDepth 100000 in
theorem kX2_losingN (l : Launch) (G : GT) (hb p q : Nat) (T A : Nat → Nat) (tl fx : Nat → Int) (D : Dy) (nn : Int) (hT : Tok tl) (hd : Dok nn D) (hap : apL p q T A) (hpb : p < hb ∧ q < hb) (kd bl la : Int) (hkd : 0 ≤ kd ∧ kd ≤ 4) (hbl : 0 ≤ bl ∧ bl ≤ 2) (hla : 0 ≤ la ∧ la ≤ 1000) (Y : Option Gn) (x a2 a3 : Nat)  : Ctr l G yX2_losing cX2_losing 5 ((Option.some Jvm.ClassFile.FieldType.int)) 4 0 0 [vr p, vr x, vi kd, vi bl, vi la] (fun w => isLw p q (T 0) (A 0) w ∧ isTo T tl fx w ∧ isSt A D w ∧ lk w x = some (Ob 6 [vr (gN G), vr a2, vr a3])) (fun w r w' => r = some (vi (2)) ∧ isLw p q (T 0) (A 0) w' ∧ Frm p q w w') := by
  refine Ctr.of (t := tX2_losing) (lv0 := [some (vr p), some (vr x), some (vi kd), some (vi bl), some (vi la)]) (by decide +kernel) tX2_losing_ok rfl rfl (fun w g hP M => ?_)
  obtain ⟨V0, n0, k0, b0, l0, hL⟩ := hP.1
  have hq6 : 1 ≤ tl 6 ∧ tl 6 ≤ 20 := hT.1 6 (by decide)
  refine M.run 1 (pc' := 1) (lv' := [some (vr p), some (vr x), some (vi kd), some (vi bl), some (vi la)]) (st' := [vr x]) rfl ?_
  refine M.ifnullR rfl ?_
  refine M.run 1 (pc' := 5) (lv' := [some (vr p), some (vr x), some (vi kd), some (vi bl), some (vi la)]) (st' := [vr x]) rfl ?_
  refine M.get fl_X2_23 rfl hP.2.2.2 (kf := 0) (v := vr (gN G)) rfl ?_
  refine M.alenN rfl ?_
  refine M.if_ne (tgt := 14) rfl (qI (by decide)) (by decide) (fun q => absurd q (by decide)) (fun _ => ?_)
  refine M.run 1 (pc' := 13) (lv' := [some (vr p), some (vr x), some (vi kd), some (vi bl), some (vi la)]) (st' := [vi 2]) rfl ?_
  exact M.iret rfl (Nat.zero_le _) (Nat.zero_le _) ⟨rfl, ⟨V0, n0, k0, b0, l0, hL⟩, Frm.rf⟩
set_option maxHeartbeats 4000000 in
set_option maxRecDepth 100000 in
theorem kX2_losingC (l : Launch) (G : GT) (hb p q : Nat) (T A : Nat → Nat) (tl fx : Nat → Int) (D : Dy) (nn : Int) (hT : Tok tl) (hd : Dok nn D) (hap : apL p q T A) (hpb : p < hb ∧ q < hb) (kd bl la : Int) (hkd : 0 ≤ kd ∧ kd ≤ 4) (hbl : 0 ≤ bl ∧ bl ≤ 2) (hla : 0 ≤ la ∧ la ≤ 1000) (Y : Option Gn) (x a1 a2 a3 : Nat)  : Ctr l G yX2_losing cX2_losing 5 ((Option.some Jvm.ClassFile.FieldType.int)) 4 0 0 [vr p, vr x, vi kd, vi bl, vi la] (fun w => isLw p q (T 0) (A 0) w ∧ isTo T tl fx w ∧ isSt A D w ∧ lk w x = some (Ob 6 [vr a1, vr a2, vr a3]) ∧ codeC hb a1 Y 0 w) (fun w r w' => r = some (vi (sayV Y 0 2 0 10 (enA (stA tl D) kd bl la) (ofA (stA tl D)))) ∧ isLw p q (T 0) (A 0) w' ∧ Frm p q w w') := by
  refine Ctr.of (t := tX2_losing) (lv0 := [some (vr p), some (vr x), some (vi kd), some (vi bl), some (vi la)]) (by decide +kernel) tX2_losing_ok rfl rfl (fun w g hP M => ?_)
  obtain ⟨V0, n0, k0, b0, l0, hL⟩ := hP.1
  obtain ⟨m, f, gg, hbm, hm0, hm3, hY, hA1, hf, hjk⟩ := hP.2.2.2.2
  obtain ⟨V2, k2, hj0, hj1⟩ := hjk (enC D.1 tl kd bl la) (ofA (stA tl D)) V0
  rw [nmS_enC] at hj1
  have hq6 : 1 ≤ tl 6 ∧ tl 6 ≤ 20 := hT.1 6 (by decide)
  refine M.run 1 (pc' := 1) (lv' := [some (vr p), some (vr x), some (vi kd), some (vi bl), some (vi la)]) (st' := [vr x]) rfl ?_
  refine M.ifnullR rfl ?_
  refine M.run 1 (pc' := 5) (lv' := [some (vr p), some (vr x), some (vi kd), some (vi bl), some (vi la)]) (st' := [vr x]) rfl ?_
  refine M.get fl_X2_23 rfl hP.2.2.2.1 (kf := 0) (v := vr a1) rfl ?_
  refine M.alen rfl hA1 (by decide) ?_
  refine M.if_ne (tgt := 14) rfl (qI (by omega)) (by decide) (fun h9 => ?_) (fun h9 => ?_)
  · skip
    refine M.run 4 (pc' := 19) (lv' := [some (vr p), some (vr x), some (vi kd), some (vi bl), some (vi la)]) (st' := [vr x, vr p, vi 10, vi 0]) rfl ?_
    refine M.get fl_X2_23 rfl hP.2.2.2.1 (kf := 0) (v := vr a1) rfl ?_
    refine M.run 3 (pc' := 26) (lv' := [some (vr p), some (vr x), some (vi kd), some (vi bl), some (vi la)]) (st' := [vi la, vi bl, vi kd, vr a1, vr p, vi 10, vi 0]) rfl ?_
    refine M.callV (kX2_value l G p q a1 m n0 V0 f k0 b0 l0 kd bl la T A tl fx D nn hT hd hap ⟨by omega, by omega⟩ hm3 hf (fun k _ => enC_b hT hd ⟨by omega, by omega⟩ ⟨by omega, by omega⟩ ⟨by omega, by omega⟩ k) V2 k2 hj0) cv_X2_28 cd_X2_value rfl (st := [vi 10, vi 0]) rfl hL.1 (by decide) (by decide) rfl (Nat.zero_le _) (Nat.zero_le _) ⟨hL, hA1, hP.2.1, hP.2.2.1⟩ (fun r1 w2 q3 => ?_)
    obtain ⟨q3r, q3l, q3f, hb2⟩ := q3
    rw [q3r]
    have hb3 := hb2.1
    have hb4 := hb2.2
    obtain ⟨Vz, nz, hLz⟩ := q3l
    refine M.mmin cs_X2_32 rfl (qI (by decide)) (qI (by omega)) (by decide) (Nat.zero_le _) (Nat.zero_le _) rfl ?_
    refine M.mmax cs_X2_38 rfl (qI (by decide)) (qI (by omega)) (by decide) (Nat.zero_le _) (Nat.zero_le _) rfl ?_
    exact M.iret rfl (Nat.zero_le _) (Nat.zero_le _) ⟨reI (by rw [sayV_s (by decide) hY, ← hj1]; unfold hldI; (repeat' split) <;> omega), ⟨Vz, nz, _, _, _, hLz⟩, q3f⟩
  · skip
    omega
theorem kX2_losing (l : Launch) (G : GT) (hb p q : Nat) (T A : Nat → Nat) (tl fx : Nat → Int) (D : Dy) (nn : Int) (hT : Tok tl) (hd : Dok nn D) (hap : apL p q T A) (hpb : p < hb ∧ q < hb) (kd bl la : Int) (hkd : 0 ≤ kd ∧ kd ≤ 4) (hbl : 0 ≤ bl ∧ bl ≤ 2) (hla : 0 ≤ la ∧ la ≤ 1000) (Y : Option Gn)  (x a1 a2 a3 : Nat) : Ctr l G yX2_losing cX2_losing 5 (Option.some Jvm.ClassFile.FieldType.int) 4 0 0 [vr p, vr x, vi kd, vi bl, vi la] (fun w => isLw p q (T 0) (A 0) w ∧ isTo T tl fx w ∧ isSt A D w ∧ lk w x = some (Ob 6 [vr a1, vr a2, vr a3]) ∧ codeOk G hb a1 Y 0 w) (fun w r w' => r = some (vi (sayV Y 0 2 0 10 (enA (stA tl D) kd bl la) (ofA (stA tl D)))) ∧ isLw p q (T 0) (A 0) w' ∧ Frm p q w w') := by
  have hC := kX2_losingC l G hb p q T A tl fx D nn hT hd hap hpb kd bl la hkd hbl hla Y x a1 a2 a3
  refine Ctr.cases (fun w hp => ?_)
  obtain ⟨h1, h2, h3, h4, h5⟩ := hp
  rcases h5 with ⟨rfl, rfl⟩ | h5
  · exact Ctr.mono (kX2_losingN l G hb p q T A tl fx D nn hT hd hap hpb kd bl la hkd hbl hla none x a2 a3) (fun z hz => by rw [hz]; exact ⟨h1, h2, h3, h4⟩) (fun z r w' _ q => by rw [sayV_n (Or.inr rfl)]; exact q)
  · exact Ctr.mono hC (fun z hz => by rw [hz]; exact ⟨h1, h2, h3, h4, h5⟩) (fun z r w' _ q => q)

set_option maxHeartbeats 4000000 in
set_option maxRecDepth 100000 in
theorem kX2_waiting0 (l : Launch) (G : GT) (hb p q : Nat) (T A : Nat → Nat) (tl fx : Nat → Int) (D : Dy) (nn : Int) (hT : Tok tl) (hd : Dok nn D) (hap : apL p q T A) (hpb : p < hb ∧ q < hb) (kd bl la : Int) (hkd : 0 ≤ kd ∧ kd ≤ 4) (hbl : 0 ≤ bl ∧ bl ≤ 2) (hla : 0 ≤ la ∧ la ≤ 1000) (Y : Option Gn)  : Ctr l G yX2_waiting cX2_waiting 5 ((Option.some Jvm.ClassFile.FieldType.int)) 4 0 0 [vr p, vn, vi kd, vi bl, vi la] (fun w => isLw p q (T 0) (A 0) w ∧ isTo T tl fx w ∧ isSt A D w) (fun w r w' => r = some (vi (2 * tl 6 + 2)) ∧ isLw p q (T 0) (A 0) w' ∧ Frm p q w w') := by
  refine Ctr.of (t := tX2_waiting) (lv0 := [some (vr p), some (vn), some (vi kd), some (vi bl), some (vi la)]) (by decide +kernel) tX2_waiting_ok rfl rfl (fun w g hP M => ?_)
  obtain ⟨V0, n0, k0, b0, l0, hL⟩ := hP.1
  have hq6 : 1 ≤ tl 6 ∧ tl 6 ≤ 20 := hT.1 6 (by decide)
  refine M.run 1 (pc' := 1) (lv' := [some (vr p), some (vn), some (vi kd), some (vi bl), some (vi la)]) (st' := [vn]) rfl ?_
  refine M.ifnullN (tgt := 12) rfl (by decide) ?_
  refine M.run 2 (pc' := 14) (lv' := [some (vr p), some (vn), some (vi kd), some (vi bl), some (vi la)]) (st' := [vr p, vi 2]) rfl ?_
  refine M.get fl_X2_9 rfl hL.1 (kf := 0) (v := vr (T 0)) rfl ?_
  refine M.get fl_X2_44 rfl hP.2.1.1 (kf := 6) (v := vi (tl 6)) rfl ?_
  refine M.run 3 (pc' := 23) (lv' := [some (vr p), some (vn), some (vi kd), some (vi bl), some (vi la)]) (st' := [vi ((2 * (tl 6)) + 2)]) rfl ?_
  exact M.iret rfl (Nat.zero_le _) (Nat.zero_le _) ⟨rfl, ⟨V0, n0, k0, b0, l0, hL⟩, Frm.rf⟩
set_option maxHeartbeats 4000000 in
set_option maxRecDepth 100000 in
theorem kX2_waitingN (l : Launch) (G : GT) (hb p q : Nat) (T A : Nat → Nat) (tl fx : Nat → Int) (D : Dy) (nn : Int) (hT : Tok tl) (hd : Dok nn D) (hap : apL p q T A) (hpb : p < hb ∧ q < hb) (kd bl la : Int) (hkd : 0 ≤ kd ∧ kd ≤ 4) (hbl : 0 ≤ bl ∧ bl ≤ 2) (hla : 0 ≤ la ∧ la ≤ 1000) (Y : Option Gn) (x a1 a3 : Nat)  : Ctr l G yX2_waiting cX2_waiting 5 ((Option.some Jvm.ClassFile.FieldType.int)) 4 0 0 [vr p, vr x, vi kd, vi bl, vi la] (fun w => isLw p q (T 0) (A 0) w ∧ isTo T tl fx w ∧ isSt A D w ∧ lk w x = some (Ob 6 [vr a1, vr (gN G), vr a3])) (fun w r w' => r = some (vi (2 * tl 6 + 2)) ∧ isLw p q (T 0) (A 0) w' ∧ Frm p q w w') := by
  refine Ctr.of (t := tX2_waiting) (lv0 := [some (vr p), some (vr x), some (vi kd), some (vi bl), some (vi la)]) (by decide +kernel) tX2_waiting_ok rfl rfl (fun w g hP M => ?_)
  obtain ⟨V0, n0, k0, b0, l0, hL⟩ := hP.1
  have hq6 : 1 ≤ tl 6 ∧ tl 6 ≤ 20 := hT.1 6 (by decide)
  refine M.run 1 (pc' := 1) (lv' := [some (vr p), some (vr x), some (vi kd), some (vi bl), some (vi la)]) (st' := [vr x]) rfl ?_
  refine M.ifnullR rfl ?_
  refine M.run 1 (pc' := 5) (lv' := [some (vr p), some (vr x), some (vi kd), some (vi bl), some (vi la)]) (st' := [vr x]) rfl ?_
  refine M.get fl_X2_41 rfl hP.2.2.2 (kf := 1) (v := vr (gN G)) rfl ?_
  refine M.alenN rfl ?_
  refine M.if_ne (tgt := 24) rfl (qI (by decide)) (by decide) (fun q => absurd q (by decide)) (fun _ => ?_)
  refine M.run 2 (pc' := 14) (lv' := [some (vr p), some (vr x), some (vi kd), some (vi bl), some (vi la)]) (st' := [vr p, vi 2]) rfl ?_
  refine M.get fl_X2_9 rfl hL.1 (kf := 0) (v := vr (T 0)) rfl ?_
  refine M.get fl_X2_44 rfl hP.2.1.1 (kf := 6) (v := vi (tl 6)) rfl ?_
  refine M.run 3 (pc' := 23) (lv' := [some (vr p), some (vr x), some (vi kd), some (vi bl), some (vi la)]) (st' := [vi ((2 * (tl 6)) + 2)]) rfl ?_
  exact M.iret rfl (Nat.zero_le _) (Nat.zero_le _) ⟨rfl, ⟨V0, n0, k0, b0, l0, hL⟩, Frm.rf⟩
set_option maxHeartbeats 4000000 in
set_option maxRecDepth 100000 in
theorem kX2_waitingC (l : Launch) (G : GT) (hb p q : Nat) (T A : Nat → Nat) (tl fx : Nat → Int) (D : Dy) (nn : Int) (hT : Tok tl) (hd : Dok nn D) (hap : apL p q T A) (hpb : p < hb ∧ q < hb) (kd bl la : Int) (hkd : 0 ≤ kd ∧ kd ≤ 4) (hbl : 0 ≤ bl ∧ bl ≤ 2) (hla : 0 ≤ la ∧ la ≤ 1000) (Y : Option Gn) (x a1 a2 a3 : Nat)  : Ctr l G yX2_waiting cX2_waiting 5 ((Option.some Jvm.ClassFile.FieldType.int)) 4 0 0 [vr p, vr x, vi kd, vi bl, vi la] (fun w => isLw p q (T 0) (A 0) w ∧ isTo T tl fx w ∧ isSt A D w ∧ lk w x = some (Ob 6 [vr a1, vr a2, vr a3]) ∧ codeC hb a2 Y 1 w) (fun w r w' => r = some (vi (sayV Y 0 (2 * tl 6 + 2) 1 60 (enA (stA tl D) kd bl la) (ofA (stA tl D)))) ∧ isLw p q (T 0) (A 0) w' ∧ Frm p q w w') := by
  refine Ctr.of (t := tX2_waiting) (lv0 := [some (vr p), some (vr x), some (vi kd), some (vi bl), some (vi la)]) (by decide +kernel) tX2_waiting_ok rfl rfl (fun w g hP M => ?_)
  obtain ⟨V0, n0, k0, b0, l0, hL⟩ := hP.1
  obtain ⟨m, f, gg, hbm, hm0, hm3, hY, hA1, hf, hjk⟩ := hP.2.2.2.2
  obtain ⟨V2, k2, hj0, hj1⟩ := hjk (enC D.1 tl kd bl la) (ofA (stA tl D)) V0
  rw [nmS_enC] at hj1
  have hq6 : 1 ≤ tl 6 ∧ tl 6 ≤ 20 := hT.1 6 (by decide)
  refine M.run 1 (pc' := 1) (lv' := [some (vr p), some (vr x), some (vi kd), some (vi bl), some (vi la)]) (st' := [vr x]) rfl ?_
  refine M.ifnullR rfl ?_
  refine M.run 1 (pc' := 5) (lv' := [some (vr p), some (vr x), some (vi kd), some (vi bl), some (vi la)]) (st' := [vr x]) rfl ?_
  refine M.get fl_X2_41 rfl hP.2.2.2.1 (kf := 1) (v := vr a2) rfl ?_
  refine M.alen rfl hA1 (by decide) ?_
  refine M.if_ne (tgt := 24) rfl (qI (by omega)) (by decide) (fun h9 => ?_) (fun h9 => ?_)
  · skip
    refine M.run 4 (pc' := 29) (lv' := [some (vr p), some (vr x), some (vi kd), some (vi bl), some (vi la)]) (st' := [vr x, vr p, vi 60, vi 1]) rfl ?_
    refine M.get fl_X2_41 rfl hP.2.2.2.1 (kf := 1) (v := vr a2) rfl ?_
    refine M.run 3 (pc' := 36) (lv' := [some (vr p), some (vr x), some (vi kd), some (vi bl), some (vi la)]) (st' := [vi la, vi bl, vi kd, vr a2, vr p, vi 60, vi 1]) rfl ?_
    refine M.callV (kX2_value l G p q a2 m n0 V0 f k0 b0 l0 kd bl la T A tl fx D nn hT hd hap ⟨by omega, by omega⟩ hm3 hf (fun k _ => enC_b hT hd ⟨by omega, by omega⟩ ⟨by omega, by omega⟩ ⟨by omega, by omega⟩ k) V2 k2 hj0) cv_X2_28 cd_X2_value rfl (st := [vi 60, vi 1]) rfl hL.1 (by decide) (by decide) rfl (Nat.zero_le _) (Nat.zero_le _) ⟨hL, hA1, hP.2.1, hP.2.2.1⟩ (fun r1 w2 q3 => ?_)
    obtain ⟨q3r, q3l, q3f, hb2⟩ := q3
    rw [q3r]
    have hb3 := hb2.1
    have hb4 := hb2.2
    obtain ⟨Vz, nz, hLz⟩ := q3l
    refine M.mmin cs_X2_32 rfl (qI (by decide)) (qI (by omega)) (by decide) (Nat.zero_le _) (Nat.zero_le _) rfl ?_
    refine M.mmax cs_X2_38 rfl (qI (by decide)) (qI (by omega)) (by decide) (Nat.zero_le _) (Nat.zero_le _) rfl ?_
    exact M.iret rfl (Nat.zero_le _) (Nat.zero_le _) ⟨reI (by rw [sayV_s (by decide) hY, ← hj1]; unfold hldI; (repeat' split) <;> omega), ⟨Vz, nz, _, _, _, hLz⟩, q3f⟩
  · skip
    omega
theorem kX2_waiting (l : Launch) (G : GT) (hb p q : Nat) (T A : Nat → Nat) (tl fx : Nat → Int) (D : Dy) (nn : Int) (hT : Tok tl) (hd : Dok nn D) (hap : apL p q T A) (hpb : p < hb ∧ q < hb) (kd bl la : Int) (hkd : 0 ≤ kd ∧ kd ≤ 4) (hbl : 0 ≤ bl ∧ bl ≤ 2) (hla : 0 ≤ la ∧ la ≤ 1000) (Y : Option Gn)  (x a1 a2 a3 : Nat) : Ctr l G yX2_waiting cX2_waiting 5 (Option.some Jvm.ClassFile.FieldType.int) 4 0 0 [vr p, vr x, vi kd, vi bl, vi la] (fun w => isLw p q (T 0) (A 0) w ∧ isTo T tl fx w ∧ isSt A D w ∧ lk w x = some (Ob 6 [vr a1, vr a2, vr a3]) ∧ codeOk G hb a2 Y 1 w) (fun w r w' => r = some (vi (sayV Y 0 (2 * tl 6 + 2) 1 60 (enA (stA tl D) kd bl la) (ofA (stA tl D)))) ∧ isLw p q (T 0) (A 0) w' ∧ Frm p q w w') := by
  have hC := kX2_waitingC l G hb p q T A tl fx D nn hT hd hap hpb kd bl la hkd hbl hla Y x a1 a2 a3
  refine Ctr.cases (fun w hp => ?_)
  obtain ⟨h1, h2, h3, h4, h5⟩ := hp
  rcases h5 with ⟨rfl, rfl⟩ | h5
  · exact Ctr.mono (kX2_waitingN l G hb p q T A tl fx D nn hT hd hap hpb kd bl la hkd hbl hla none x a1 a3) (fun z hz => by rw [hz]; exact ⟨h1, h2, h3, h4⟩) (fun z r w' _ q => by rw [sayV_n (Or.inr rfl)]; exact q)
  · exact Ctr.mono hC (fun z hz => by rw [hz]; exact ⟨h1, h2, h3, h4, h5⟩) (fun z r w' _ q => q)

