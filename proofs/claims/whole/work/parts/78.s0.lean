/-! the two texts: their rules and the methods that read them -/
abbrev CLW (own : String) (idx : Nat) (y : MethodName) (n : Nat) : Prop := Cond.methodLink own idx y ∈ lw_g ∧ Cond.instanceMethod y ∈ lw_g ∧ Cond.selects y.cls y y ∈ lw_g ∧ Cond.initialized y.cls ∈ lw_g ∧ (y.cls ≠ "java/lang/invoke/MethodHandle" ∧ y.cls ≠ "java/lang/invoke/VarHandle" ∧ (parseMethodDescriptor y.desc).map (fun d => d.parameters.length) = some n)
set_option maxRecDepth 20000 in
theorem cw_X8_60 : CLW RX8 60 yJ0_length_8abf5 0 := ⟨lw_g_in (List.mem_of_getElem? (i := 545) (by decide +kernel)) rfl, lw_g_in (List.mem_of_getElem? (i := 546) (by decide +kernel)) rfl, lw_g_in (List.mem_of_getElem? (i := 547) (by decide +kernel)) rfl, lw_g_in (List.mem_of_getElem? (i := 135) (by decide +kernel)) rfl, by decide +kernel⟩
set_option maxRecDepth 20000 in
theorem cw_X8_66 : CLW RX8 66 yJ0_charAt_5068e 1 := ⟨lw_g_in (List.mem_of_getElem? (i := 555) (by decide +kernel)) rfl, lw_g_in (List.mem_of_getElem? (i := 556) (by decide +kernel)) rfl, lw_g_in (List.mem_of_getElem? (i := 557) (by decide +kernel)) rfl, lw_g_in (List.mem_of_getElem? (i := 135) (by decide +kernel)) rfl, by decide +kernel⟩
set_option maxRecDepth 20000 in
theorem cw_J0_335 : CLW RJ0 335 yJ0_coder_7d493 0 := ⟨lw_g_in (List.mem_of_getElem? (i := 549) (by decide +kernel)) rfl, lw_g_in (List.mem_of_getElem? (i := 550) (by decide +kernel)) rfl, lw_g_in (List.mem_of_getElem? (i := 551) (by decide +kernel)) rfl, lw_g_in (List.mem_of_getElem? (i := 135) (by decide +kernel)) rfl, by decide +kernel⟩
set_option maxRecDepth 20000 in
theorem cw_J0_492 : CLW RJ0 492 yJ0_isLatin1_aae02 0 := ⟨lw_g_in (List.mem_of_getElem? (i := 559) (by decide +kernel)) rfl, lw_g_in (List.mem_of_getElem? (i := 560) (by decide +kernel)) rfl, lw_g_in (List.mem_of_getElem? (i := 561) (by decide +kernel)) rfl, lw_g_in (List.mem_of_getElem? (i := 135) (by decide +kernel)) rfl, by decide +kernel⟩
set_option maxRecDepth 20000 in
theorem sl_9 : Cond.fieldLink RJ0 9 "java/lang/String" "value" "[B" ∈ lw_g := lw_g_in (List.mem_of_getElem? (i := 1998) (by decide +kernel)) rfl
set_option maxRecDepth 20000 in
theorem sl_15 : Cond.fieldLink RJ0 15 "java/lang/String" "coder" "B" ∈ lw_g := lw_g_in (List.mem_of_getElem? (i := 1999) (by decide +kernel)) rfl
set_option maxRecDepth 20000 in
theorem sl_38 : Cond.fieldLink RJ0 38 "java/lang/String" "COMPACT_STRINGS" "Z" ∈ lw_g := lw_g_in (List.mem_of_getElem? (i := 553) (by decide +kernel)) rfl
set_option maxRecDepth 20000 in
theorem sl_1053 : Cond.fieldLink RJ0 1053 "jdk/internal/util/Preconditions" "SIOOBE_FORMATTER" "Ljava/util/function/BiFunction;" ∈ lw_g := lw_g_in (List.mem_of_getElem? (i := 569) (by decide +kernel)) rfl
def stN (i : Nat) : Nat := [121, 11].getD i 0
def stC (i k : Nat) : Int := (stL.getD i []).getD k 0
theorem gD_map : ∀ (L : List Int) (k : Nat), (L.map iI).getD k 0 = iI (L.getD k 0)
  | [], _ => rfl
  | _ :: _, 0 => rfl
  | _ :: L, k + 1 => gD_map L k
theorem st_map {i : Nat} (hi : i < 2) (k : Nat) : ((stL.map (fun x => x.map iI)).getD i []).getD k 0 = iI (stC i k) := by
  have h : i = 0 ∨ i = 1 := by omega
  rcases h with rfl | rfl
  · exact gD_map _ k
  · exact gD_map _ k
theorem st_c : ∀ i, i < 2 → ∀ k, k < 121 → stC i k % 256 = stC i k ∧ ((iI (stC i k)).toUInt32 % 65536).toInt32 = iI (stC i k) ∧ 0 ≤ stC i k ∧ stC i k < 256 := by decide +kernel
theorem stN_b {i : Nat} (hi : i < 2) : stN i ≤ 121 ∧ Int32.ofNat (stN i) = iI ((stN i : Nat) : Int) := by
  have h : i = 0 ∨ i = 1 := by omega
  rcases h with rfl | rfl
  · exact ⟨by decide, rfl⟩
  · exact ⟨by decide, rfl⟩
section QSTR
variable {l : Launch} {G : GT} {y : MethodName} {cc : ByteArray} {t : Tab} {nL : Nat} {ret : Option FieldType} {d mc ms : Nat} {Qp : Option AV → Wo → Prop} {g : gF}
variable {k n : Nat} {w : Wo} {pc : Nat} {lv : Lo} {st : List AV} {x z : Int} {idx i : Nat}
theorem Mach.ldcS0 (M : Mach l G y cc t nL ret d mc ms Qp g) (hy : y.cls = "LongCarrier$Tokens") (hq : qlk t pc = some (.ldc 70, 2)) (kk : g k n w (pc + 2) lv (vr (gS G 0) :: st)) : g k n w pc lv st := by
  obtain ⟨p, e, s, m, args, below, meth, c, A, hx, hb, ht, hml, hr', hlk, hown, hts, hnm, hA, hAB, hB, hK, hSt, rfl⟩ := M
  intro H locs ls hP hD hS hl
  exact va_ldcS hx hb (hy ▸ hown) hSt.2.2.2.2.1.2.1 (qdec ht hq) (kk H locs ls hP hD hS hl)
theorem Mach.ldcS1 (M : Mach l G y cc t nL ret d mc ms Qp g) (hy : y.cls = "LongCarrier$Tokens") (hq : qlk t pc = some (.ldc 58, 2)) (kk : g k n w (pc + 2) lv (vr (gS G 1) :: st)) : g k n w pc lv st := by
  obtain ⟨p, e, s, m, args, below, meth, c, A, hx, hb, ht, hml, hr', hlk, hown, hts, hnm, hA, hAB, hB, hK, hSt, rfl⟩ := M
  intro H locs ls hP hD hS hl
  exact va_ldcS hx hb (hy ▸ hown) hSt.2.2.2.2.1.2.2.1 (qdec ht hq) (kk H locs ls hP hD hS hl)
theorem Mach.getSV (M : Mach l G y cc t nL ret d mc ms Qp g) (hy : y.cls = RJ0) (hi : i < 2) (hq : qlk t pc = some (.getfield 9, 3)) (kk : g k n w (pc + 3) lv (vr (gV G i) :: st)) : g k n w pc lv (vr (gS G i) :: st) := by
  obtain ⟨p, e, s, m, args, below, meth, c, A, hx, hb, ht, hml, hr', hlk, hown, hts, hnm, hA, hAB, hB, hK, hSt, rfl⟩ := M
  intro H locs ls hP hD hS hl
  exact vk_getf (own := RJ0) (ref := "java/lang/String") hx hb (va_OF.narrow (hSt.2.2.2.2.2.1.1 i hi).2.2.1 hAB) hS (hy ▸ hown) (hts _ sl_9) (fun _ h => h) (qdec ht hq) (kk H locs ls hP hD hS hl)
theorem Mach.getSC (M : Mach l G y cc t nL ret d mc ms Qp g) (hy : y.cls = RJ0) (hi : i < 2) (hq : qlk t pc = some (.getfield 15, 3)) (kk : g k n w (pc + 3) lv (vi 0 :: st)) : g k n w pc lv (vr (gS G i) :: st) := by
  obtain ⟨p, e, s, m, args, below, meth, c, A, hx, hb, ht, hml, hr', hlk, hown, hts, hnm, hA, hAB, hB, hK, hSt, rfl⟩ := M
  intro H locs ls hP hD hS hl
  have h1 := (hSt.2.2.2.2.2.1.1 i hi).2.1
  rw [← iI_0] at h1
  exact vk_getf (own := RJ0) (ref := "java/lang/String") hx hb (va_OF.narrow h1 hAB) hS (hy ▸ hown) (hts _ sl_15) (fun _ h => h) (qdec ht hq) (kk H locs ls hP hD hS hl)
theorem Mach.getsC (M : Mach l G y cc t nL ret d mc ms Qp g) (hy : y.cls = RJ0) (hq : qlk t pc = some (.getstatic 38, 3)) (kk : g k n w (pc + 3) lv (vi 1 :: st)) : g k n w pc lv st := by
  obtain ⟨p, e, s, m, args, below, meth, c, A, hx, hb, ht, hml, hr', hlk, hown, hts, hnm, hA, hAB, hB, hK, hSt, rfl⟩ := M
  intro H locs ls hP hD hS hl
  have h1 := hSt.2.2.2.2.2.2.1
  rw [show (1 : Int32) = iI 1 from rfl] at h1
  exact va_gets (own := RJ0) hx hb (va_Z.narrow h1 hAB) hS (hy ▸ hown) (hts _ sl_38) (fun _ h => h) (qdec ht hq) (kk H locs ls hP hD hS hl)
theorem Mach.getsF (M : Mach l G y cc t nL ret d mc ms Qp g) (hy : y.cls = RJ0) (hq : qlk t pc = some (.getstatic 1053, 3)) (kk : ∀ r : Option Nat, g k n w (pc + 3) lv (.inr (.inr r) :: st)) : g k n w pc lv st := by
  obtain ⟨p, e, s, m, args, below, meth, c, A, hx, hb, ht, hml, hr', hlk, hown, hts, hnm, hA, hAB, hB, hK, hSt, rfl⟩ := M
  intro H locs ls hP hD hS hl
  rcases hSt.2.2.2.2.2.2.2 with h1 | ⟨a, h1⟩
  · exact va_gets (own := RJ0) hx hb (va_Z.narrow h1 hAB) hS (hy ▸ hown) (hts _ sl_1053) (fun _ h => h) (qdec ht hq) (kk none H locs ls hP hD hS hl)
  · exact va_gets (own := RJ0) hx hb (va_Z.narrow h1 hAB) hS (hy ▸ hown) (hts _ sl_1053) (fun _ h => h) (qdec ht hq) (kk (some a) H locs ls hP hD hS hl)
theorem Mach.alenS (M : Mach l G y cc t nL ret d mc ms Qp g) (hi : i < 2) (hq : qlk t pc = some (.arraylength, 1)) (kk : g k n w (pc + 1) lv (vi ((stN i : Nat) : Int) :: st)) : g k n w pc lv (vr (gV G i) :: st) := by
  obtain ⟨p, e, s, m, args, below, meth, c, A, hx, hb, ht, hml, hr', hlk, hown, hts, hnm, hA, hAB, hB, hK, hSt, rfl⟩ := M
  intro H locs ls hP hD hS hl
  exact va_tlen hx hb (va_T.narrow (hSt.2.2.2.2.2.1.1 i hi).2.2.2 hAB) hS (v := iI ((stN i : Nat) : Int)) (stN_b hi).2 (qdec ht hq) (kk H locs ls hP hD hS hl)
theorem Mach.baldS {j : Nat} (M : Mach l G y cc t nL ret d mc ms Qp g) (hi : i < 2) (hj : j < stN i) (hq : qlk t pc = some (.baload, 1)) (kk : g k n w (pc + 1) lv (vi (stC i j) :: st)) : g k n w pc lv (vi ((j : Nat) : Int) :: vr (gV G i) :: st) := by
  obtain ⟨p, e, s, m, args, below, meth, c, A, hx, hb, ht, hml, hr', hlk, hown, hts, hnm, hA, hAB, hB, hK, hSt, rfl⟩ := M
  intro H locs ls hP hD hS hl
  have hN := (stN_b hi).1
  have hj2 : j < [121, 11].getD i 0 := hj
  exact va_tb hx hb (va_T.narrow (hSt.2.2.2.2.2.1.1 i hi).2.2.2 hAB) hS (i := iI (j : Int)) (fun q => q.elim (iI_n0 (by omega)) (fun z => by rw [iI_clN (by omega)] at z; omega)) (v := .int (iI (stC i j))) (by rw [iI_clN (by omega), st_map hi]) (qdec ht hq) (kk H locs ls hP hD hS hl)
theorem Mach.i2cI (M : Mach l G y cc t nL ret d mc ms Qp g) (hq : qlk t pc = some (.i2c, 1)) (hv : ((iI x).toUInt32 % 65536).toInt32 = iI x) (kk : g k n w (pc + 1) lv (vi x :: st)) : g k n w pc lv (vi x :: st) := by
  obtain ⟨p, e, s, m, args, below, meth, c, A, hx, hb, ht, hml, hr', hlk, hown, hts, hnm, hA, hAB, hB, hK, hSt, rfl⟩ := M
  intro H locs ls hP hD hS hl
  exact lv_i2c hx hb (qdec ht hq) hv (kk H locs ls hP hD hS hl)
theorem Mach.nret {ty : FieldType} (M : Mach l G y cc t nL (some ty) d mc ms Qp g) (hn9 : narrow ty (.int (iI z)) = .int (iI z)) (hq : qlk t pc = some (.ireturn, 1)) (hk : k ≤ mc) (hn : n ≤ ms) (h : Qp (some (vi z)) w) : g k n w pc lv [vi z] := by
  obtain ⟨p, e, s, m, args, below, meth, c, A, hx, hb, ht, hml, hr', hlk, hown, hts, hnm, hA, hAB, hB, hK, hSt, rfl⟩ := M
  intro H locs ls hP hD hS hl
  refine W.widen hk hn ?_
  exact W.zret hx hb hr' hn9 (fun t ht hW => ⟨⟨some (vi z), w, rfl, h, WU_of hP hD hS hAB hB hK hSt ht hW, hD⟩, hS.F ht⟩) hS.2.2 (qdec ht hq)
theorem Mach.callW {y2 : MethodName} {cc2 : ByteArray} {maxL2 d2 mc2 ms2 : Nat} {ret2 : Option FieldType} {av : List AV} {P : Wo → Prop} {Q : Wo → Option AV → Wo → Prop} {st0 : List AV} (M : Mach l G y cc t nL ret d mc ms Qp g) (hc : Ctr l G y2 cc2 maxL2 ret2 d2 mc2 ms2 (vr (gS G i) :: av) P Q) (hi : i < 2) (hy2 : y2.cls = "java/lang/String") (hl : CLW y.cls idx y2 av.length) (hcd : Cond.code y2 cc2 maxL2 ret2 ∈ lw_g) (hq : qlk t pc = some (.invokevirtual idx, 3)) (hst : st0 = av.reverse ++ vr (gS G i) :: st) (hd : d2 < d) (hm : maxL2 ≤ 40) (hcat : Nat.ble (stc st) 8 = true) (hk : k + mc2 ≤ mc) (hn : n + ms2 ≤ ms) (hP : P w) (kk : ∀ (r : Option AV) (w' : Wo), Q w r w' → g (k + mc2) (n + ms2) w' (pc + 3) lv (r.toList ++ st)) : g k n w pc lv st0 := by
  obtain ⟨p, e, s, m, args, below, meth, c, A, hx, hb, ht, hml, hr', hlk, hown, hts, hnm, hA, hAB, hB, hK, hSt, rfl⟩ := M
  subst hst
  intro H locs ls hPw hD hS hl2
  have hM := hc w H.size hP
  obtain ⟨g1, g2, g3, g4, g5⟩ := hl
  have hrc : ∃ cell : Cell, H[gS G i]? = some cell ∧ cell.vm.isStatics = false ∧ s.vm.findClass y2.cls = some cell.cls := by rw [hy2]; exact vk_recv (vk_S.narrow hSt.2.2.2.2.2.1 hAB) hi hS
  have hcb : CallB (rmq d mc ms) s args y.cls idx y2 cc2 maxL2 ret2 (.code y2 cc2 maxL2 ret2 :: lw_g) (rmq d2 mc2 ms2) mc2 ms2 av.length := callB_of av.length hts (lw_g_goodIn hcd) rfl rfl rfl (hts _ g4) (hts _ g1) g5 ⟨hd, by show 8 + (maxL2 + 11) + 64 * d2 ≤ 64 * d; omega⟩
  have hrun := va_runV (cells := k) (slots := n) (H := H) (locs := locs) (l := l) (p := p) (e := e) (below := below) (meth := meth) (g := F0 m pc ls ((av.reverse ++ vr (gS G i) :: st).map qv)) (rest := st.map qv) (As := av.map qv) (R := rmq d mc ms) (b := gS G i) ⟨hx, hb, hml, hown, hts⟩ hM ⟨hcb, hts _ g2, hts _ g3⟩ ⟨blind_Pc, hrc, fun U hU hW => ⟨rfl, by rw [hU], WU_in hPw hD hS hAB hB hK hSt hU hW⟩⟩ rfl (by simp) hl2.2.1 (by simp [List.map_append, List.map_reverse, qv, va_rf]) (by rw [stc_eq]; exact (by show 2 * 0 + stc st ≤ 8; have := Nat.le_of_ble_eq_true hcat; omega)) (qdec ht hq) ⟨hk, hn⟩
  have hfree : ∀ q, va_A (w.map (qm G)) H.size q → A q := fun q h => by
    rcases h with ⟨j, e2, h⟩ | h
    · exact hD.2 j _ h
    · exact hA q (Nat.le_trans hS.1 h)
  refine qcall (av := args) (Q2 := Q w) (A1 := va_A (w.map (qm G)) H.size) hrun hS (fun q _ h => hfree q h) hfree (fun r w' t2 H1 locs1 e1 hv hQ hW hD1 hS1 => ?_)
  have k1 := kk r w' hQ H1 locs1 ls (by rw [← e1]; exact hW.1) (hD1.weaken (fun _ q _ h => hfree q.1 h)) hS1 hl2
  cases r <;> exact k1
end QSTR
theorem kJ0_coder (l : Launch) (G : GT) (i : Nat) (hi : i < 2) : Ctr l G yJ0_coder_7d493 cJ0_coder_7d493 1 (Option.some Jvm.ClassFile.FieldType.byte) 1 0 0 [vr (gS G i)] (fun _ => True) (fun w r w' => r = some (vi 0) ∧ w' = w) := by
  refine Ctr.of (t := tJ0_coder_7d493) (lv0 := [some (vr (gS G i))]) (by decide +kernel) tJ0_coder_7d493_ok rfl rfl (fun w g hP M => ?_)
  refine M.getsC rfl rfl ?_
  refine M.if_eq (tgt := 13) rfl (qI (by decide)) (by decide) (fun q => absurd q (by decide)) (fun _ => ?_)
  refine M.run 1 (pc' := 7) (lv' := [some (vr (gS G i))]) (st' := [vr (gS G i)]) rfl ?_
  refine M.getSC rfl hi rfl ?_
  refine M.run 1 (pc' := 14) (lv' := [some (vr (gS G i))]) (st' := [vi 0]) rfl ?_
  exact M.nret rfl rfl (Nat.zero_le _) (Nat.zero_le _) ⟨rfl, rfl⟩
theorem kJ0_isLatin1 (l : Launch) (G : GT) (i : Nat) (hi : i < 2) : Ctr l G yJ0_isLatin1_aae02 cJ0_isLatin1_aae02 1 (Option.some Jvm.ClassFile.FieldType.boolean) 1 0 0 [vr (gS G i)] (fun _ => True) (fun w r w' => r = some (vi 1) ∧ w' = w) := by
  refine Ctr.of (t := tJ0_isLatin1_aae02) (lv0 := [some (vr (gS G i))]) (by decide +kernel) tJ0_isLatin1_aae02_ok rfl rfl (fun w g hP M => ?_)
  refine M.getsC rfl rfl ?_
  refine M.if_eq (tgt := 17) rfl (qI (by decide)) (by decide) (fun q => absurd q (by decide)) (fun _ => ?_)
  refine M.run 1 (pc' := 7) (lv' := [some (vr (gS G i))]) (st' := [vr (gS G i)]) rfl ?_
  refine M.getSC rfl hi rfl ?_
  refine M.if_ne (tgt := 17) rfl (qI (by decide)) (by decide) (fun q => absurd rfl q) (fun _ => ?_)
  refine M.run 2 (pc' := 18) (lv' := [some (vr (gS G i))]) (st' := [vi 1]) rfl ?_
  exact M.zret rfl (Or.inr rfl) (Nat.zero_le _) (Nat.zero_le _) ⟨rfl, rfl⟩
theorem kJ0_length (l : Launch) (G : GT) (i : Nat) (hi : i < 2) : Ctr l G yJ0_length_8abf5 cJ0_length_8abf5 1 (Option.some Jvm.ClassFile.FieldType.int) 2 0 0 [vr (gS G i)] (fun _ => True) (fun w r w' => r = some (vi ((stN i : Nat) : Int)) ∧ w' = w) := by
  have hN := (stN_b hi).1
  refine Ctr.of (t := tJ0_length_8abf5) (lv0 := [some (vr (gS G i))]) (by decide +kernel) tJ0_length_8abf5_ok rfl rfl (fun w g hP M => ?_)
  refine M.run 1 (pc' := 1) (lv' := [some (vr (gS G i))]) (st' := [vr (gS G i)]) rfl ?_
  refine M.getSV rfl hi rfl ?_
  refine M.alenS hi rfl ?_
  refine M.run 1 (pc' := 6) (lv' := [some (vr (gS G i))]) (st' := [vr (gS G i), vi ((stN i : Nat) : Int)]) rfl ?_
  refine M.callW (kJ0_coder l G i hi) hi rfl cw_J0_335 cd_J0_coder_7d493 rfl (st := [vi ((stN i : Nat) : Int)]) rfl (by decide) (by decide) rfl (Nat.zero_le _) (Nat.zero_le _) trivial (fun r1 w2 q3 => ?_)
  rw [q3.1, q3.2]
  refine M.ishr (b1 := stN i) (b2 := 0) rfl (by omega) (by decide) ?_
  exact M.iret rfl (Nat.zero_le _) (Nat.zero_le _) ⟨rfl, rfl⟩
theorem kJ3_checkIndex (l : Launch) (G : GT) (x z : Int) (hx : 0 ≤ x ∧ x < z) (hz : z ≤ 2147483647) (r0 : Option Nat) : Ctr l G yJ3_checkIndex_8e157 cJ3_checkIndex_8e157 3 (Option.some Jvm.ClassFile.FieldType.int) 1 0 0 [vi x, vi z, .inr (.inr r0)] (fun _ => True) (fun w r w' => r = some (vi x) ∧ w' = w) := by
  refine Ctr.of (t := tJ3_checkIndex_8e157) (lv0 := [some (vi x), some (vi z), some (.inr (.inr r0))]) (by decide +kernel) tJ3_checkIndex_8e157_ok rfl rfl (fun w g hP M => ?_)
  refine M.run 1 (pc' := 1) (lv' := [some (vi x), some (vi z), some (.inr (.inr r0))]) (st' := [vi x]) rfl ?_
  refine M.if_lt (tgt := 9) rfl (qI (by omega)) (by decide) (fun q => absurd q (by omega)) (fun _ => ?_)
  refine M.run 2 (pc' := 6) (lv' := [some (vi x), some (vi z), some (.inr (.inr r0))]) (st' := [vi z, vi x]) rfl ?_
  refine M.icmp_lt (tgt := 16) rfl (qI (by omega)) (qI (by omega)) (by decide) (fun _ => ?_) (fun q => absurd q (by omega))
  refine M.run 1 (pc' := 17) (lv' := [some (vi x), some (vi z), some (.inr (.inr r0))]) (st' := [vi x]) rfl ?_
  exact M.iret rfl (Nat.zero_le _) (Nat.zero_le _) ⟨rfl, rfl⟩
theorem kJ0_checkIndex (l : Launch) (G : GT) (x z : Int) (hx : 0 ≤ x ∧ x < z) (hz : z ≤ 2147483647) : Ctr l G yJ0_checkIndex_df160 cJ0_checkIndex_df160 2 (Option.none : Option Jvm.ClassFile.FieldType) 2 0 0 [vi x, vi z] (fun _ => True) (fun w r w' => r = none ∧ w' = w) := by
  refine Ctr.of (t := tJ0_checkIndex_df160) (lv0 := [some (vi x), some (vi z)]) (by decide +kernel) tJ0_checkIndex_df160_ok rfl rfl (fun w g hP M => ?_)
  refine M.run 2 (pc' := 2) (lv' := [some (vi x), some (vi z)]) (st' := [vi z, vi x]) rfl ?_
  refine M.getsF rfl rfl (fun r0 => ?_)
  refine M.callS (kJ3_checkIndex l G x z hx hz r0) cs_J0_1059 cd_J3_checkIndex_8e157 rfl (st := []) rfl (by decide) (by decide) rfl (Nat.zero_le _) (Nat.zero_le _) trivial (fun r1 w2 q3 => ?_)
  rw [q3.1, q3.2]
  refine M.run 1 (pc' := 9) (lv' := [some (vi x), some (vi z)]) (st' := []) rfl ?_
  exact M.vret rfl (Nat.zero_le _) (Nat.zero_le _) ⟨rfl, rfl⟩
theorem kJ1_charAt (l : Launch) (G : GT) (i : Nat) (hi : i < 2) (j : Nat) (hj : j < stN i) : Ctr l G yJ1_charAt_3b067 cJ1_charAt_3b067 2 (Option.some Jvm.ClassFile.FieldType.char) 3 0 0 [vr (gV G i), vi ((j : Nat) : Int)] (fun _ => True) (fun w r w' => r = some (vi (stC i j)) ∧ w' = w) := by
  have hN := (stN_b hi).1
  obtain ⟨c1, c2, c3, c4⟩ := st_c i hi j (by omega)
  refine Ctr.of (t := tJ1_charAt_3b067) (lv0 := [some (vr (gV G i)), some (vi ((j : Nat) : Int))]) (by decide +kernel) tJ1_charAt_3b067_ok rfl rfl (fun w g hP M => ?_)
  refine M.run 2 (pc' := 2) (lv' := [some (vr (gV G i)), some (vi ((j : Nat) : Int))]) (st' := [vr (gV G i), vi ((j : Nat) : Int)]) rfl ?_
  refine M.alenS hi rfl ?_
  refine M.callS (kJ0_checkIndex l G ((j : Nat) : Int) ((stN i : Nat) : Int) (by omega) (by omega)) cs_J1_9 cd_J0_checkIndex_df160 rfl (st := []) rfl (by decide) (by decide) rfl (Nat.zero_le _) (Nat.zero_le _) trivial (fun r1 w2 q3 => ?_)
  rw [q3.1, q3.2]
  refine M.run 2 (pc' := 8) (lv' := [some (vr (gV G i)), some (vi ((j : Nat) : Int))]) (st' := [vi ((j : Nat) : Int), vr (gV G i)]) rfl ?_
  refine M.baldS hi hj rfl ?_
  refine M.run 1 (pc' := 12) (lv' := [some (vr (gV G i)), some (vi ((j : Nat) : Int))]) (st' := [vi 255, vi (stC i j)]) rfl ?_
  refine M.iand255 rfl ?_
  rw [c1]
  refine M.i2cI rfl c2 ?_
  exact M.nret (congrArg Value.int c2) rfl (Nat.zero_le _) (Nat.zero_le _) ⟨rfl, rfl⟩
theorem kJ0_charAt (l : Launch) (G : GT) (i : Nat) (hi : i < 2) (j : Nat) (hj : j < stN i) : Ctr l G yJ0_charAt_5068e cJ0_charAt_5068e 2 (Option.some Jvm.ClassFile.FieldType.char) 4 0 0 [vr (gS G i), vi ((j : Nat) : Int)] (fun _ => True) (fun w r w' => r = some (vi (stC i j)) ∧ w' = w) := by
  have hN := (stN_b hi).1
  obtain ⟨c1, c2, c3, c4⟩ := st_c i hi j (by omega)
  refine Ctr.of (t := tJ0_charAt_5068e) (lv0 := [some (vr (gS G i)), some (vi ((j : Nat) : Int))]) (by decide +kernel) tJ0_charAt_5068e_ok rfl rfl (fun w g hP M => ?_)
  refine M.run 1 (pc' := 1) (lv' := [some (vr (gS G i)), some (vi ((j : Nat) : Int))]) (st' := [vr (gS G i)]) rfl ?_
  refine M.callW (kJ0_isLatin1 l G i hi) hi rfl cw_J0_492 cd_J0_isLatin1_aae02 rfl (st := []) rfl (by decide) (by decide) rfl (Nat.zero_le _) (Nat.zero_le _) trivial (fun r1 w2 q3 => ?_)
  rw [q3.1, q3.2]
  refine M.if_eq (tgt := 16) rfl (qI (by decide)) (by decide) (fun q => absurd q (by decide)) (fun _ => ?_)
  refine M.run 1 (pc' := 8) (lv' := [some (vr (gS G i)), some (vi ((j : Nat) : Int))]) (st' := [vr (gS G i)]) rfl ?_
  refine M.getSV rfl hi rfl ?_
  refine M.run 1 (pc' := 12) (lv' := [some (vr (gS G i)), some (vi ((j : Nat) : Int))]) (st' := [vi ((j : Nat) : Int), vr (gV G i)]) rfl ?_
  refine M.callS (kJ1_charAt l G i hi j hj) cs_J0_495 cd_J1_charAt_3b067 rfl (st := []) rfl (by decide) (by decide) rfl (Nat.zero_le _) (Nat.zero_le _) trivial (fun r1 w2 q3 => ?_)
  rw [q3.1, q3.2]
  exact M.nret (congrArg Value.int c2) rfl (Nat.zero_le _) (Nat.zero_le _) ⟨rfl, rfl⟩
