/-- a law: what is told, a state, its stack -/
def isLa (p q t0 a0 n : Nat) (V : Nat → Int) (kd bl la : Int) (w : Wo) : Prop := lk w p = some (Ob 1 [vr t0, vr a0, vr q, vi ((n : Nat) : Int), vi kd, vi bl, vi la]) ∧ lk w q = some (Ar 0 300 V)
theorem isLa.ne {p q t0 a0 n : Nat} {V : Nat → Int} {kd bl la : Int} {w : Wo} (h : isLa p q t0 a0 n V kd bl la w) : p ≠ q := fun e => by
  have h1 := h.1
  rw [e, h.2] at h1
  cases h1
theorem isLa_fr {p q t0 a0 n : Nat} {V : Nat → Int} {kd bl la : Int} {w w' : Wo} (h : isLa p q t0 a0 n V kd bl la w) (e1 : lk w' p = lk w p) (e2 : lk w' q = lk w q) : isLa p q t0 a0 n V kd bl la w' := ⟨e1.trans h.1, e2.trans h.2⟩
/-- a text as it was read: the two laws' orders, the clauses -/
def isTx (x a1 a2 a3 n3 : Nat) (f3 : Nat → Int) (w : Wo) : Prop := lk w x = some (Ob 6 [vr a1, vr a2, vr a3]) ∧ lk w a3 = some (Ar 0 (3 * n3) f3)

set_option maxHeartbeats 4000000 in
set_option maxRecDepth 100000 in
theorem kX7_clauseCount (l : Launch) (G : GT) (x a1 a2 a3 n3 : Nat) (f3 : Nat → Int) (h3 : n3 ≤ 1000) : Ctr l G yX7_clauseCount cX7_clauseCount 1 ((Option.some Jvm.ClassFile.FieldType.int)) 1 0 0 [vr x] (fun w => isTx x a1 a2 a3 n3 f3 w) (fun w r w' => r = some (vi ((n3 : Nat) : Int)) ∧ w' = w) := by
  refine Ctr.of (t := tX7_clauseCount) (lv0 := [some (vr x)]) (by decide +kernel) tX7_clauseCount_ok rfl rfl (fun w g hP M => ?_)
  refine M.run 1 (pc' := 1) (lv' := [some (vr x)]) (st' := [vr x]) rfl ?_
  refine M.get fl_X7_18 rfl hP.1 (kf := 2) (v := vr a3) rfl ?_
  refine M.alen rfl hP.2 (by decide) ?_
  refine M.run 1 (pc' := 6) (lv' := [some (vr x)]) (st' := [vi 3, vi (((3 * n3) : Nat) : Int)]) rfl ?_
  refine M.idiv rfl (qI (by omega)) (qI (by decide)) (by omega) ?_
  exact M.iret rfl (Nat.zero_le _) (Nat.zero_le _) ⟨reI (by rw [show (((3 * n3) : Nat) : Int) = 3 * ((n3 : Nat) : Int) by omega, Int.mul_tdiv_cancel_left _ (by decide)]), rfl⟩
set_option maxHeartbeats 4000000 in
set_option maxRecDepth 100000 in
theorem kX7_clause (l : Launch) (G : GT) (x a1 a2 a3 n3 : Nat) (f3 : Nat → Int) (h3 : n3 ≤ 1000) (i : Int) (k : Int) (hi : -2147483648 ≤ i ∧ i ≤ 2147483647) (hk : -2147483648 ≤ k ∧ k ≤ 2147483647) : Ctr l G yX7_clause cX7_clause 3 ((Option.some Jvm.ClassFile.FieldType.int)) 2 0 0 [vr x, vi i, vi k] (fun w => isTx x a1 a2 a3 n3 f3 w) (fun w r w' => r = some (vi (if (0 ≤ i ∧ i < ((n3 : Nat) : Int)) ∧ 0 ≤ k ∧ k < 3 then f3 (3 * i.toNat + k.toNat) else -1)) ∧ w' = w) := by
  refine Ctr.of (t := tX7_clause) (lv0 := [some (vr x), some (vi i), some (vi k)]) (by decide +kernel) tX7_clause_ok rfl rfl (fun w g hP M => ?_)
  refine M.run 1 (pc' := 1) (lv' := [some (vr x), some (vi i), some (vi k)]) (st' := [vi i]) rfl ?_
  refine M.if_lt (tgt := 21) rfl (qI (by omega)) (by decide) (fun h1 => ?_) (fun h1 => ?_)
  · skip
    refine M.run 1 (pc' := 22) (lv' := [some (vr x), some (vi i), some (vi k)]) (st' := [vi (-1)]) rfl ?_
    exact M.iret rfl (Nat.zero_le _) (Nat.zero_le _) ⟨reI (if_neg (by omega)).symm, rfl⟩
  · skip
    refine M.run 2 (pc' := 6) (lv' := [some (vr x), some (vi i), some (vi k)]) (st' := [vr x, vi i]) rfl ?_
    refine M.callV (kX7_clauseCount l G x a1 a2 a3 n3 f3 h3) cv_X7_21 cd_X7_clauseCount rfl (st := [vi i]) rfl hP.1 (by decide) (by decide) rfl (Nat.zero_le _) (Nat.zero_le _) hP (fun r1 w2 q3 => ?_)
    rw [q3.1, q3.2]
    refine M.icmp_ge (tgt := 21) rfl (qI (by omega)) (qI (by omega)) (by decide) (fun h9 => ?_) (fun h9 => ?_)
    · skip
      refine M.run 1 (pc' := 22) (lv' := [some (vr x), some (vi i), some (vi k)]) (st' := [vi (-1)]) rfl ?_
      exact M.iret rfl (Nat.zero_le _) (Nat.zero_le _) ⟨reI (if_neg (by omega)).symm, rfl⟩
    · skip
      refine M.run 1 (pc' := 13) (lv' := [some (vr x), some (vi i), some (vi k)]) (st' := [vi k]) rfl ?_
      refine M.if_lt (tgt := 21) rfl (qI (by omega)) (by decide) (fun h13 => ?_) (fun h13 => ?_)
      · skip
        refine M.run 1 (pc' := 22) (lv' := [some (vr x), some (vi i), some (vi k)]) (st' := [vi (-1)]) rfl ?_
        exact M.iret rfl (Nat.zero_le _) (Nat.zero_le _) ⟨reI (if_neg (by omega)).symm, rfl⟩
      · skip
        refine M.run 2 (pc' := 18) (lv' := [some (vr x), some (vi i), some (vi k)]) (st' := [vi 2, vi k]) rfl ?_
        refine M.icmp_le (tgt := 23) rfl (qI (by omega)) (qI (by decide)) (by decide) (fun h18 => ?_) (fun h18 => ?_)
        · skip
          have hall : (0 ≤ i ∧ i < ((n3 : Nat) : Int)) ∧ 0 ≤ k ∧ k < 3 := by omega
          obtain ⟨e, rfl⟩ := Int.eq_ofNat_of_zero_le (show (0 : Int) ≤ i from hall.1.1)
          obtain ⟨c, rfl⟩ := Int.eq_ofNat_of_zero_le (show (0 : Int) ≤ k from hall.2.1)
          refine M.run 1 (pc' := 24) (lv' := [some (vr x), some (vi ((e : Nat) : Int)), some (vi ((c : Nat) : Int))]) (st' := [vr x]) rfl ?_
          refine M.get fl_X7_18 rfl hP.1 (kf := 2) (v := vr a3) rfl ?_
          refine M.run 5 (pc' := 32) (lv' := [some (vr x), some (vi ((e : Nat) : Int)), some (vi ((c : Nat) : Int))]) (st' := [vi ((((e : Nat) : Int) * 3) + ((c : Nat) : Int)), vr a3]) rfl ?_
          refine M.ialdN (e * 3 + c) rfl hP.2 (by omega) (by omega) ?_
          exact M.iret rfl (Nat.zero_le _) (Nat.zero_le _) ⟨reI (by rw [if_pos hall]; show f3 (e * 3 + c) = f3 (3 * e + c); rw [Nat.mul_comm]), rfl⟩
        · skip
          refine M.run 1 (pc' := 22) (lv' := [some (vr x), some (vi i), some (vi k)]) (st' := [vi (-1)]) rfl ?_
          exact M.iret rfl (Nat.zero_le _) (Nat.zero_le _) ⟨reI (if_neg (by omega)).symm, rfl⟩
set_option maxHeartbeats 4000000 in
set_option maxRecDepth 100000 in
theorem kX2_push (l : Launch) (G : GT) (p q t0 a0 n : Nat) (V : Nat → Int) (kd bl la : Int) (x : Int) (hn : n < 300) : Ctr l G yX2_push cX2_push 2 ((Option.none : Option Jvm.ClassFile.FieldType)) 1 0 0 [vr p, vi x] (fun w => isLa p q t0 a0 n V kd bl la w) (fun w r w' => r = none ∧ isLa p q t0 a0 (n + 1) (uN V n x) kd bl la w' ∧ Frm p q w w') := by
  refine Ctr.of (t := tX2_push) (lv0 := [some (vr p), some (vi x)]) (by decide +kernel) tX2_push_ok rfl rfl (fun w g hP M => ?_)
  have hpq : p ≠ q := hP.ne
  have hqp : q ≠ p := fun e => hpq e.symm
  refine M.run 1 (pc' := 1) (lv' := [some (vr p), some (vi x)]) (st' := [vr p]) rfl ?_
  refine M.get fl_X2_59 rfl hP.1 (kf := 3) (v := vi ((n : Nat) : Int)) rfl ?_
  refine M.if_lt (tgt := 19) rfl (qI (by omega)) (by decide) (fun h4 => ?_) (fun h4 => ?_)
  · skip
    omega
  · skip
    refine M.run 1 (pc' := 8) (lv' := [some (vr p), some (vi x)]) (st' := [vr p]) rfl ?_
    refine M.get fl_X2_59 rfl hP.1 (kf := 3) (v := vi ((n : Nat) : Int)) rfl ?_
    refine M.run 1 (pc' := 12) (lv' := [some (vr p), some (vi x)]) (st' := [vr p, vi ((n : Nat) : Int)]) rfl ?_
    refine M.get fl_X2_19 rfl hP.1 (kf := 2) (v := vr q) rfl ?_
    refine M.alen rfl hP.2 (by decide) ?_
    refine M.icmp_lt (tgt := 20) rfl (qI (by omega)) (qI (by omega)) (by decide) (fun h16 => ?_) (fun h16 => ?_)
    · skip
      refine M.run 1 (pc' := 21) (lv' := [some (vr p), some (vi x)]) (st' := [vr p]) rfl ?_
      refine M.get fl_X2_19 rfl hP.1 (kf := 2) (v := vr q) rfl ?_
      refine M.run 1 (pc' := 25) (lv' := [some (vr p), some (vi x)]) (st' := [vr p, vr q]) rfl ?_
      refine M.get fl_X2_59 rfl hP.1 (kf := 3) (v := vi ((n : Nat) : Int)) rfl ?_
      refine M.run 1 (pc' := 29) (lv' := [some (vr p), some (vi x)]) (st' := [vi x, vi ((n : Nat) : Int), vr q]) rfl ?_
      refine M.iastN (n) rfl hP.2 (by omega) (by decide) ?_
      have f2 : lk (up w q (Ar 0 300 (uN V n x))) p = some (Ob 1 [vr t0, vr a0, vr q, vi ((n : Nat) : Int), vi kd, vi bl, vi la]) := (lk_up_n hpq).trans hP.1
      have f3 : lk (up w q (Ar 0 300 (uN V n x))) q = some (Ar 0 300 (uN V n x)) := lk_up_s hP.2
      have fr4 : Frm p q w (up w q (Ar 0 300 (uN V n x))) := (Frm.rf).u2
      generalize up w q (Ar 0 300 (uN V n x)) = w1 at f2 f3 fr4 ⊢
      refine M.run 2 (pc' := 32) (lv' := [some (vr p), some (vi x)]) (st' := [vr p, vr p]) rfl ?_
      refine M.get fl_X2_59 rfl f2 (kf := 3) (v := vi ((n : Nat) : Int)) rfl ?_
      refine M.run 2 (pc' := 37) (lv' := [some (vr p), some (vi x)]) (st' := [vi (((n : Nat) : Int) + 1), vr p]) rfl ?_
      refine M.put fl_X2_59 rfl f2 rfl rfl (Nat.le_of_ble_eq_true rfl) ?_
      have f6 : lk (up w1 p (Ob 1 ([vr t0, vr a0, vr q, vi ((n : Nat) : Int), vi kd, vi bl, vi la].set 3 (vi (((n : Nat) : Int) + 1))))) p = some (Ob 1 [vr t0, vr a0, vr q, vi (((n : Nat) : Int) + 1), vi kd, vi bl, vi la]) := lk_up_s f2
      have f7 : lk (up w1 p (Ob 1 ([vr t0, vr a0, vr q, vi ((n : Nat) : Int), vi kd, vi bl, vi la].set 3 (vi (((n : Nat) : Int) + 1))))) q = some (Ar 0 300 (uN V n x)) := (lk_up_n hqp).trans f3
      have fr8 : Frm p q w (up w1 p (Ob 1 ([vr t0, vr a0, vr q, vi ((n : Nat) : Int), vi kd, vi bl, vi la].set 3 (vi (((n : Nat) : Int) + 1))))) := fr4.u1
      generalize up w1 p (Ob 1 ([vr t0, vr a0, vr q, vi ((n : Nat) : Int), vi kd, vi bl, vi la].set 3 (vi (((n : Nat) : Int) + 1)))) = w5 at f6 f7 fr8 ⊢
      exact M.vret rfl (Nat.zero_le _) (Nat.zero_le _) ⟨rfl, ⟨f6, f7⟩, fr8⟩
    · skip
      omega
set_option maxHeartbeats 4000000 in
set_option maxRecDepth 100000 in
theorem kX2_pop (l : Launch) (G : GT) (p q t0 a0 n : Nat) (V : Nat → Int) (kd bl la : Int) (hn : n < 300) : Ctr l G yX2_pop cX2_pop 1 ((Option.some Jvm.ClassFile.FieldType.int)) 1 0 0 [vr p] (fun w => isLa p q t0 a0 (n + 1) V kd bl la w) (fun w r w' => r = some (vi (V n)) ∧ isLa p q t0 a0 n V kd bl la w' ∧ Frm p q w w') := by
  refine Ctr.of (t := tX2_pop) (lv0 := [some (vr p)]) (by decide +kernel) tX2_pop_ok rfl rfl (fun w g hP M => ?_)
  have hpq : p ≠ q := hP.ne
  have hqp : q ≠ p := fun e => hpq e.symm
  refine M.run 1 (pc' := 1) (lv' := [some (vr p)]) (st' := [vr p]) rfl ?_
  refine M.get fl_X2_59 rfl hP.1 (kf := 3) (v := vi ((n + 1 : Nat) : Int)) rfl ?_
  refine M.run 1 (pc' := 5) (lv' := [some (vr p)]) (st' := [vi 1, vi ((n + 1 : Nat) : Int)]) rfl ?_
  refine M.icmp_lt (tgt := 20) rfl (qI (by omega)) (qI (by decide)) (by decide) (fun h5 => ?_) (fun h5 => ?_)
  · skip
    omega
  · skip
    refine M.run 1 (pc' := 9) (lv' := [some (vr p)]) (st' := [vr p]) rfl ?_
    refine M.get fl_X2_59 rfl hP.1 (kf := 3) (v := vi ((n + 1 : Nat) : Int)) rfl ?_
    refine M.run 1 (pc' := 13) (lv' := [some (vr p)]) (st' := [vr p, vi ((n + 1 : Nat) : Int)]) rfl ?_
    refine M.get fl_X2_19 rfl hP.1 (kf := 2) (v := vr q) rfl ?_
    refine M.alen rfl hP.2 (by decide) ?_
    refine M.icmp_le (tgt := 22) rfl (qI (by omega)) (qI (by omega)) (by decide) (fun h17 => ?_) (fun h17 => ?_)
    · skip
      refine M.run 2 (pc' := 24) (lv' := [some (vr p)]) (st' := [vr p, vr p]) rfl ?_
      refine M.get fl_X2_59 rfl hP.1 (kf := 3) (v := vi ((n + 1 : Nat) : Int)) rfl ?_
      refine M.run 2 (pc' := 29) (lv' := [some (vr p)]) (st' := [vi (((n + 1 : Nat) : Int) - 1), vr p]) rfl ?_
      rw [show ((n + 1 : Nat) : Int) - 1 = ((n : Nat) : Int) from by omega]
      refine M.put fl_X2_59 rfl hP.1 rfl rfl (Nat.le_of_ble_eq_true rfl) ?_
      have f2 : lk (up w p (Ob 1 ([vr t0, vr a0, vr q, vi ((n + 1 : Nat) : Int), vi kd, vi bl, vi la].set 3 (vi ((n : Nat) : Int))))) p = some (Ob 1 [vr t0, vr a0, vr q, vi ((n : Nat) : Int), vi kd, vi bl, vi la]) := lk_up_s hP.1
      have f3 : lk (up w p (Ob 1 ([vr t0, vr a0, vr q, vi ((n + 1 : Nat) : Int), vi kd, vi bl, vi la].set 3 (vi ((n : Nat) : Int))))) q = some (Ar 0 300 V) := (lk_up_n hqp).trans hP.2
      have fr4 : Frm p q w (up w p (Ob 1 ([vr t0, vr a0, vr q, vi ((n + 1 : Nat) : Int), vi kd, vi bl, vi la].set 3 (vi ((n : Nat) : Int))))) := (Frm.rf).u1
      generalize up w p (Ob 1 ([vr t0, vr a0, vr q, vi ((n + 1 : Nat) : Int), vi kd, vi bl, vi la].set 3 (vi ((n : Nat) : Int)))) = w1 at f2 f3 fr4 ⊢
      refine M.run 1 (pc' := 33) (lv' := [some (vr p)]) (st' := [vr p]) rfl ?_
      refine M.get fl_X2_19 rfl f2 (kf := 2) (v := vr q) rfl ?_
      refine M.run 1 (pc' := 37) (lv' := [some (vr p)]) (st' := [vr p, vr q]) rfl ?_
      refine M.get fl_X2_59 rfl f2 (kf := 3) (v := vi ((n : Nat) : Int)) rfl ?_
      refine M.ialdN (n) rfl f3 (by omega) (by decide) ?_
      exact M.iret rfl (Nat.zero_le _) (Nat.zero_le _) ⟨rfl, ⟨f2, f3⟩, fr4⟩
    · skip
      omega
set_option maxHeartbeats 4000000 in
set_option maxRecDepth 100000 in
theorem kX2_bytesOf (l : Launch) (G : GT) (p q n : Nat) (V : Nat → Int) (kd bl la : Int) (T A : Nat → Nat) (tl fx sc : Nat → Int) (RL : Nat → List Rw) (hT : Tok tl) (hR : (RL 0).length = 3) (x : Int) (hx : -2147483648 ≤ x ∧ x ≤ 2147483647) (c : Nat) (hc : c < 7) (hbits : ∀ i k : Nat, i < 3 → k = c → 0 ≤ gR (RL 0) i k ∧ gR (RL 0) i k < 1073741824) : Ctr l G yX2_bytesOf cX2_bytesOf 3 ((Option.some Jvm.ClassFile.FieldType.int)) 2 0 0 [vr p, vi x, vi ((c : Nat) : Int)] (fun w => isLa p q (T 0) (A 0) n V kd bl la w ∧ isTo T tl fx w ∧ isS2 A sc RL w) (fun w r w' => r = some (vi (if 0 ≤ x ∧ x < tl 0 then ((bPc (gR (RL 0) x.toNat c).toNat : Nat) : Int) else 0)) ∧ w' = w) := by
  refine Ctr.of (t := tX2_bytesOf) (lv0 := [some (vr p), some (vi x), some (vi ((c : Nat) : Int))]) (by decide +kernel) tX2_bytesOf_ok rfl rfl (fun w g hP M => ?_)
  have hk0 : 0 ≤ tl 0 ∧ tl 0 ≤ 3 := hT.1 0 (by decide)
  refine M.run 1 (pc' := 1) (lv' := [some (vr p), some (vi x), some (vi ((c : Nat) : Int))]) (st' := [vr p]) rfl ?_
  refine M.get fl_X2_9 rfl hP.1.1 (kf := 0) (v := vr (T 0)) rfl ?_
  refine M.run 1 (pc' := 5) (lv' := [some (vr p), some (vi x), some (vi ((c : Nat) : Int))]) (st' := [vi x, vr (T 0)]) rfl ?_
  refine M.callV (kX9_hasBlock l G T tl fx hT x (by omega)) cv_X2_80 cd_X9_hasBlock rfl (st := []) rfl hP.2.1.1 (by decide) (by decide) rfl (Nat.zero_le _) (Nat.zero_le _) hP.2.1 (fun r1 w2 q3 => ?_)
  rw [q3.1, q3.2]
  refine M.if_eq (tgt := 29) rfl (inI_zb _) (by decide) (fun h8 => ?_) (fun h8 => ?_)
  · skip
    replace h8 := zb_fd h8
    refine M.run 1 (pc' := 30) (lv' := [some (vr p), some (vi x), some (vi ((c : Nat) : Int))]) (st' := [vi 0]) rfl ?_
    exact M.iret rfl (Nat.zero_le _) (Nat.zero_le _) ⟨reI (if_neg h8).symm, rfl⟩
  · skip
    replace h8 := zb_td h8
    refine M.run 1 (pc' := 12) (lv' := [some (vr p), some (vi x), some (vi ((c : Nat) : Int))]) (st' := [vr p]) rfl ?_
    refine M.get fl_X2_15 rfl hP.1.1 (kf := 1) (v := vr (A 0)) rfl ?_
    refine M.get fl_X2_84 rfl hP.2.2.1 (kf := 5) (v := vr (A 1)) rfl ?_
    refine M.run 2 (pc' := 20) (lv' := [some (vr p), some (vi x), some (vi ((c : Nat) : Int))]) (st' := [vi ((c : Nat) : Int), vi x, vr (A 1)]) rfl ?_
    refine M.callV (kX4_get7 l G (A 1) (A 2) 3 (by decide) (RL 0) x ((c : Nat) : Int) (by omega) (by omega)) cv_X2_90 cd_X4_get rfl (st := []) rfl ((hP.2.2.2.1 0 (by decide)).1) (by decide) (by decide) rfl (Nat.zero_le _) (Nat.zero_le _) (hP.2.2.2.1 0 (by decide)) (fun r5 w6 q7 => ?_)
    rw [q7.1, q7.2]
    have hx3 := h8
    obtain ⟨hb0, hb1⟩ := hbits x.toNat c (by omega) (by omega)
    obtain ⟨z, hz⟩ := Int.eq_ofNat_of_zero_le hb0
    have hzb : z < 1073741824 := by omega
    have hzz : z = (z % 256 + 256 * (z / 256 % 256) + 65536 * (z / 65536 % 256) + 16777216 * (z / 16777216)) := by omega
    have hall : (0 ≤ x ∧ x < (((RL 0).length : Nat) : Int)) ∧ (0 : Int) ≤ ((c : Nat) : Int) ∧ ((c : Nat) : Int) < 7 := by omega
    rw [show (if (0 ≤ x ∧ x < (((RL 0).length : Nat) : Int)) ∧ 0 ≤ ((c : Nat) : Int) ∧ ((c : Nat) : Int) < 7 then gR (RL 0) (x).toNat (((c : Nat) : Int)).toNat else -2) = (((z % 256 + 256 * (z / 256 % 256) + 65536 * (z / 65536 % 256) + 16777216 * (z / 16777216)) : Nat) : Int) from (if_pos hall).trans (by rw [Int.toNat_natCast, hz]; exact congrArg Int.ofNat hzz)]
    refine M.callS (kJ6_bc l G (z % 256) (z / 256 % 256) (z / 65536 % 256) (z / 16777216) (by omega) (by omega) (by omega) (by omega)) cs_X2_95 cd_J6_bitCount_0f7a4 rfl (st := []) rfl (by decide) (by decide) rfl (Nat.zero_le _) (Nat.zero_le _) trivial (fun r9 w10 q11 => ?_)
    rw [q11.1, q11.2, ← hzz]
    generalize hbz : bPc z = bz
    refine M.run 1 (pc' := 30) (lv' := [some (vr p), some (vi x), some (vi ((c : Nat) : Int))]) (st' := [vi ((bz : Nat) : Int)]) rfl ?_
    exact M.iret rfl (Nat.zero_le _) (Nat.zero_le _) ⟨reI (by rw [if_pos hx3, hz, Int.toNat_natCast, hbz]), rfl⟩
