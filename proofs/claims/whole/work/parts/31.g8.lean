def pB (L : List Rw) (c i : Nat) : Bool := decide (gR L i 1 = ((c : Nat) : Int))
theorem mMsg_e {D : Dy} {c : Nat} : mMsg D c = mCnt (pB (D.2.1 0) c) (D.2.1 0).length + mCnt (pB (D.2.1 1) c) (D.2.1 1).length + mCnt (pB D.2.2.1 c) D.2.2.1.length := rfl
theorem ms9 {m sd A B x : Nat} (hs : sd < 2) (h2 : m = (if sd = 0 then 0 else A) + x) (h0 : sd = 0 → x = A) (h1 : sd = 1 → x = B) : m = (if sd + 1 = 0 then 0 else if sd + 1 = 1 then A else A + B) := by
  have hs3 : sd = 0 ∨ sd = 1 := by omega
  rcases hs3 with e | e
  · have := h0 e; subst e; rw [if_pos rfl] at h2; rw [if_neg (by omega), if_pos rfl]; omega
  · have := h1 e; subst e; rw [if_neg (by omega)] at h2; rw [if_neg (by omega), if_neg (by omega)]; omega
theorem ms0 {m sd A B : Nat} (hs : sd < 2) (h : m = (if sd = 0 then 0 else if sd = 1 then A else B)) : m = (if sd = 0 then 0 else A) + 0 := by
  have hs3 : sd = 0 ∨ sd = 1 := by omega
  rcases hs3 with e | e
  · subst e; rw [if_pos rfl] at h; rw [if_pos rfl]; exact h
  · subst e; rw [if_neg (by omega), if_pos rfl] at h; rw [if_neg (by omega)]; exact h
theorem gcd_s {p q : Nat} : Nat.gcd q (p % q) = Nat.gcd p q := by
  rw [Nat.gcd_comm q (p % q), Nat.gcd_comm p q]
  exact (Nat.gcd_rec q p).symm

set_option maxHeartbeats 4000000 in
set_option maxRecDepth 100000 in
theorem kX11_divisor (l : Launch) (G : GT) (x y : Nat) (hx : x ≤ 1000000000000000000) (hy : y ≤ 1000000000000000000) : Ctr l G yX11_divisor cX11_divisor 10 ((Option.some Jvm.ClassFile.FieldType.long)) 1 0 0 [vl ((x : Nat) : Int), vl ((y : Nat) : Int)] (fun w => True) (fun w r w' => r = some (vl ((Nat.gcd x y : Nat) : Int)) ∧ w' = w) := by
  refine Ctr.of (t := tX11_divisor) (lv0 := [some (vl ((x : Nat) : Int)), none, some (vl ((y : Nat) : Int)), none, none, none, none, none, none, none]) (by decide +kernel) tX11_divisor_ok rfl rfl (fun w g hP M => ?_)
  refine M.run 4 (pc' := 6) (lv' := [some (vl ((x : Nat) : Int)), none, some (vl ((y : Nat) : Int)), none, some (vl ((x : Nat) : Int)), none, some (vl ((y : Nat) : Int)), none, none, none]) (st' := []) rfl ?_
  have Lp6 : ∀ (N : Nat) (p : Nat) (q : Nat), (Nat.gcd p q = Nat.gcd x y) → (p ≤ 1000000000000000000) → (q ≤ 1000000000000000000) → q < N → g 0 0 w 6 [some (vl ((x : Nat) : Int)), none, some (vl ((y : Nat) : Int)), none, some (vl ((p : Nat) : Int)), none, some (vl ((q : Nat) : Int)), none, none, none] [] := by
    intro N
    induction N with
    | zero => intro p q _ _ _ hN; exact absurd hN (Nat.not_lt_zero _)
    | succ N ih6 =>
      intro p q hg hp hq hN
      refine M.run 2 (pc' := 9) (lv' := [some (vl ((x : Nat) : Int)), none, some (vl ((y : Nat) : Int)), none, some (vl ((p : Nat) : Int)), none, some (vl ((q : Nat) : Int)), none, none, none]) (st' := [vl 0, vl ((q : Nat) : Int)]) rfl ?_
      refine M.lcmp rfl (qL (by omega)) (qL (by decide)) ?_
      refine M.if_eq (tgt := 31) rfl (qI (by omega)) (by decide) (fun h10 => ?_) (fun h10 => ?_)
      · skip
        replace h10 := lc_eq_t h10
        refine M.run 1 (pc' := 33) (lv' := [some (vl ((x : Nat) : Int)), none, some (vl ((y : Nat) : Int)), none, some (vl ((p : Nat) : Int)), none, some (vl ((q : Nat) : Int)), none, none, none]) (st' := [vl ((p : Nat) : Int)]) rfl ?_
        exact M.lret rfl (Nat.zero_le _) (Nat.zero_le _) ⟨reL (by rw [show q = 0 by omega, Nat.gcd_zero_right] at hg; rw [hg]), rfl⟩
      · skip
        replace h10 := lc_eq_f h10
        have hlt := Nat.mod_lt p (show 0 < q by omega)
        refine M.run 2 (pc' := 17) (lv' := [some (vl ((x : Nat) : Int)), none, some (vl ((y : Nat) : Int)), none, some (vl ((p : Nat) : Int)), none, some (vl ((q : Nat) : Int)), none, none, none]) (st' := [vl ((q : Nat) : Int), vl ((p : Nat) : Int)]) rfl ?_
        refine M.lrem rfl (qL (by omega)) (qL (by omega)) h10 ?_
        rw [show ((p : Nat) : Int).tmod ((q : Nat) : Int) = ((p % q : Nat) : Int) from by rw [Int.tmod_eq_emod_of_nonneg (by omega)]; rfl]
        refine M.run 6 (pc' := 6) (lv' := [some (vl ((x : Nat) : Int)), none, some (vl ((y : Nat) : Int)), none, some (vl ((q : Nat) : Int)), none, some (vl ((p % q : Nat) : Int)), none, some (vl ((p % q : Nat) : Int)), none]) (st' := []) rfl ?_
        refine M.fgt [false, false, false, false, false, false, false, false, true, false] ?_
        exact ih6 q (p % q) (gcd_s.trans hg) hq (by omega) (by omega)
  exact Lp6 _ x y rfl hx hy (Nat.lt_succ_self _)
set_option maxHeartbeats 4000000 in
set_option maxRecDepth 100000 in
theorem vX11_messagesOf (l : Launch) (G : GT) (o : Nat) (am : Nat → Nat) (u tl : Nat → Int) (b0 : Nat → Nat → Int) (D : Dy) (L : List Dy) (n : Int) (hT : Tok tl) (hd : Dok n D) (hi : Inv D) (hc9 : D.1 18 ≤ 9999) (hL : Lok n L) (hn : 0 ≤ n ∧ n ≤ 800000000) (hu : u 23 = 0 ∨ u 23 = 1) (X : Nat → Int → Option Gn) (hX : TxOk (b0 2) X (tl 1) ∧ tl 2 < tl 1) (c : Nat) (hc : c < 3) : Ctr l G yX11_messagesOf cX11_messagesOf 5 ((Option.some Jvm.ClassFile.FieldType.int)) 2 0 0 [vr o, vi ((c : Nat) : Int)] (fun w => isT o am u tl b0 D L w) (fun w r w' => r = some (vi (((mMsg D c : Nat) : Int))) ∧ w' = w) := by
  refine Ctr.of (t := tX11_messagesOf) (lv0 := [some (vr o), some (vi ((c : Nat) : Int)), none, none, none]) (by decide +kernel) tX11_messagesOf_ok rfl rfl (fun w g hP M => ?_)
  obtain ⟨a0, ⟨a, b, hM, hR, hF, hB⟩, hTE, hRg⟩ := hP
  have ht : Tok a0 := Tok_R hT hTE hRg
  have hk_f := Dok_f hd
  have hk_l_0 := Dok_l hd (s := 0) (by omega)
  have hk_l_1 := Dok_l hd (s := 1) (by omega)
  have k0 := mCnt_le (pB (D.2.1 0) c)
  have k1 := mCnt_le (pB (D.2.1 1) c)
  have k2 := mCnt_le (pB D.2.2.1 c)
  have k0l := k0 (D.2.1 0).length
  have k1l := k1 (D.2.1 1).length
  refine M.run 4 (pc' := 4) (lv' := [some (vr o), some (vi ((c : Nat) : Int)), some (vi 0), some (vi 0), none]) (st' := []) rfl ?_
  have Lp4 : ∀ (N : Nat) (m : Nat) (sd : Nat), (m = (if sd = 0 then 0 else if sd = 1 then mCnt (pB (D.2.1 0) c) (D.2.1 0).length else mCnt (pB (D.2.1 0) c) (D.2.1 0).length + mCnt (pB (D.2.1 1) c) (D.2.1 1).length)) → (sd ≤ 2) → 2 - sd < N → g 0 0 w 4 [some (vr o), some (vi ((c : Nat) : Int)), some (vi ((m : Nat) : Int)), some (vi ((sd : Nat) : Int)), none] [] := by
    intro N
    induction N with
    | zero => intro m sd _ _ hN; exact absurd hN (Nat.not_lt_zero _)
    | succ N ih4 =>
      intro m sd hm hs hN
      refine M.run 2 (pc' := 6) (lv' := [some (vr o), some (vi ((c : Nat) : Int)), some (vi ((m : Nat) : Int)), some (vi ((sd : Nat) : Int)), none]) (st' := [vi 2, vi ((sd : Nat) : Int)]) rfl ?_
      refine M.icmp_ge (tgt := 63) rfl (qI (by omega)) (qI (by decide)) (by decide) (fun h6 => ?_) (fun h6 => ?_)
      · skip
        refine M.run 2 (pc' := 65) (lv' := [some (vr o), some (vi ((c : Nat) : Int)), some (vi ((m : Nat) : Int)), some (vi 0), none]) (st' := []) rfl ?_
        have Lp65 : ∀ (N : Nat) (m : Nat) (i : Nat), (m = mCnt (pB (D.2.1 0) c) (D.2.1 0).length + mCnt (pB (D.2.1 1) c) (D.2.1 1).length + mCnt (pB D.2.2.1 c) i) → (i ≤ D.2.2.1.length) → D.2.2.1.length - i < N → g 0 0 w 65 [some (vr o), some (vi ((c : Nat) : Int)), some (vi ((m : Nat) : Int)), some (vi ((i : Nat) : Int)), none] [] := by
          intro N
          induction N with
          | zero => intro m i _ _ hN; exact absurd hN (Nat.not_lt_zero _)
          | succ N ih65 =>
            intro m i hm3 hi3 hN
            refine M.run 2 (pc' := 67) (lv' := [some (vr o), some (vi ((c : Nat) : Int)), some (vi ((m : Nat) : Int)), some (vi ((i : Nat) : Int)), none]) (st' := [vr o, vi ((i : Nat) : Int)]) rfl ?_
            refine M.get fl_X11_7 rfl (isM_o hM) (kf := 0) (v := vr (am 0)) rfl ?_
            refine M.run 1 (pc' := 72) (lv' := [some (vr o), some (vi ((c : Nat) : Int)), some (vi ((m : Nat) : Int)), some (vi ((i : Nat) : Int)), none]) (st' := [vi 26, vr (am 0), vi ((i : Nat) : Int)]) rfl ?_
            refine M.ialdN (26) rfl (isM_a hM) (by decide) (by decide) ?_
            rw [show a 26 = ((D.2.2.1.length : Nat) : Int) from Rp_f hR]
            refine M.icmp_ge (tgt := 105) rfl (qI (by omega)) (qI (by omega)) (by decide) (fun h73 => ?_) (fun h73 => ?_)
            · skip
              refine M.run 1 (pc' := 106) (lv' := [some (vr o), some (vi ((c : Nat) : Int)), some (vi ((m : Nat) : Int)), some (vi ((i : Nat) : Int)), none]) (st' := [vi ((m : Nat) : Int)]) rfl ?_
              exact M.iret rfl (Nat.zero_le _) (Nat.zero_le _) ⟨reI (by rw [mMsg_e, hm3, show i = D.2.2.1.length by omega]), rfl⟩
            · skip
              obtain ⟨q0, q1, q2, q3, q4, q5, q6, q7, q8, q9⟩ := Dok_fr hd (i := i) (by omega)
              have k2i := k2 i
              refine M.run 2 (pc' := 78) (lv' := [some (vr o), some (vi ((c : Nat) : Int)), some (vi ((m : Nat) : Int)), some (vi ((i : Nat) : Int)), none]) (st' := [vr o, vi ((m : Nat) : Int)]) rfl ?_
              refine M.get fl_X11_7 rfl (isM_o hM) (kf := 0) (v := vr (am 0)) rfl ?_
              refine M.run 1 (pc' := 82) (lv' := [some (vr o), some (vi ((c : Nat) : Int)), some (vi ((m : Nat) : Int)), some (vi ((i : Nat) : Int)), none]) (st' := [vi ((i : Nat) : Int), vr (am 0), vi ((m : Nat) : Int)]) rfl ?_
              refine M.callS (kX11_flightAt l G i (by omega)) cs_X11_298 cd_X11_flightAt rfl (st := [vr (am 0), vi ((m : Nat) : Int)]) rfl (by decide) (by decide) rfl (Nat.zero_le _) (Nat.zero_le _) trivial (fun r1 w2 q3 => ?_)
              rw [q3.1, q3.2]
              refine M.run 2 (pc' := 87) (lv' := [some (vr o), some (vi ((c : Nat) : Int)), some (vi ((m : Nat) : Int)), some (vi ((i : Nat) : Int)), none]) (st' := [vi (((385 + 9 * i : Nat) : Int) + 1), vr (am 0), vi ((m : Nat) : Int)]) rfl ?_
              refine M.ialdN (385 + 9 * i + 1) rfl (isM_a hM) (by omega) (by decide) ?_
              rw [show a (385 + 9 * i + 1) = gR D.2.2.1 i 1 from Rp_fr hR (i := i) (k := 1) (by omega) (by decide)]
              refine M.run 1 (pc' := 89) (lv' := [some (vr o), some (vi ((c : Nat) : Int)), some (vi ((m : Nat) : Int)), some (vi ((i : Nat) : Int)), none]) (st' := [vi ((c : Nat) : Int), vi (gR D.2.2.1 i 1), vi ((m : Nat) : Int)]) rfl ?_
              refine M.icmp_ne (tgt := 96) rfl (qI (by omega)) (qI (by omega)) (by decide) (fun h89 => ?_) (fun h89 => ?_)
              · skip
                have hq89 : ¬ (pB D.2.2.1 c) i = true := fun q => h89 (of_decide_eq_true q)
                refine M.run 5 (pc' := 65) (lv' := [some (vr o), some (vi ((c : Nat) : Int)), some (vi (((m : Nat) : Int) + 0)), some (vi (((i : Nat) : Int) + 1)), none]) (st' := []) rfl ?_
                exact ih65 (m + 0) (i + 1) (by rw [hm3]; have q := mCnt_n hq89; omega) (by omega) (by omega)
              · skip
                have hq89 : (pB D.2.2.1 c) i = true := decide_eq_true h89
                refine M.run 6 (pc' := 65) (lv' := [some (vr o), some (vi ((c : Nat) : Int)), some (vi (((m : Nat) : Int) + 1)), some (vi (((i : Nat) : Int) + 1)), none]) (st' := []) rfl ?_
                exact ih65 (m + 1) (i + 1) (by rw [hm3]; have q := mCnt_y hq89; omega) (by omega) (by omega)
        exact Lp65 _ m 0 (by rw [hm, if_neg (by omega), if_neg (by omega)]; rfl) (Nat.zero_le _) (Nat.lt_succ_self _)
      · skip
        refine M.run 2 (pc' := 12) (lv' := [some (vr o), some (vi ((c : Nat) : Int)), some (vi ((m : Nat) : Int)), some (vi ((sd : Nat) : Int)), some (vi 0)]) (st' := []) rfl ?_
        have Lp12 : ∀ (N : Nat) (m : Nat) (i : Nat), (m = (if sd = 0 then 0 else mCnt (pB (D.2.1 0) c) (D.2.1 0).length) + mCnt (pB (D.2.1 sd) c) i) → (i ≤ (D.2.1 sd).length) → (D.2.1 sd).length - i < N → g 0 0 w 12 [some (vr o), some (vi ((c : Nat) : Int)), some (vi ((m : Nat) : Int)), some (vi ((sd : Nat) : Int)), some (vi ((i : Nat) : Int))] [] := by
          intro N
          induction N with
          | zero => intro m i _ _ hN; exact absurd hN (Nat.not_lt_zero _)
          | succ N ih12 =>
            intro m i hm2 hi2 hN
            refine M.run 2 (pc' := 15) (lv' := [some (vr o), some (vi ((c : Nat) : Int)), some (vi ((m : Nat) : Int)), some (vi ((sd : Nat) : Int)), some (vi ((i : Nat) : Int))]) (st' := [vr o, vi ((i : Nat) : Int)]) rfl ?_
            have hls := Dok_l hd (s := sd) (by omega)
            have ksl := mCnt_le (pB (D.2.1 sd) c) i
            refine M.get fl_X11_7 rfl (isM_o hM) (kf := 0) (v := vr (am 0)) rfl ?_
            refine M.run 3 (pc' := 22) (lv' := [some (vr o), some (vi ((c : Nat) : Int)), some (vi ((m : Nat) : Int)), some (vi ((sd : Nat) : Int)), some (vi ((i : Nat) : Int))]) (st' := [vi (24 + ((sd : Nat) : Int)), vr (am 0), vi ((i : Nat) : Int)]) rfl ?_
            refine M.ialdN (24 + sd) rfl (isM_a hM) (by omega) (by decide) ?_
            rw [show a (24 + sd) = (((D.2.1 sd).length : Nat) : Int) from Rp_l hR (s := sd) (by omega)]
            refine M.icmp_ge (tgt := 57) rfl (qI (by omega)) (qI (by omega)) (by decide) (fun h23 => ?_) (fun h23 => ?_)
            · skip
              have hm9 : m = (if sd + 1 = 0 then 0 else if sd + 1 = 1 then mCnt (pB (D.2.1 0) c) (D.2.1 0).length else mCnt (pB (D.2.1 0) c) (D.2.1 0).length + mCnt (pB (D.2.1 1) c) (D.2.1 1).length) := ms9 (by omega) hm2 (fun e => by subst e; rw [show i = (D.2.1 0).length by omega]) (fun e => by subst e; rw [show i = (D.2.1 1).length by omega])
              refine M.run 2 (pc' := 4) (lv' := [some (vr o), some (vi ((c : Nat) : Int)), some (vi ((m : Nat) : Int)), some (vi (((sd : Nat) : Int) + 1)), some (vi ((i : Nat) : Int))]) (st' := []) rfl ?_
              refine M.fgt [false, false, false, false, true] ?_
              exact ih4 m (sd + 1) hm9 (by omega) (by omega)
            · skip
              obtain ⟨q0, q1, q2, q3, q4, q5, q6, q7, q8, q9⟩ := Dok_lr hd (s := sd) (i := i) (by omega) (by omega)
              refine M.run 2 (pc' := 28) (lv' := [some (vr o), some (vi ((c : Nat) : Int)), some (vi ((m : Nat) : Int)), some (vi ((sd : Nat) : Int)), some (vi ((i : Nat) : Int))]) (st' := [vr o, vi ((m : Nat) : Int)]) rfl ?_
              refine M.get fl_X11_7 rfl (isM_o hM) (kf := 0) (v := vr (am 0)) rfl ?_
              refine M.run 2 (pc' := 34) (lv' := [some (vr o), some (vi ((c : Nat) : Int)), some (vi ((m : Nat) : Int)), some (vi ((sd : Nat) : Int)), some (vi ((i : Nat) : Int))]) (st' := [vi ((i : Nat) : Int), vi ((sd : Nat) : Int), vr (am 0), vi ((m : Nat) : Int)]) rfl ?_
              refine M.callS (kX11_outAt l G sd i (by omega) (by omega)) cs_X11_292 cd_X11_outAt rfl (st := [vr (am 0), vi ((m : Nat) : Int)]) rfl (by decide) (by decide) rfl (Nat.zero_le _) (Nat.zero_le _) trivial (fun r5 w6 q7 => ?_)
              rw [q7.1, q7.2]
              refine M.run 2 (pc' := 39) (lv' := [some (vr o), some (vi ((c : Nat) : Int)), some (vi ((m : Nat) : Int)), some (vi ((sd : Nat) : Int)), some (vi ((i : Nat) : Int))]) (st' := [vi (((49 + 7 * (24 * sd + i) : Nat) : Int) + 1), vr (am 0), vi ((m : Nat) : Int)]) rfl ?_
              refine M.ialdN (49 + 7 * (24 * sd + i) + 1) rfl (isM_a hM) (by omega) (by decide) ?_
              rw [show a (49 + 7 * (24 * sd + i) + 1) = gR (D.2.1 sd) i 1 from (show _ = gR (D.2.1 sd) i 1 from by rw [← Rp_lr hR (s := sd) (i := i) (k := 1) (by omega) (by omega) (by omega)]; congr 1; omega)]
              refine M.run 1 (pc' := 41) (lv' := [some (vr o), some (vi ((c : Nat) : Int)), some (vi ((m : Nat) : Int)), some (vi ((sd : Nat) : Int)), some (vi ((i : Nat) : Int))]) (st' := [vi ((c : Nat) : Int), vi (gR (D.2.1 sd) i 1), vi ((m : Nat) : Int)]) rfl ?_
              refine M.icmp_ne (tgt := 48) rfl (qI (by omega)) (qI (by omega)) (by decide) (fun h41 => ?_) (fun h41 => ?_)
              · skip
                have hq41 : ¬ (pB (D.2.1 sd) c) i = true := fun q => h41 (of_decide_eq_true q)
                refine M.run 5 (pc' := 12) (lv' := [some (vr o), some (vi ((c : Nat) : Int)), some (vi (((m : Nat) : Int) + 0)), some (vi ((sd : Nat) : Int)), some (vi (((i : Nat) : Int) + 1))]) (st' := []) rfl ?_
                exact ih12 (m + 0) (i + 1) (by rw [hm2]; have q := mCnt_n hq41; omega) (by omega) (by omega)
              · skip
                have hq41 : (pB (D.2.1 sd) c) i = true := decide_eq_true h41
                refine M.run 6 (pc' := 12) (lv' := [some (vr o), some (vi ((c : Nat) : Int)), some (vi (((m : Nat) : Int) + 1)), some (vi ((sd : Nat) : Int)), some (vi (((i : Nat) : Int) + 1))]) (st' := []) rfl ?_
                exact ih12 (m + 1) (i + 1) (by rw [hm2]; have q := mCnt_y hq41; omega) (by omega) (by omega)
        exact Lp12 _ m 0 (ms0 (by omega) hm) (Nat.zero_le _) (Nat.lt_succ_self _)
  exact Lp4 _ 0 0 rfl (by omega) (Nat.lt_succ_self _)
set_option maxHeartbeats 4000000 in
set_option maxRecDepth 100000 in
theorem vX11_busiest (l : Launch) (G : GT) (o : Nat) (am : Nat → Nat) (u tl : Nat → Int) (b0 : Nat → Nat → Int) (D : Dy) (L : List Dy) (n : Int) (hT : Tok tl) (hd : Dok n D) (hi : Inv D) (hc9 : D.1 18 ≤ 9999) (hL : Lok n L) (hn : 0 ≤ n ∧ n ≤ 800000000) (hu : u 23 = 0 ∨ u 23 = 1) (X : Nat → Int → Option Gn) (hX : TxOk (b0 2) X (tl 1) ∧ tl 2 < tl 1)  : Ctr l G yX11_busiest cX11_busiest 3 ((Option.some Jvm.ClassFile.FieldType.int)) 4 0 0 [vr o] (fun w => isT o am u tl b0 D L w) (fun w r w' => r = some (vi (mBus D (tl 0).toNat)) ∧ w' = w) := by
  refine Ctr.of (t := tX11_busiest) (lv0 := [some (vr o), none, none]) (by decide +kernel) tX11_busiest_ok rfl rfl (fun w g hP M => ?_)
  obtain ⟨a0, ⟨a, b, hM, hR, hF, hB⟩, hTE, hRg⟩ := hP
  have ht : Tok a0 := Tok_R hT hTE hRg
  have hk0 : 0 ≤ tl 0 ∧ tl 0 ≤ 3 := hT.1 0 (by decide)
  refine M.run 4 (pc' := 4) (lv' := [some (vr o), some (vi (-1)), some (vi 0)]) (st' := []) rfl ?_
  have Lp4 : ∀ (N : Nat) (z : Int) (k : Nat), (z = mBus D k) → (((k : Nat) : Int) ≤ tl 0) → (tl 0).toNat - k < N → g 0 0 w 4 [some (vr o), some (vi z), some (vi ((k : Nat) : Int))] [] := by
    intro N
    induction N with
    | zero => intro z k _ _ hN; exact absurd hN (Nat.not_lt_zero _)
    | succ N ih4 =>
      intro z k hz hk hN
      refine M.run 2 (pc' := 6) (lv' := [some (vr o), some (vi z), some (vi ((k : Nat) : Int))]) (st' := [vr o, vi ((k : Nat) : Int)]) rfl ?_
      refine M.get fl_X11_7 rfl (isM_o hM) (kf := 0) (v := vr (am 0)) rfl ?_
      refine M.run 1 (pc' := 10) (lv' := [some (vr o), some (vi z), some (vi ((k : Nat) : Int))]) (st' := [vi 0, vr (am 0), vi ((k : Nat) : Int)]) rfl ?_
      refine M.ialdN (0) rfl (isM_a hM) (by decide) (by decide) ?_
      rw [show a 0 = tl 0 from (hF 0 (Or.inl (by decide))).trans (hTE.1 0 (by decide) (by decide) (by decide))]
      refine M.icmp_ge (tgt := 44) rfl (qI (by omega)) (qI (by omega)) (by decide) (fun h11 => ?_) (fun h11 => ?_)
      · skip
        refine M.run 1 (pc' := 45) (lv' := [some (vr o), some (vi z), some (vi ((k : Nat) : Int))]) (st' := [vi z]) rfl ?_
        exact M.iret rfl (Nat.zero_le _) (Nat.zero_le _) ⟨reI (by rw [hz, show (tl 0).toNat = k by omega]), rfl⟩
      · skip
        have hbb := mBus_b (D := D) k
        rw [← hz] at hbb
        have hss : mBus D (k + 1) = if (if z = -1 then 0 else mMsg D z.toNat) < mMsg D k then ((k : Nat) : Int) else z := by rw [hz]; rfl
        refine M.run 2 (pc' := 16) (lv' := [some (vr o), some (vi z), some (vi ((k : Nat) : Int))]) (st' := [vi ((k : Nat) : Int), vr o]) rfl ?_
        refine M.callV (vX11_messagesOf l G o am u tl b0 D L n hT hd hi hc9 (Lok_mono (by omega) hL) (by omega) hu X hX k (by omega)) cv_X11_473 cd_X11_messagesOf rfl (st := []) rfl (isM_o hM) (by decide) (by decide) rfl (Nat.zero_le _) (Nat.zero_le _) ⟨a0, ⟨_, _, hM, hR, hF, hB⟩, hTE, hRg⟩ (fun r1 w2 q3 => ?_)
        rw [q3.1, q3.2]
        have hmm := mMsg_le hd k
        refine M.run 2 (pc' := 21) (lv' := [some (vr o), some (vi z), some (vi ((k : Nat) : Int))]) (st' := [vi (-1), vi z, vi ((mMsg D k : Nat) : Int)]) rfl ?_
        refine M.icmp_ne (tgt := 28) rfl (qI (by omega)) (qI (by decide)) (by decide) (fun h21 => ?_) (fun h21 => ?_)
        · skip
          refine M.run 2 (pc' := 30) (lv' := [some (vr o), some (vi z), some (vi ((k : Nat) : Int))]) (st' := [vi z, vr o, vi ((mMsg D k : Nat) : Int)]) rfl ?_
          rw [show z = ((z.toNat : Nat) : Int) from (Int.toNat_of_nonneg (by omega)).symm]
          refine M.callV (vX11_messagesOf l G o am u tl b0 D L n hT hd hi hc9 (Lok_mono (by omega) hL) (by omega) hu X hX z.toNat (by omega)) cv_X11_473 cd_X11_messagesOf rfl (st := [vi ((mMsg D k : Nat) : Int)]) rfl (isM_o hM) (by decide) (by decide) rfl (Nat.zero_le _) (Nat.zero_le _) ⟨a0, ⟨_, _, hM, hR, hF, hB⟩, hTE, hRg⟩ (fun r5 w6 q7 => ?_)
          rw [q7.1, q7.2]
          have hmm := mMsg_le hd z.toNat
          refine M.icmp_le (tgt := 38) rfl (qI (by omega)) (qI (by omega)) (by decide) (fun h33 => ?_) (fun h33 => ?_)
          · skip
            have hz2 : ((z.toNat : Nat) : Int) = mBus D (k + 1) := by rw [hss]; (repeat' split) <;> omega
            refine M.run 2 (pc' := 4) (lv' := [some (vr o), some (vi ((z.toNat : Nat) : Int)), some (vi (((k : Nat) : Int) + 1))]) (st' := []) rfl ?_
            exact ih4 ((z.toNat : Nat) : Int) (k + 1) hz2 (by omega) (by omega)
          · skip
            refine M.run 2 (pc' := 38) (lv' := [some (vr o), some (vi ((k : Nat) : Int)), some (vi ((k : Nat) : Int))]) (st' := []) rfl ?_
            have hz2 : ((k : Nat) : Int) = mBus D (k + 1) := by rw [hss]; (repeat' split) <;> omega
            refine M.run 2 (pc' := 4) (lv' := [some (vr o), some (vi ((k : Nat) : Int)), some (vi (((k : Nat) : Int) + 1))]) (st' := []) rfl ?_
            exact ih4 ((k : Nat) : Int) (k + 1) hz2 (by omega) (by omega)
        · skip
          refine M.run 2 (pc' := 33) (lv' := [some (vr o), some (vi z), some (vi ((k : Nat) : Int))]) (st' := [vi 0, vi ((mMsg D k : Nat) : Int)]) rfl ?_
          refine M.icmp_le (tgt := 38) rfl (qI (by omega)) (qI (by decide)) (by decide) (fun h33 => ?_) (fun h33 => ?_)
          · skip
            have hz2 : z = mBus D (k + 1) := by rw [hss]; (repeat' split) <;> omega
            refine M.run 2 (pc' := 4) (lv' := [some (vr o), some (vi z), some (vi (((k : Nat) : Int) + 1))]) (st' := []) rfl ?_
            exact ih4 z (k + 1) hz2 (by omega) (by omega)
          · skip
            refine M.run 2 (pc' := 38) (lv' := [some (vr o), some (vi ((k : Nat) : Int)), some (vi ((k : Nat) : Int))]) (st' := []) rfl ?_
            have hz2 : ((k : Nat) : Int) = mBus D (k + 1) := by rw [hss]; (repeat' split) <;> omega
            refine M.run 2 (pc' := 4) (lv' := [some (vr o), some (vi ((k : Nat) : Int)), some (vi (((k : Nat) : Int) + 1))]) (st' := []) rfl ?_
            exact ih4 ((k : Nat) : Int) (k + 1) hz2 (by omega) (by omega)
  exact Lp4 _ (-1) 0 rfl (by omega) (Nat.lt_succ_self _)
