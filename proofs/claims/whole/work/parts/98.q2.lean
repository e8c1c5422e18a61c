/-! what is asked, choices, all levels: by the pile and part by part -/
section QCL2
variable {L : List (Int × Int × Int)} {ly : Int}
theorem isCm_n {o : Int} {P : List Int} (h : rkO o = 4) : isCm (o :: P) = true := by
  show (if 4 < rkO o then isCm P else decide (rkO o = 4)) = true
  rw [if_neg (by omega)]
  exact decide_eq_true h
theorem cmpO_y {s : Int} (h : isCp s) : (10 ≤ cmpO s ∧ cmpO s ≤ 15) ∧ toR (s, 0) = (cmpO s, 0) ∧ Xs s ∧ rkO (cmpO s) = 4 ∧ cmpO s < 40 := by
  rcases (show s = 30 ∨ s = 31 ∨ s = 32 ∨ s = 33 ∨ s = 41 ∨ s = 42 by unfold isCp at h; omega) with rfl | rfl | rfl | rfl | rfl | rfl
  all_goals exact ⟨by decide, by decide, by unfold Xs; decide, by decide, by decide⟩
theorem cmpO_n {s : Int} (h : ¬ isCp s) : cmpO s = -1 := by
  unfold isCp at h
  unfold cmpO
  rw [if_neg (by omega), if_neg (by omega), if_neg (by omega), if_neg (by omega), if_neg (by omega), if_neg (by omega)]
theorem cAsk_ok {op : Nat} (hop : op ≤ 8) {fs fa : Nat → Pr} (hX : XP L Xs fs) (hs : cBi L ly (op : Int) 5 (ctx1 L) (fun _ => True) fs) (ha : op < 8 → cAsk L ly ((op : Int) + 1) fa) : cAsk L ly (op : Int) (pAsk L op fs fa) := by
  intro P C j hA
  obtain ⟨hA1, hA2, hA3⟩ := askA_f hA
  have hf5 : frs 5 P := frs_m (by decide) hA2
  by_cases h16 : (gTk L j).1 = 16
  · have hst := stp_open (ly := ly) (o := 20) (op := (op : Int)) (C := C) ⟨20, Or.inr (Or.inr (Or.inr (Or.inr (Or.inr ⟨⟨h16, hA⟩, rfl⟩)))), rfl⟩
    by_cases h8 : op < 8
    · have stp := hst.trans (opnM_y (show ¬ (op : Int) = 8 by omega))
      obtain ⟨g1, g2⟩ := ha h8 (20 :: P) C (j + 1) (askA_y (by decide) hA)
      rcases hE : fa (j + 1) with ⟨e, k⟩ | ⟨s, k⟩
      · have hp : pAsk L op fs fa j = .inl (unE 16 e, k) := pAsk_y h16 h8 hE
        refine ⟨fun e2 k2 hl res hres => ?_, fun s k hl => (by rw [hp] at hl; cases hl)⟩
        rw [hp] at hl
        cases hl
        refine evM_s stp (g1 _ _ hE res (fun t ht hi => hres t (ht.trans ?_) hi))
        rw [sTL_p (show (3 : Int) ≤ rkO 20 by decide), if_pos (Or.inr rfl), post_un, List.append_assoc, show (op : Int) + 1 - 1 = (op : Int) by omega]
        rfl
      · have hp : pAsk L op fs fa j = .inr (s, k) := pAsk_n h16 h8 hE
        refine ⟨fun e2 k2 hl => (by rw [hp] at hl; cases hl), fun s2 k2 hl => ?_⟩
        rw [hp] at hl
        cases hl
        exact evM_s stp (g2 _ _ hE)
    · have e8 : (op : Int) = 8 := by omega
      have hp : pAsk L op fs fa j = .inr (3, j) := pAsk_d h16 h8
      refine ⟨fun e2 k2 hl => (by rw [hp] at hl; cases hl), fun s2 k2 hl => ?_⟩
      rw [hp] at hl
      cases hl
      rw [e8] at hst ⊢
      exact evM_e (hst.trans opnM_n)
  · obtain ⟨g1, g2⟩ := hs P C j hf5 (fun z => h16 z.2)
    rcases hE : fs j with ⟨e1, k⟩ | ⟨s, k⟩
    · have hX2 := hX _ _ _ hE
      have ob : ∀ t : St3, sTL 5 t.1 t.2.1 t.2.2 = (P, (op : Int), C ++ post e1) → opnw t.1 = 41 ∧ isCm t.1 = false := fun t ht => ⟨(arr_o ht (by decide)).trans hA1, by rw [← sTL_c t.1 t.2.1 t.2.2, ht]; exact hA3⟩
      by_cases hc : isCp (gTk L k).1
      · obtain ⟨q1, q2, q3, q4, q5⟩ := cmpO_y hc
        have stp : ∀ t : St3, sTL 5 t.1 t.2.1 t.2.2 = (P, (op : Int), C ++ post e1) → stpM L ly (mkS t true k) = .inl (cmpO (gTk L k).1 :: P, (op : Int), false, C ++ post e1, k + 1) := by
          intro t ht
          obtain ⟨o1, o2⟩ := ob t ht
          show behM L t.1 t.2.1 t.2.2 k = _
          unfold behM
          rw [betM_a hX2 o1 o2, if_pos (by omega), if_pos q4, ht]
          rfl
        obtain ⟨i1, i2⟩ := hs (cmpO (gTk L k).1 :: P) (C ++ post e1) (k + 1) (by show rkO _ < 5; omega) (fun z => by have q := z.1; rw [askA_n ⟨q5, by omega⟩] at q; cases q)
        rcases hE2 : fs (k + 1) with ⟨e2, k2⟩ | ⟨s, k2⟩
        · have hp : pAsk L op fs fa j = .inl (biE (gTk L k).1 e1 e2, k2) := by
            unfold pAsk
            rw [if_neg h16, hE]
            refine (if_pos hc).trans ?_
            rw [hE2]
          refine ⟨fun e3 k3 hl res hres => ?_, fun s k hl => (by rw [hp] at hl; cases hl)⟩
          rw [hp] at hl
          cases hl
          refine g1 _ _ hE res (fun t ht _ => evM_s (stp t ht) (i1 _ _ hE2 res (fun t2 ht2 _ => hres t2 ?_ ⟨?_, ?_⟩)))
          · rw [← sTL_s (r := 3) (r2 := 5) (by decide) t2.1 t2.2.1 t2.2.2, ht2]
            show sTL 3 (cmpO (gTk L k).1 :: P) (op : Int) (C ++ post e1 ++ post e2) = _
            rw [sTL_p (by omega), if_neg (by omega), post_bi, q2, List.append_assoc, List.append_assoc]
          · rw [← sTL_c t2.1 t2.2.1 t2.2.2, ht2]
            exact isCm_n q4
          · rw [arr_o ht2 (by decide)]
            exact (if_neg (by omega)).trans hA1
        · have hp : pAsk L op fs fa j = .inr (s, k2) := pAsk_m h16 hE hc hE2
          refine ⟨fun e3 k3 hl => (by rw [hp] at hl; cases hl), fun s3 k3 hl => ?_⟩
          rw [hp] at hl
          cases hl
          exact g1 _ _ hE _ (fun t ht _ => evM_s (stp t ht) (i2 _ _ hE2))
      · have hp : pAsk L op fs fa j = .inr (1, k) := pAsk_c h16 hE hc
        refine ⟨fun e3 k3 hl => (by rw [hp] at hl; cases hl), fun s3 k3 hl => ?_⟩
        rw [hp] at hl
        cases hl
        refine g1 _ _ hE _ (fun t ht _ => ?_)
        obtain ⟨o1, o2⟩ := ob t ht
        refine evM_e (stp_bad ((betM_a hX2 o1 o2).trans (cmpO_n hc)) ?_ (by rw [o1]; decide))
        unfold prtM
        rw [o1, o2, if_neg (by decide), if_pos rfl, if_neg (fun z => by cases z.2)]
    · have hp : pAsk L op fs fa j = .inr (s, k) := pAsk_s h16 hE
      refine ⟨fun e3 k3 hl => (by rw [hp] at hl; cases hl), fun s3 k3 hl => ?_⟩
      rw [hp] at hl
      cases hl
      exact g2 _ _ hE
theorem pAsk_X {op : Nat} {fs fa : Nat → Pr} (hs : XP L Xs fs) (ha : XP L Xs fa) : XP L Xs (pAsk L op fs fa) := by
  intro j e k h
  unfold pAsk at h
  split at h
  · split at h
    · split at h
      · rename_i e2 k2 h2
        cases h
        exact ha _ _ _ h2
      · cases h
    · cases h
  · split at h
    · rename_i e2 k2 h2
      split at h
      · split at h
        · rename_i e3 k3 h3
          cases h
          exact hs _ _ _ h3
        · cases h
      · cases h
    · cases h
theorem prt_41 {P : List Int} {s : Int} (h : opnw P = 41) (h2 : isCm P = true) : prtM P s = if s = 11 then 42 else -1 := by
  unfold prtM
  rw [h, h2, if_neg (by decide), if_pos rfl]
  by_cases q : s = 11
  · rw [if_pos q, if_pos ⟨q, rfl⟩]
  · rw [if_neg q, if_neg (fun z => q z.1)]
theorem prt_42 {P : List Int} {s : Int} (h : opnw P = 42) : prtM P s = if s = 12 then 43 else -1 := by
  unfold prtM
  rw [h, if_neg (by decide), if_neg (by decide), if_pos rfl]
theorem prt_43 {P : List Int} {s : Int} (h : opnw P = 43) : prtM P s = if s = 13 then 0 else -1 := by
  unfold prtM
  rw [h, if_neg (by decide), if_neg (by decide), if_neg (by decide), if_pos rfl]
theorem cCho_ok {op : Int} {fe fs : Nat → Pr} (hXs : XP L Xs fs) (hXe : XP L (fun s => (Xs s ∧ ¬ (s = 15 ∨ s = 15)) ∧ ¬ (s = 14 ∨ s = 14)) fe) (he : cBi L ly op 1 ctxA invA fe) (hs : cBi L ly op 5 (ctx1 L) (fun _ => True) fs) : cCho L ly op (pCho L fe fs) := by
  intro P C j
  have hA : askA (41 :: P) = true := by
    unfold askA
    rw [show opnw (41 :: P) = 41 from if_pos (by decide)]
    rfl
  obtain ⟨e1, e2⟩ := he (41 :: P) C j (by show rkO 41 < 1; decide) hA
  rcases hE : fe j with ⟨c, k⟩ | ⟨s, k⟩
  · obtain ⟨⟨hXe1, hXe2⟩, hXe3⟩ := hXe _ _ _ hE
    have bt : ∀ t : St3, invA t.1 → betM t.1 (gTk L k).1 = -1 := fun t hi => by rw [betM_c hXe1 hi.2 hi.1, if_neg (by omega), if_neg (by omega)]
    by_cases h11 : (gTk L k).1 = 11
    · have stp : ∀ t : St3, sTL 1 t.1 t.2.1 t.2.2 = (41 :: P, op, C ++ post c) → invA t.1 → stpM L ly (mkS t true k) = .inl (42 :: P, op, false, C ++ post c, k + 1) := fun t ht hi => by
        rw [stp_part (v := 42) (bt t hi) ((prt_41 hi.2 hi.1).trans (if_pos h11)) (by decide), ht]
        rfl
      obtain ⟨s1, s2⟩ := hs (42 :: P) (C ++ post c) (k + 1) (by show rkO 42 < 5; decide) (fun z => by have q := z.1; rw [askA_o (by decide)] at q; cases q)
      rcases hE2 : fs (k + 1) with ⟨x, k2⟩ | ⟨s, k2⟩
      · have hX2 := hXs _ _ _ hE2
        have ob : ∀ t : St3, sTL 5 t.1 t.2.1 t.2.2 = (42 :: P, op, C ++ post c ++ post x) → opnw t.1 = 42 := fun t ht => (arr_o ht (by decide)).trans (if_pos (by decide))
        by_cases h12 : (gTk L k2).1 = 12
        · have stp2 : ∀ t : St3, sTL 5 t.1 t.2.1 t.2.2 = (42 :: P, op, C ++ post c ++ post x) → stpM L ly (mkS t true k2) = .inl (43 :: P, op, false, C ++ post c ++ post x, k2 + 1) := fun t ht => by
            rw [stp_part (v := 43) (betM_n hX2 (by rw [ob t ht]; decide)) ((prt_42 (ob t ht)).trans (if_pos h12)) (by decide), arr_1 ht (by decide), sTL_f (show frs 1 (42 :: P) by show rkO 42 < 1; decide)]
            rfl
          obtain ⟨z1, z2⟩ := hs (43 :: P) (C ++ post c ++ post x) (k2 + 1) (by show rkO 43 < 5; decide) (fun z => by have q := z.1; rw [askA_o (by decide)] at q; cases q)
          rcases hE3 : fs (k2 + 1) with ⟨y, k3⟩ | ⟨s, k3⟩
          · have hX3 := hXs _ _ _ hE3
            have ob2 : ∀ t : St3, sTL 5 t.1 t.2.1 t.2.2 = (43 :: P, op, C ++ post c ++ post x ++ post y) → opnw t.1 = 43 := fun t ht => (arr_o ht (by decide)).trans (if_pos (by decide))
            by_cases h13 : (gTk L k3).1 = 13
            · have hp : pCho L fe fs j = .inl (seE c x y, k3 + 1) := pCho_7 hE h11 hE2 h12 hE3 h13
              refine ⟨fun e k4 hl res hres => ?_, fun s k4 hl => (by rw [hp] at hl; cases hl)⟩
              rw [hp] at hl
              cases hl
              refine e1 _ _ hE res (fun t ht hi => evM_s (stp t ht hi) (s1 _ _ hE2 res (fun t2 ht2 _ => evM_s (stp2 t2 ht2) (z1 _ _ hE3 res (fun t3 ht3 _ => evM_s (stp_shut (betM_n hX3 (by rw [ob2 t3 ht3]; decide)) ((prt_43 (ob2 t3 ht3)).trans (if_pos h13))) ?_)))))
              rw [ob2 t3 ht3, arr_1 ht3 (by decide), sTL_f (show frs 1 (43 :: P) by show rkO 43 < 1; decide)]
              show evM L ly (mkS (sTL 7 P (op - 1) (C ++ post c ++ post x ++ post y ++ [(3, 0)])) true (k3 + 1)) res
              rw [post_se] at hres
              rw [List.append_assoc, List.append_assoc, List.append_assoc]
              exact hres
            · have hp : pCho L fe fs j = .inr (1, k3) := pCho_6 hE h11 hE2 h12 hE3 h13
              refine ⟨fun e k4 hl => (by rw [hp] at hl; cases hl), fun s k4 hl => ?_⟩
              rw [hp] at hl
              cases hl
              exact e1 _ _ hE _ (fun t ht hi => evM_s (stp t ht hi) (s1 _ _ hE2 _ (fun t2 ht2 _ => evM_s (stp2 t2 ht2) (z1 _ _ hE3 _ (fun t3 ht3 _ => evM_e (stp_bad (betM_n hX3 (by rw [ob2 t3 ht3]; decide)) ((prt_43 (ob2 t3 ht3)).trans (if_neg h13)) (by rw [ob2 t3 ht3]; decide)))))))
          · have hp : pCho L fe fs j = .inr (s, k3) := pCho_5 hE h11 hE2 h12 hE3
            refine ⟨fun e k4 hl => (by rw [hp] at hl; cases hl), fun s k4 hl => ?_⟩
            rw [hp] at hl
            cases hl
            exact e1 _ _ hE _ (fun t ht hi => evM_s (stp t ht hi) (s1 _ _ hE2 _ (fun t2 ht2 _ => evM_s (stp2 t2 ht2) (z2 _ _ hE3))))
        · have hp : pCho L fe fs j = .inr (1, k2) := pCho_4 hE h11 hE2 h12
          refine ⟨fun e k4 hl => (by rw [hp] at hl; cases hl), fun s k4 hl => ?_⟩
          rw [hp] at hl
          cases hl
          exact e1 _ _ hE _ (fun t ht hi => evM_s (stp t ht hi) (s1 _ _ hE2 _ (fun t2 ht2 _ => evM_e (stp_bad (betM_n hX2 (by rw [ob t2 ht2]; decide)) ((prt_42 (ob t2 ht2)).trans (if_neg h12)) (by rw [ob t2 ht2]; decide)))))
      · have hp : pCho L fe fs j = .inr (s, k2) := pCho_3 hE h11 hE2
        refine ⟨fun e k4 hl => (by rw [hp] at hl; cases hl), fun s k4 hl => ?_⟩
        rw [hp] at hl
        cases hl
        exact e1 _ _ hE _ (fun t ht hi => evM_s (stp t ht hi) (s2 _ _ hE2))
    · have hp : pCho L fe fs j = .inr (1, k) := pCho_2 hE h11
      refine ⟨fun e k4 hl => (by rw [hp] at hl; cases hl), fun s k4 hl => ?_⟩
      rw [hp] at hl
      cases hl
      exact e1 _ _ hE _ (fun t ht hi => evM_e (stp_bad (bt t hi) ((prt_41 hi.2 hi.1).trans (if_neg h11)) (by rw [hi.2]; decide)))
  · have hp : pCho L fe fs j = .inr (s, k) := pCho_1 hE
    refine ⟨fun e k4 hl => (by rw [hp] at hl; cases hl), fun s k4 hl => ?_⟩
    rw [hp] at hl
    cases hl
    exact e2 _ _ hE
/-- all that is said of a level -/
def cLv (L : List (Int × Int × Int)) (ly : Int) (op : Int) (d : PF) : Prop := cOne L ly op d.1 ∧ cBi L ly op 5 (ctx1 L) (fun _ => True) d.2.1 ∧ cAsk L ly op d.2.2.1 ∧ cCho L ly op d.2.2.2
def gLv (L : List (Int × Int × Int)) (d : PF) : Prop := PG d.1 ∧ PG d.2.1 ∧ PG d.2.2.1 ∧ PG d.2.2.2 ∧ XP L Xs d.2.1 ∧ XP L Xs d.2.2.1
theorem pSt_c (hx51 : ∀ j : Nat, (gTk L j).1 ≠ 51 → j ≤ 300) {op : Nat} (hop : op ≤ 8) {d : PF} (hg : gLv L d) (h : op < 8 → cLv L ly ((op : Int) + 1) d) : gLv L (pSt L ly op d) ∧ cLv L ly (op : Int) (pSt L ly op d) := by
  obtain ⟨g1, g2, g3, g4, g5, g6⟩ := hg
  have q1 := pOne_G (L := L) (ly := ly) (op := op) hx51 g2 g1 g4
  have q2 := pBin_G (L := L) (a := 36) (b := 37) q1
  have q3 := pBin_G (L := L) (a := 34) (b := 35) q2
  have x1 : XP L (fun _ => True) (pOne L ly op d.2.1 d.1 d.2.2.2) := fun _ _ _ _ => trivial
  have x2 := pBin_X (a := 36) (b := 37) x1
  have x3 := pBin_X (a := 34) (b := 35) x2
  have x4 : XP L Xs (pBin L 34 35 (pBin L 36 37 (pOne L ly op d.2.1 d.1 d.2.2.2))) := fun j e k hl => by
    obtain ⟨⟨_, y1⟩, y2⟩ := x3 j e k hl
    exact ⟨y1, y2⟩
  have q4 := pAsk_G (L := L) (op := op) q3 g3
  have q5 := pBin_G (L := L) (a := 15) (b := 15) q4
  have q6 := pBin_G (L := L) (a := 14) (b := 14) q5
  have x5 := pAsk_X (op := op) x4 g6
  have x6 := pBin_X (a := 15) (b := 15) x5
  have x7 := pBin_X (a := 14) (b := 14) x6
  have q7 := pCho_G (L := L) hx51 q6 q3
  have c1 := cOne_ok (ly := ly) hop g5 (fun z => ⟨(h z).2.1, (h z).1, (h z).2.2.2⟩)
  have c2 := cBi_bin (r := 6) (a := 36) (b := 37) (ctx2 := ctx1 L) (ob := fun s => if s = 36 then 8 else 9) (cOne_B c1) q1 (by decide) (by decide) (by decide) (by decide) (fun s hs => by rcases hs with rfl | rfl <;> exact ⟨by decide, by decide, by decide⟩) (fun P s _ hs => by rcases hs with rfl | rfl <;> rfl) (fun P j z => z) (fun P j s i z hs => by rcases hs with rfl | rfl <;> exact fun z => absurd z.1 (by rw [show askA _ = false from askA_n (by decide)]; decide))
  have c3 := cBi_bin (r := 5) (a := 34) (b := 35) (ctx2 := ctx1 L) (ob := fun s => if s = 34 then 6 else 7) c2 q2 (by decide) (by decide) (by decide) (by decide) (fun s hs => by rcases hs with rfl | rfl <;> exact ⟨by decide, by decide, by decide⟩) (fun P s _ hs => by rcases hs with rfl | rfl <;> rfl) (fun P j z => z) (fun P j s i z hs => by rcases hs with rfl | rfl <;> exact fun z => absurd z.1 (by rw [show askA _ = false from askA_n (by decide)]; decide))
  have c4 := cAsk_ok hop x4 c3 (fun z => (h z).2.2.1)
  have c5 := cBi_bin (r := 2) (a := 15) (b := 15) (ctx2 := ctxA) (ob := fun _ => 21) (cAsk_B c4) q4 (by decide) (by decide) (by decide) (by decide) (fun s hs => by rcases hs with rfl | rfl <;> exact ⟨by decide, by decide, by decide⟩) (fun P s hi hs => by rcases hs with rfl | rfl <;> exact (betM_c (by unfold Xs; decide) hi.2 hi.1).trans (if_pos rfl)) (fun P j z => z) (fun P j s i z hs => askA_y (by decide) z)
  have c6 := cBi_bin (r := 1) (a := 14) (b := 14) (ctx2 := ctxA) (ob := fun _ => 22) c5 q5 (by decide) (by decide) (by decide) (by decide) (fun s hs => by rcases hs with rfl | rfl <;> exact ⟨by decide, by decide, by decide⟩) (fun P s hi hs => by rcases hs with rfl | rfl <;> exact (betM_c (by unfold Xs; decide) hi.2 hi.1).trans ((if_neg (by decide)).trans (if_pos rfl))) (fun P j z => z) (fun P j s i z hs => askA_y (by decide) z)
  have c7 := cCho_ok x4 x7 c6 c3
  exact ⟨⟨q1, q3, q4, q7, x4, x5⟩, c1, c3, c4, c7⟩
theorem pLv_c (hx51 : ∀ j : Nat, (gTk L j).1 ≠ 51 → j ≤ 300) : ∀ n : Nat, n ≤ 8 → gLv L (pLv L ly n) ∧ cLv L ly ((8 - n : Nat) : Int) (pLv L ly n)
  | 0, _ => pSt_c hx51 (Nat.le_refl 8) ⟨fun j e k h => (by cases h), fun j e k h => (by cases h), fun j e k h => (by cases h), fun j e k h => (by cases h), fun j e k h => (by cases h), fun j e k h => (by cases h)⟩ (fun z => absurd z (by decide))
  | n + 1, hn => by
    obtain ⟨h1, h2⟩ := pLv_c hx51 n (by omega)
    refine pSt_c hx51 (by omega) h1 (fun _ => ?_)
    rw [show ((8 - (n + 1) : Nat) : Int) + 1 = ((8 - n : Nat) : Int) by omega]
    exact h2
/-- the reference's reading of a law comes to the same -/
theorem evM_sum (hx51 : ∀ j : Nat, (gTk L j).1 ≠ 51 → j ≤ 300) (C : List (Int × Int)) (j : Nat) : (∀ (e : Ex) (k : Nat), (pLv L ly 8).2.1 j = .inl (e, k) → evM L ly ([], 0, false, C, j) (.inl (C ++ post e, k))) ∧ ∀ (s : Int) (k : Nat), (pLv L ly 8).2.1 j = .inr (s, k) → evM L ly ([], 0, false, C, j) (.inr (s, k)) := by
  obtain ⟨⟨_, _, _, _, hX, _⟩, _, hc, _⟩ := pLv_c (ly := ly) hx51 8 (Nat.le_refl 8)
  obtain ⟨h1, h2⟩ := hc [] C j trivial (fun z => by have q := z.1; cases q)
  refine ⟨fun e k hE => h1 e k hE _ (fun t ht _ => evM_e ?_), h2⟩
  have ho : opnw t.1 = -1 := arr_o ht (by decide)
  have h3 := betM_n (P := t.1) (hX _ _ _ hE) (by rw [ho]; decide)
  have h4 : prtM t.1 (gTk L k).1 = -1 := by
    unfold prtM
    rw [ho, if_neg (by decide), if_neg (by decide), if_neg (by decide), if_neg (by decide)]
  show behM L t.1 t.2.1 t.2.2 k = _
  unfold behM
  rw [h3, h4, if_neg (by decide), if_pos (by decide), ho, if_neg (by decide), arr_1 ht (by decide)]
  rfl
end QCL2
