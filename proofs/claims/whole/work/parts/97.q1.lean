/-! part by part and by the pile: the same -/
section QCL
variable {L : List (Int × Int × Int)} {ly : Int}
def cBi (L : List (Int × Int × Int)) (ly : Int) (op r : Int) (ctx : List Int → Nat → Prop) (inv : List Int → Prop) (f : Nat → Pr) : Prop := ∀ (P : List Int) (C : List (Int × Int)) (j : Nat), frs r P → ctx P j →
  (∀ (e : Ex) (k : Nat), f j = .inl (e, k) → ∀ res : MR, (∀ t : St3, sTL r t.1 t.2.1 t.2.2 = (P, op, C ++ post e) → inv t.1 → evM L ly (mkS t true k) res) → evM L ly (P, op, false, C, j) res) ∧
  ∀ (s : Int) (k : Nat), f j = .inr (s, k) → evM L ly (P, op, false, C, j) (.inr (s, k))
def cOne (L : List (Int × Int × Int)) (ly : Int) (op : Int) (f : Nat → Pr) : Prop := ∀ (P : List Int) (C : List (Int × Int)) (j : Nat), ¬ (askA P = true ∧ (gTk L j).1 = 16) →
  (∀ (e : Ex) (k : Nat), f j = .inl (e, k) → ∀ res : MR, evM L ly (mkS (sTL 7 P op (C ++ post e)) true k) res → evM L ly (P, op, false, C, j) res) ∧
  ∀ (s : Int) (k : Nat), f j = .inr (s, k) → evM L ly (P, op, false, C, j) (.inr (s, k))
def invA (P : List Int) : Prop := isCm P = true ∧ opnw P = 41
def cAsk (L : List (Int × Int × Int)) (ly : Int) (op : Int) (f : Nat → Pr) : Prop := ∀ (P : List Int) (C : List (Int × Int)) (j : Nat), askA P = true →
  (∀ (e : Ex) (k : Nat), f j = .inl (e, k) → ∀ res : MR, (∀ t : St3, sTL 3 t.1 t.2.1 t.2.2 = sTL 3 P op (C ++ post e) → invA t.1 → evM L ly (mkS t true k) res) → evM L ly (P, op, false, C, j) res) ∧
  ∀ (s : Int) (k : Nat), f j = .inr (s, k) → evM L ly (P, op, false, C, j) (.inr (s, k))
def cCho (L : List (Int × Int × Int)) (ly : Int) (op : Int) (f : Nat → Pr) : Prop := ∀ (P : List Int) (C : List (Int × Int)) (j : Nat),
  (∀ (e : Ex) (k : Nat), f j = .inl (e, k) → ∀ res : MR, evM L ly (mkS (sTL 7 P (op - 1) (C ++ post e)) true k) res → evM L ly (41 :: P, op, false, C, j) res) ∧
  ∀ (s : Int) (k : Nat), f j = .inr (s, k) → evM L ly (41 :: P, op, false, C, j) (.inr (s, k))
def ctx1 (L : List (Int × Int × Int)) : List Int → Nat → Prop := fun P j => ¬ (askA P = true ∧ (gTk L j).1 = 16)
def ctxA : List Int → Nat → Prop := fun P _ => askA P = true
theorem cOne_B {op : Int} {f : Nat → Pr} (h : cOne L ly op f) : cBi L ly op 7 (ctx1 L) (fun _ => True) f := by
  intro P C j hf hc
  obtain ⟨h1, h2⟩ := h P C j hc
  refine ⟨fun e k he res hres => h1 e k he res (hres _ ?_ trivial), h2⟩
  rw [sTL_s (Int.le_refl 7), sTL_f hf]
theorem cAsk_B {op : Int} {f : Nat → Pr} (h : cAsk L ly op f) : cBi L ly op 3 ctxA invA f := by
  intro P C j hf hc
  obtain ⟨h1, h2⟩ := h P C j hc
  exact ⟨fun e k he res hres => h1 e k he res (fun t ht hi => hres t (ht.trans (sTL_f hf)) hi), h2⟩
theorem cBi_bin {op r r2 : Int} {ctx ctx2 : List Int → Nat → Prop} {inv : List Int → Prop} {a b : Int} {ob : Int → Int} {f : Nat → Pr} (h : cBi L ly op r2 ctx inv f) (hG : PG f) (hr : r < r2) (hr4 : ¬ r = 4) (hr7 : ¬ r = 7) (hr3 : ¬ r = 3)
    (hob : ∀ s : Int, s = a ∨ s = b → 0 ≤ ob s ∧ rkO (ob s) = r ∧ toR (s, 0) = (ob s, 0)) (hbet : ∀ (P : List Int) (s : Int), inv P → s = a ∨ s = b → betM P s = ob s)
    (hc1 : ∀ (P : List Int) (j : Nat), ctx2 P j → ctx P j) (hc2 : ∀ (P : List Int) (j : Nat) (s : Int) (i : Nat), ctx2 P j → s = a ∨ s = b → ctx (ob s :: P) i) : cBi L ly op r ctx2 inv (pBin L a b f) := by
  intro P C j hf hc
  have hf2 : frs r2 P := frs_m (by omega) hf
  obtain ⟨i1, i2⟩ := h P C j hf2 (hc1 P j hc)
  have key : ∀ (n : Nat) (e0 : Ex) (k : Nat), 302 ≤ n + k → k ≤ 301 → (∀ (e : Ex) (k2 : Nat), pLoop L a b f n e0 k = .inl (e, k2) → ∀ res : MR, (∀ t : St3, sTL r t.1 t.2.1 t.2.2 = (P, op, C ++ post e) → inv t.1 → evM L ly (mkS t true k2) res) → ∀ t : St3, sTL r t.1 t.2.1 t.2.2 = (P, op, C ++ post e0) → inv t.1 → evM L ly (mkS t true k) res) ∧ ∀ (s : Int) (k2 : Nat), pLoop L a b f n e0 k = .inr (s, k2) → ∀ t : St3, sTL r t.1 t.2.1 t.2.2 = (P, op, C ++ post e0) → inv t.1 → evM L ly (mkS t true k) (.inr (s, k2)) := by
    intro n
    induction n with
    | zero =>
      intro e0 k h1 h2
      omega
    | succ n ih =>
      intro e0 k h1 h2
      by_cases hx : (gTk L k).1 = a ∨ (gTk L k).1 = b
      · obtain ⟨o1, o2, o3⟩ := hob _ hx
        have stp : ∀ t : St3, sTL r t.1 t.2.1 t.2.2 = (P, op, C ++ post e0) → inv t.1 → stpM L ly (mkS t true k) = .inl (ob (gTk L k).1 :: P, op, false, C ++ post e0, k + 1) := by
          intro t ht hi
          show behM L t.1 t.2.1 t.2.2 k = _
          unfold behM
          rw [hbet _ _ hi hx, if_pos o1, o2, if_neg hr4, ht]
          rfl
        have h20 : ¬ (rkO (ob (gTk L k).1) = 7 ∨ ob (gTk L k).1 = 20) := by
          intro z
          rcases z with z | z
          · omega
          · rw [z] at o2
            have q : rkO 20 = 3 := by decide
            omega
        obtain ⟨g1, g2⟩ := h (ob (gTk L k).1 :: P) (C ++ post e0) (k + 1) (show rkO (ob (gTk L k).1) < r2 by omega) (hc2 P j _ _ hc hx)
        rcases hE : f (k + 1) with ⟨e2, k2⟩ | ⟨s, k2⟩
        · have hG2 := hG _ _ _ hE
          have hp : pLoop L a b f (n + 1) e0 k = pLoop L a b f n (biE (gTk L k).1 e0 e2) k2 := pLoop_y (Nat.succ_pos n) hx hE
          obtain ⟨m1, m2⟩ := ih (biE (gTk L k).1 e0 e2) k2 (by omega) hG2.2
          have arr : ∀ t : St3, sTL r2 t.1 t.2.1 t.2.2 = (ob (gTk L k).1 :: P, op, C ++ post e0 ++ post e2) → sTL r t.1 t.2.1 t.2.2 = (P, op, C ++ post (biE (gTk L k).1 e0 e2)) := by
            intro t ht
            have q := sTL_s (r := r) (r2 := r2) (by omega) t.1 t.2.1 t.2.2
            rw [ht] at q
            rw [← q]
            show sTL r (ob (gTk L k).1 :: P) op (C ++ post e0 ++ post e2) = _
            rw [sTL_p (by omega), if_neg h20, sTL_f hf, post_bi, o3, List.append_assoc, List.append_assoc]
          exact ⟨fun e k3 hl res hres t ht hi => evM_s (stp t ht hi) (g1 e2 k2 hE res (fun t2 ht2 hi2 => m1 e k3 (hp.symm.trans hl) res hres t2 (arr t2 ht2) hi2)), fun s k3 hl t ht hi => evM_s (stp t ht hi) (g1 e2 k2 hE _ (fun t2 ht2 hi2 => m2 s k3 (hp.symm.trans hl) t2 (arr t2 ht2) hi2))⟩
        · have hp : pLoop L a b f (n + 1) e0 k = .inr (s, k2) := pLoop_n (Nat.succ_pos n) hx hE
          refine ⟨fun e k3 hl => (by rw [hp] at hl; cases hl), fun s2 k3 hl t ht hi => ?_⟩
          rw [hp] at hl
          cases hl
          exact evM_s (stp t ht hi) (g2 s k2 hE)
      · have hp : pLoop L a b f (n + 1) e0 k = .inl (e0, k) := pLoop_e (Nat.succ_pos n) hx
        refine ⟨fun e k2 hl res hres t ht hi => ?_, fun s k2 hl => (by rw [hp] at hl; cases hl)⟩
        rw [hp] at hl
        cases hl
        exact hres t ht hi
  rcases hE : f j with ⟨e1, k1⟩ | ⟨s, k1⟩
  · have hG1 := hG _ _ _ hE
    have hp : pBin L a b f j = pLoop L a b f 301 e1 k1 := pBin_y hE
    obtain ⟨m1, m2⟩ := key 301 e1 k1 (by omega) hG1.2
    have arr : ∀ t : St3, sTL r2 t.1 t.2.1 t.2.2 = (P, op, C ++ post e1) → sTL r t.1 t.2.1 t.2.2 = (P, op, C ++ post e1) := by
      intro t ht
      have q := sTL_s (r := r) (r2 := r2) (by omega) t.1 t.2.1 t.2.2
      rw [ht] at q
      rw [← q]
      exact sTL_f hf
    exact ⟨fun e k hl res hres => i1 e1 k1 hE res (fun t ht hi => m1 e k (hp.symm.trans hl) res hres t (arr t ht) hi), fun s k hl => i1 e1 k1 hE _ (fun t ht hi => m2 s k (hp.symm.trans hl) t (arr t ht) hi)⟩
  · have hp : pBin L a b f j = .inr (s, k1) := pBin_n hE
    refine ⟨fun e k hl => (by rw [hp] at hl; cases hl), fun s2 k hl => ?_⟩
    rw [hp] at hl
    cases hl
    exact i2 s k1 hE
/-- not + - * / -/
def Xs (s : Int) : Prop := ¬ (s = 36 ∨ s = 37) ∧ ¬ (s = 34 ∨ s = 35)
theorem betM_n {P : List Int} {s : Int} (h : Xs s) (h2 : ¬ opnw P = 41) : betM P s = -1 := by
  unfold Xs at h
  unfold betM
  rw [if_neg (by omega), if_neg (by omega), if_neg (by omega), if_neg (by omega), if_pos h2]
theorem betM_a {P : List Int} {s : Int} (h : Xs s) (h2 : opnw P = 41) (h3 : isCm P = false) : betM P s = cmpO s := by
  unfold Xs at h
  unfold betM
  rw [if_neg (by omega), if_neg (by omega), if_neg (by omega), if_neg (by omega), if_neg (fun z => z h2), if_pos h3]
theorem betM_c {P : List Int} {s : Int} (h : Xs s) (h2 : opnw P = 41) (h3 : isCm P = true) : betM P s = if s = 15 then 21 else if s = 14 then 22 else -1 := by
  unfold Xs at h
  unfold betM
  rw [if_neg (by omega), if_neg (by omega), if_neg (by omega), if_neg (by omega), if_neg (fun z => z h2), if_neg (by rw [h3]; decide)]
/-- nothing can stand here -/
theorem stp_bad {t : St3} {k : Nat} (h1 : betM t.1 (gTk L k).1 = -1) (h2 : prtM t.1 (gTk L k).1 = -1) (h3 : 0 ≤ opnw t.1) : stpM L ly (mkS t true k) = .inr (.inr (1, k)) := by
  show behM L t.1 t.2.1 t.2.2 k = _
  unfold behM
  rw [h1, h2, if_neg (by decide), if_pos (by decide), if_pos h3]
theorem stp_part {t : St3} {k : Nat} {v : Int} (h1 : betM t.1 (gTk L k).1 = -1) (h2 : prtM t.1 (gTk L k).1 = v) (hv : 0 < v) : stpM L ly (mkS t true k) = .inl (prtS v (sTL 1 t.1 t.2.1 t.2.2) k) := by
  show behM L t.1 t.2.1 t.2.2 k = _
  unfold behM
  rw [h1, h2, if_neg (by decide), if_neg (by omega), if_pos hv]
theorem stp_shut {t : St3} {k : Nat} (h1 : betM t.1 (gTk L k).1 = -1) (h2 : prtM t.1 (gTk L k).1 = 0) : stpM L ly (mkS t true k) = .inl (shtS (decide (opnw t.1 = 43)) (sTL 1 t.1 t.2.1 t.2.2) k) := by
  show behM L t.1 t.2.1 t.2.2 k = _
  unfold behM
  rw [h1, h2, if_neg (by decide), if_neg (by decide), if_neg (by decide)]
theorem arr_o {r : Int} {t : St3} {P : List Int} {op : Int} {C : List (Int × Int)} (h : sTL r t.1 t.2.1 t.2.2 = (P, op, C)) (hr : 1 ≤ r) : opnw t.1 = opnw P := by
  rw [← sTL_o hr t.1 t.2.1 t.2.2, h]
theorem arr_1 {r : Int} {t : St3} {P : List Int} {op : Int} {C : List (Int × Int)} (h : sTL r t.1 t.2.1 t.2.2 = (P, op, C)) (hr : 1 ≤ r) : sTL 1 t.1 t.2.1 t.2.2 = sTL 1 P op C := by
  rw [← sTL_s (r := 1) (r2 := r) hr t.1 t.2.1 t.2.2, h]
theorem stp_open {o : Int} {P : List Int} {op : Int} {C : List (Int × Int)} {j : Nat} (h : (∃ q : Int, ((gTk L j).1 = 38 ∧ q = 40 ∨ (gTk L j).1 = 35 ∧ q = 5 ∨ (gTk L j).1 = 8 ∧ q = 2 ∨ (gTk L j).1 = 9 ∧ q = 4 ∨ (gTk L j).1 = 10 ∧ q = 41 ∨ ((gTk L j).1 = 16 ∧ askA P = true) ∧ q = 20) ∧ q = o)) : stpM L ly (P, op, false, C, j) = opnM o P op C j := by
  obtain ⟨q, h, rfl⟩ := h
  show begM L ly P op C j = _
  unfold begM
  rcases h with ⟨h, rfl⟩ | ⟨h, rfl⟩ | ⟨h, rfl⟩ | ⟨h, rfl⟩ | ⟨h, rfl⟩ | ⟨⟨h, h2⟩, rfl⟩
  · rw [if_neg (by omega), if_neg (by omega), if_neg (by omega), if_pos h]
  · rw [if_neg (by omega), if_neg (by omega), if_neg (by omega), if_neg (by omega), if_pos h]
  · rw [if_neg (by omega), if_neg (by omega), if_neg (by omega), if_neg (by omega), if_neg (by omega), if_pos h]
  · rw [if_neg (by omega), if_neg (by omega), if_neg (by omega), if_neg (by omega), if_neg (by omega), if_neg (by omega), if_pos h]
  · rw [if_neg (by omega), if_neg (by omega), if_neg (by omega), if_neg (by omega), if_neg (by omega), if_neg (by omega), if_neg (by omega), if_pos h]
  · rw [if_neg (by omega), if_neg (by omega), if_neg (by omega), if_neg (by omega), if_neg (by omega), if_neg (by omega), if_neg (by omega), if_neg (by omega), if_pos ⟨h, h2⟩]
theorem opnM_n {o : Int} {P : List Int} {C : List (Int × Int)} {j : Nat} : opnM o P 8 C j = .inr (.inr (3, j)) := if_pos rfl
theorem opnM_y {o op : Int} {P : List Int} {C : List (Int × Int)} {j : Nat} (h : ¬ op = 8) : opnM o P op C j = .inl (o :: P, op + 1, false, C, j + 1) := if_neg h
theorem askA_n {o : Int} {P : List Int} (h : o < 40 ∧ ¬ (1 ≤ rkO o ∧ rkO o ≤ 3)) : askA (o :: P) = false := by
  unfold askA
  have h1 : decide (40 ≤ o) = false := decide_eq_false (by omega)
  have h2 : (decide (1 ≤ rkO o) && decide (rkO o ≤ 3)) = false := by
    rw [← Bool.not_eq_true, Bool.and_eq_true, decide_eq_true_eq, decide_eq_true_eq]
    exact h.2
  simp only [h1, h2, Bool.or_false, Bool.and_false]
theorem askA_o {o : Int} {P : List Int} (h : 40 ≤ o ∧ ¬ o = 41) : askA (o :: P) = false := by
  unfold askA
  rw [decide_eq_false (show ¬ opnw (o :: P) = 41 by rw [show opnw (o :: P) = o from if_pos h.1]; exact h.2)]
  rfl
theorem askA_y {o : Int} {P : List Int} (h : o < 40 ∧ 1 ≤ rkO o ∧ rkO o ≤ 3) (h2 : askA P = true) : askA (o :: P) = true := by
  unfold askA at h2 ⊢
  rw [Bool.and_eq_true] at h2
  have e : opnw (o :: P) = opnw P := if_neg (by omega)
  have h3 := decide_eq_true h.2.1
  have h4 := decide_eq_true h.2.2
  simp only [e, h2.1, h3, h4, Bool.and_true, Bool.or_true]
theorem askA_f {P : List Int} (h : askA P = true) : opnw P = 41 ∧ frs 4 P ∧ isCm P = false := by
  unfold askA at h
  rw [Bool.and_eq_true, decide_eq_true_eq] at h
  refine ⟨h.1, ?_⟩
  cases P with
  | nil => exact ⟨trivial, rfl⟩
  | cons o P =>
    have h2 := h.2
    simp only [Bool.or_eq_true, Bool.and_eq_true, decide_eq_true_eq] at h2
    have h3 : rkO o < 4 := by
      rcases h2 with q | q
      · have e : rkO o = 0 := if_pos q
        omega
      · omega
    refine ⟨h3, ?_⟩
    show (if 4 < rkO o then isCm P else decide (rkO o = 4)) = false
    rw [if_neg (by omega)]
    exact decide_eq_false (by omega)
theorem cOne_ok {op : Nat} (hop : op ≤ 8) {fs fo fe : Nat → Pr} (hX : XP L Xs fs) (h : op < 8 → cBi L ly ((op : Int) + 1) 5 (ctx1 L) (fun _ => True) fs ∧ cOne L ly ((op : Int) + 1) fo ∧ cCho L ly ((op : Int) + 1) fe) : cOne L ly (op : Int) (pOne L ly op fs fo fe) := by
  intro P C j hc
  have hun : ∀ (x o : Int) (e2 : Ex), rkO o = 7 → toR (x, 0) = (o, 0) → sTL 7 (o :: P) ((op : Int) + 1) (C ++ post e2) = sTL 7 P (op : Int) (C ++ post (unE x e2)) := by
    intro x o e2 h1 h2
    rw [sTL_p (by omega), if_pos (Or.inl h1), post_un, h2, List.append_assoc, show (op : Int) + 1 - 1 = (op : Int) by omega]
  by_cases hd : isOp (gTk L j).1 ∧ 8 ≤ op
  · have h8 : (op : Int) = 8 := by omega
    have hp : pOne L ly op fs fo fe j = .inr (3, j) := if_pos hd
    refine ⟨fun e k hl => (by rw [hp] at hl; cases hl), fun s k hl => ?_⟩
    rw [hp] at hl
    cases hl
    have h9 := hd.1
    unfold isOp at h9
    rw [h8]
    rcases (show (gTk L j).1 = 38 ∨ (gTk L j).1 = 35 ∨ (gTk L j).1 = 8 ∨ (gTk L j).1 = 9 ∨ (gTk L j).1 = 10 by omega) with q | q | q | q | q
    · exact evM_e ((stp_open (o := 40) ⟨40, Or.inl ⟨q, rfl⟩, rfl⟩).trans opnM_n)
    · exact evM_e ((stp_open (o := 5) ⟨5, Or.inr (Or.inl ⟨q, rfl⟩), rfl⟩).trans opnM_n)
    · exact evM_e ((stp_open (o := 2) ⟨2, Or.inr (Or.inr (Or.inl ⟨q, rfl⟩)), rfl⟩).trans opnM_n)
    · exact evM_e ((stp_open (o := 4) ⟨4, Or.inr (Or.inr (Or.inr (Or.inl ⟨q, rfl⟩))), rfl⟩).trans opnM_n)
    · exact evM_e ((stp_open (o := 41) ⟨41, Or.inr (Or.inr (Or.inr (Or.inr (Or.inl ⟨q, rfl⟩)))), rfl⟩).trans opnM_n)
  by_cases hn : 17 ≤ (gTk L j).1 ∧ (gTk L j).1 ≤ 23
  · have hp : pOne L ly op fs fo fe j = if (gTk L j).1 = (if ly = 0 then 23 else 22) then .inr (5, j) else .inl (lfE (gTk L j).1 0, j + 1) := (if_neg hd).trans (if_pos hn)
    by_cases hs : (gTk L j).1 = (if ly = 0 then 23 else 22)
    · rw [if_pos hs] at hp
      refine ⟨fun e k hl => (by rw [hp] at hl; cases hl), fun s k hl => ?_⟩
      rw [hp] at hl
      cases hl
      refine evM_e ?_
      show begM L ly P op C j = _
      unfold begM
      rw [if_neg (by omega), if_pos ⟨hn, hs⟩]
    · rw [if_neg hs] at hp
      refine ⟨fun e k hl res hres => ?_, fun s k hl => (by rw [hp] at hl; cases hl)⟩
      rw [hp] at hl
      cases hl
      refine evM_s (S2 := mkS (sTL 7 P op (C ++ post (lfE (gTk L j).1 0))) true (j + 1)) ?_ hres
      show begM L ly P op C j = _
      have e1 : toR ((gTk L j).1, (gTk L j).2.1) = toR ((gTk L j).1, 0) := by
        unfold toR
        rw [if_neg (show ¬ (gTk L j).1 = 50 by omega), if_neg (show ¬ (gTk L j).1 = 50 by omega), if_pos (show 17 ≤ (gTk L j).1 ∧ (gTk L j).1 ≤ 23 from hn)]
      unfold begM
      rw [if_neg (by omega), if_neg (fun z => hs z.2), if_pos (Or.inr hn), e1]
      rfl
  by_cases h50 : (gTk L j).1 = 50
  · have hp : pOne L ly op fs fo fe j = if (gTk L j).2.1 ≤ 9999 then .inl (lfE 50 (gTk L j).2.1, j + 1) else .inr (2, j) := (if_neg hd).trans ((if_neg hn).trans (if_pos h50))
    by_cases hv : (gTk L j).2.1 ≤ 9999
    · rw [if_pos hv] at hp
      refine ⟨fun e k hl res hres => ?_, fun s k hl => (by rw [hp] at hl; cases hl)⟩
      rw [hp] at hl
      cases hl
      refine evM_s (S2 := mkS (sTL 7 P op (C ++ post (lfE 50 (gTk L j).2.1))) true (j + 1)) ?_ hres
      show begM L ly P op C j = _
      unfold begM
      rw [if_neg (by omega), if_neg (by omega), if_pos (Or.inl h50), h50]
      rfl
    · rw [if_neg hv] at hp
      refine ⟨fun e k hl => (by rw [hp] at hl; cases hl), fun s k hl => ?_⟩
      rw [hp] at hl
      cases hl
      refine evM_e ?_
      show begM L ly P op C j = _
      unfold begM
      rw [if_pos ⟨h50, by omega⟩]
  by_cases hop2 : isOp (gTk L j).1
  · have hop8 : op < 8 := by
      rcases Nat.lt_or_ge op 8 with q | q
      · exact q
      · exact absurd ⟨hop2, q⟩ hd
    have h8 : ¬ (op : Int) = 8 := by omega
    obtain ⟨ks, ko, ke⟩ := h hop8
    have hp0 : pOne L ly op fs fo fe j = _ := (if_neg hd).trans ((if_neg hn).trans (if_neg h50))
    by_cases c1 : (gTk L j).1 = 38
    · have hp := hp0.trans (if_pos c1)
      have stp : stpM L ly (P, (op : Int), false, C, j) = .inl (40 :: P, (op : Int) + 1, false, C, j + 1) := (stp_open (o := 40) ⟨40, Or.inl ⟨c1, rfl⟩, rfl⟩).trans (opnM_y h8)
      obtain ⟨g1, g2⟩ := ks (40 :: P) C (j + 1) (by show rkO 40 < 5; decide) (fun z => by have q := z.1; rw [askA_o (by decide)] at q; cases q)
      rcases hE : fs (j + 1) with ⟨e, k⟩ | ⟨s, k⟩
      · rw [hE] at hp
        have hp2 : pOne L ly op fs fo fe j = if (gTk L k).1 = 39 then .inl (e, k + 1) else .inr (1, k) := hp
        have hX2 := hX _ _ _ hE
        have ob : ∀ t : St3, sTL 5 t.1 t.2.1 t.2.2 = (40 :: P, (op : Int) + 1, C ++ post e) → opnw t.1 = 40 := fun t ht => arr_o ht (by decide)
        by_cases h39 : (gTk L k).1 = 39
        · rw [if_pos h39] at hp2
          refine ⟨fun e2 k2 hl res hres => ?_, fun s k hl => (by rw [hp2] at hl; cases hl)⟩
          rw [hp2] at hl
          cases hl
          refine evM_s stp (g1 _ _ hE res (fun t ht _ => evM_s (stp_shut (betM_n hX2 (by rw [ob t ht]; decide)) (by unfold prtM; rw [if_pos (ob t ht), if_pos h39])) ?_))
          rw [ob t ht, arr_1 ht (by decide), sTL_f (show frs 1 (40 :: P) by show rkO 40 < 1; decide)]
          show evM L ly (mkS (sTL 7 P ((op : Int) + 1 - 1) (C ++ post e)) true (k + 1)) res
          rw [show (op : Int) + 1 - 1 = (op : Int) by omega]
          exact hres
        · rw [if_neg h39] at hp2
          refine ⟨fun e2 k2 hl => (by rw [hp2] at hl; cases hl), fun s k2 hl => ?_⟩
          rw [hp2] at hl
          cases hl
          exact evM_s stp (g1 _ _ hE _ (fun t ht _ => evM_e (stp_bad (betM_n hX2 (by rw [ob t ht]; decide)) (by unfold prtM; rw [if_pos (ob t ht), if_neg h39]) (by rw [ob t ht]; decide))))
      · rw [hE] at hp
        have hp2 : pOne L ly op fs fo fe j = .inr (s, k) := hp
        refine ⟨fun e2 k2 hl => (by rw [hp2] at hl; cases hl), fun s2 k2 hl => ?_⟩
        rw [hp2] at hl
        cases hl
        exact evM_s stp (g2 _ _ hE)
    have hp1 := hp0.trans (if_neg c1)
    have una : ∀ (x o : Int), rkO o = 7 → o < 40 → toR (x, 0) = (o, 0) → stpM L ly (P, (op : Int), false, C, j) = opnM o P op C j → (∀ (e : Ex) (k : Nat), fo (j + 1) = .inl (e, k) → pOne L ly op fs fo fe j = .inl (unE x e, k)) → (∀ (s : Int) (k : Nat), fo (j + 1) = .inr (s, k) → pOne L ly op fs fo fe j = .inr (s, k)) → (∀ (e : Ex) (k : Nat), pOne L ly op fs fo fe j = .inl (e, k) → ∀ res : MR, evM L ly (mkS (sTL 7 P op (C ++ post e)) true k) res → evM L ly (P, op, false, C, j) res) ∧ ∀ (s : Int) (k : Nat), pOne L ly op fs fo fe j = .inr (s, k) → evM L ly (P, op, false, C, j) (.inr (s, k)) := by
      intro x o h7 h40 hto hst hi hi2
      have stp := hst.trans (opnM_y h8)
      obtain ⟨g1, g2⟩ := ko (o :: P) C (j + 1) (fun z => by have q := z.1; rw [askA_n ⟨h40, by omega⟩] at q; cases q)
      rcases hE : fo (j + 1) with ⟨e, k⟩ | ⟨s, k⟩
      · have hp := hi e k hE
        refine ⟨fun e2 k2 hl res hres => ?_, fun s k hl => (by rw [hp] at hl; cases hl)⟩
        rw [hp] at hl
        cases hl
        refine evM_s stp (g1 _ _ hE res ?_)
        rw [hun x o e h7 hto]
        exact hres
      · have hp := hi2 s k hE
        refine ⟨fun e2 k2 hl => (by rw [hp] at hl; cases hl), fun s2 k2 hl => ?_⟩
        rw [hp] at hl
        cases hl
        exact evM_s stp (g2 _ _ hE)
    by_cases c2 : (gTk L j).1 = 35
    · have hp := hp1.trans (if_pos c2)
      exact una 60 5 (by decide) (by decide) (by decide) (stp_open ⟨5, Or.inr (Or.inl ⟨c2, rfl⟩), rfl⟩) (fun e k hE => by rw [hE] at hp; exact hp) (fun s k hE => by rw [hE] at hp; exact hp)
    have hp2 := hp1.trans (if_neg c2)
    by_cases c3 : (gTk L j).1 = 8 ∨ (gTk L j).1 = 9
    · have hp := hp2.trans (if_pos c3)
      rcases c3 with c3 | c3
      · exact una 8 2 (by decide) (by decide) (by decide) (stp_open ⟨2, Or.inr (Or.inr (Or.inl ⟨c3, rfl⟩)), rfl⟩) (fun e k hE => by rw [hE, c3] at hp; exact hp) (fun s k hE => by rw [hE] at hp; exact hp)
      · exact una 9 4 (by decide) (by decide) (by decide) (stp_open ⟨4, Or.inr (Or.inr (Or.inr (Or.inl ⟨c3, rfl⟩))), rfl⟩) (fun e k hE => by rw [hE, c3] at hp; exact hp) (fun s k hE => by rw [hE] at hp; exact hp)
    have hp3 := hp2.trans (if_neg c3)
    have c4 : (gTk L j).1 = 10 := by unfold isOp at hop2; omega
    have hp := hp3.trans (if_pos c4)
    have stp : stpM L ly (P, (op : Int), false, C, j) = .inl (41 :: P, (op : Int) + 1, false, C, j + 1) := (stp_open (o := 41) ⟨41, Or.inr (Or.inr (Or.inr (Or.inr (Or.inl ⟨c4, rfl⟩)))), rfl⟩).trans (opnM_y h8)
    obtain ⟨g1, g2⟩ := ke P C (j + 1)
    refine ⟨fun e k hl res hres => evM_s stp (g1 e k (hp.symm.trans hl) res ?_), fun s k hl => evM_s stp (g2 s k (hp.symm.trans hl))⟩
    rw [show (op : Int) + 1 - 1 = (op : Int) by omega]
    exact hres
  · unfold isOp at hop2
    have hp : pOne L ly op fs fo fe j = .inr (1, j) := (if_neg hd).trans ((if_neg hn).trans ((if_neg h50).trans ((if_neg (by omega)).trans ((if_neg (by omega)).trans ((if_neg (by omega)).trans (if_neg (by omega)))))))
    refine ⟨fun e k hl => (by rw [hp] at hl; cases hl), fun s k hl => ?_⟩
    rw [hp] at hl
    cases hl
    refine evM_e ?_
    show begM L ly P op C j = _
    unfold begM
    rw [if_neg (by omega), if_neg (by omega), if_neg (by omega), if_neg (by omega), if_neg (by omega), if_neg (by omega), if_neg (by omega), if_neg (by omega), if_neg (fun z => hc ⟨z.2, z.1⟩)]
end QCL
