def wdR (r : Nat) : Nat := ([7, 7, 7, 9, 9, 4] : List Nat).getD r 0
def cpR (r : Nat) : Nat := ([3, 24, 24, 40, 16, 25] : List Nat).getD r 0
def upR (RL : Nat → List Rw) (r : Nat) (L : List Rw) : Nat → List Rw := fun j => if j = r then L else RL j
/-- a state of the class: its numbers sc (by the reference's place), its rows RL -/
def isS2 (A : Nat → Nat) (sc : Nat → Int) (RL : Nat → List Rw) (w : Wo) : Prop :=
  lk w (A 0) = some (Ob 5 [vi (sc 18), vi (sc 20), vi (sc 19), vi (sc 21), vi (sc 22), vr (A 1), vr (A 3), vr (A 5), vr (A 7), vr (A 9), vr (A 11)]) ∧
  (∀ r : Nat, r < 6 → isRw (A (1 + 2 * r)) (A (2 + 2 * r)) (wdR r) (cpR r) (RL r) w) ∧ ∀ i j : Nat, i < 13 → j < 13 → A i = A j → i = j
def FrS (A : Nat → Nat) (w w' : Wo) : Prop := ∀ a : Nat, (∀ i : Nat, i < 13 → a ≠ A i) → lk w' a = lk w a
theorem FrS.rf {A : Nat → Nat} {w : Wo} : FrS A w w := fun _ _ => rfl
theorem FrS.tr {A : Nat → Nat} {w w1 w2 : Wo} (h : FrS A w w1) (h2 : FrS A w1 w2) : FrS A w w2 := fun a ha => (h2 a ha).trans (h a ha)
theorem FrS.u0 {A : Nat → Nat} {w w1 : Wo} {c : Ce} (h : FrS A w w1) : FrS A w (up w1 (A 0) c) := fun a ha => (lk_up_n (ha 0 (by decide))).trans (h a ha)
section QS2
variable {A B : Nat → Nat} {sc : Nat → Int} {RL : Nat → List Rw} {w w' : Wo} {r : Nat} {L : List Rw}
theorem FrS_row (hr : r < 6) (hf : Frm (A (1 + 2 * r)) (A (2 + 2 * r)) w w') : FrS A w w' := fun a ha => hf a (ha _ (by omega)) (ha _ (by omega))
theorem isRw_fr {p q wd cap : Nat} (h : isRw p q wd cap L w) (h1 : lk w' p = lk w p) (h2 : lk w' q = lk w q) : isRw p q wd cap L w' := by
  obtain ⟨g1, f, g2, g3⟩ := h
  exact ⟨h1.trans g1, f, h2.trans g2, g3⟩
theorem isS2_fr (h : isS2 B sc RL w) (hf : FrS A w w') (hd : ∀ i j : Nat, i < 13 → j < 13 → A i ≠ B j) : isS2 B sc RL w' := by
  obtain ⟨h1, h2, h3⟩ := h
  have e : ∀ j : Nat, j < 13 → lk w' (B j) = lk w (B j) := fun j hj => hf _ (fun i hi => (hd i j hi hj).symm)
  exact ⟨(e 0 (by decide)).trans h1, fun r hr => isRw_fr (h2 r hr) (e _ (by omega)) (e _ (by omega)), h3⟩
theorem isS2_row (h : isS2 A sc RL w) (hr : r < 6) (hw : isRw (A (1 + 2 * r)) (A (2 + 2 * r)) (wdR r) (cpR r) L w') (hf : Frm (A (1 + 2 * r)) (A (2 + 2 * r)) w w') : isS2 A sc (upR RL r L) w' := by
  obtain ⟨h1, h2, h3⟩ := h
  have ne : ∀ i j : Nat, i < 13 → j < 13 → i ≠ j → A i ≠ A j := fun i j hi hj hij e => hij (h3 i j hi hj e)
  refine ⟨(hf _ (ne 0 _ (by decide) (by omega) (by omega)) (ne 0 _ (by decide) (by omega) (by omega))).trans h1, fun s hs => ?_, h3⟩
  by_cases e : s = r
  · subst e
    unfold upR
    rw [if_pos rfl]
    exact hw
  · unfold upR
    rw [if_neg e]
    exact isRw_fr (h2 s hs) (hf _ (ne _ _ (by omega) (by omega) (by omega)) (ne _ _ (by omega) (by omega) (by omega))) (hf _ (ne _ _ (by omega) (by omega) (by omega)) (ne _ _ (by omega) (by omega) (by omega)))
theorem isS2_o {c : List AV} {s2 : Nat → Int} (h : isS2 A sc RL w) (hc : c = [vi (s2 18), vi (s2 20), vi (s2 19), vi (s2 21), vi (s2 22), vr (A 1), vr (A 3), vr (A 5), vr (A 7), vr (A 9), vr (A 11)]) : isS2 A s2 RL (up w (A 0) (Ob 5 c)) := by
  obtain ⟨h1, h2, h3⟩ := h
  have ne : ∀ j : Nat, j < 13 → j ≠ 0 → A j ≠ A 0 := fun j hj hj0 e => hj0 (h3 j 0 hj (by decide) e)
  subst hc
  exact ⟨lk_up_s h1, fun r hr => isRw_fr (h2 r hr) (lk_up_n (ne _ (by omega) (by omega))) (lk_up_n (ne _ (by omega) (by omega))), h3⟩
theorem isS2_num0 {v : Int} (h : isS2 A sc RL w) : isS2 A (uN sc 18 v) RL (up w (A 0) (Ob 5 ([vi (sc 18), vi (sc 20), vi (sc 19), vi (sc 21), vi (sc 22), vr (A 1), vr (A 3), vr (A 5), vr (A 7), vr (A 9), vr (A 11)].set 0 (vi v)))) := isS2_o h rfl
theorem isS2_num1 {v : Int} (h : isS2 A sc RL w) : isS2 A (uN sc 20 v) RL (up w (A 0) (Ob 5 ([vi (sc 18), vi (sc 20), vi (sc 19), vi (sc 21), vi (sc 22), vr (A 1), vr (A 3), vr (A 5), vr (A 7), vr (A 9), vr (A 11)].set 1 (vi v)))) := isS2_o h rfl
theorem isS2_num2 {v : Int} (h : isS2 A sc RL w) : isS2 A (uN sc 19 v) RL (up w (A 0) (Ob 5 ([vi (sc 18), vi (sc 20), vi (sc 19), vi (sc 21), vi (sc 22), vr (A 1), vr (A 3), vr (A 5), vr (A 7), vr (A 9), vr (A 11)].set 2 (vi v)))) := isS2_o h rfl
theorem isS2_num3 {v : Int} (h : isS2 A sc RL w) : isS2 A (uN sc 21 v) RL (up w (A 0) (Ob 5 ([vi (sc 18), vi (sc 20), vi (sc 19), vi (sc 21), vi (sc 22), vr (A 1), vr (A 3), vr (A 5), vr (A 7), vr (A 9), vr (A 11)].set 3 (vi v)))) := isS2_o h rfl
theorem isS2_num4 {v : Int} (h : isS2 A sc RL w) : isS2 A (uN sc 22 v) RL (up w (A 0) (Ob 5 ([vi (sc 18), vi (sc 20), vi (sc 19), vi (sc 21), vi (sc 22), vr (A 1), vr (A 3), vr (A 5), vr (A 7), vr (A 9), vr (A 11)].set 4 (vi v)))) := isS2_o h rfl
theorem isS2_ext {s2 : Nat → Int} {R2 : Nat → List Rw} (h : isS2 A sc RL w) (h1 : ∀ k : Nat, 18 ≤ k → k < 23 → s2 k = sc k) (h2 : ∀ r : Nat, r < 6 → R2 r = RL r) : isS2 A s2 R2 w := by
  obtain ⟨g1, g2, g3⟩ := h
  refine ⟨?_, fun r hr => by rw [h2 r hr]; exact g2 r hr, g3⟩
  rw [h1 18 (by decide) (by decide), h1 19 (by decide) (by decide), h1 20 (by decide) (by decide), h1 21 (by decide) (by decide), h1 22 (by decide) (by decide)]
  exact g1
end QS2
/-- a block's row -/
def blk (D : Dy) (c : Nat) : Rw := fun k => D.1 (28 + 3 * k + c)
def LR (D : Dy) : Nat → List Rw
  | 0 => [blk D 0, blk D 1, blk D 2]
  | 1 => D.2.1 0
  | 2 => D.2.1 1
  | 3 => D.2.2.1
  | 4 => D.2.2.2.1
  | _ => D.2.2.2.2
abbrev isSt (A : Nat → Nat) (D : Dy) (w : Wo) : Prop := isS2 A D.1 (LR D) w

set_option maxHeartbeats 4000000 in
set_option maxRecDepth 100000 in
theorem kX6_line (l : Launch) (G : GT) (A : Nat → Nat) (sc : Nat → Int) (RL : Nat → List Rw) (s : Nat) (hs : s < 2) : Ctr l G yX6_line cX6_line 2 ((Option.some (Jvm.ClassFile.FieldType.object "LongCarrier$Rows"))) 1 0 0 [vr (A 0), vi ((s : Nat) : Int)] (fun w => isS2 A sc RL w) (fun w r w' => r = some (vr (A (3 + 2 * s))) ∧ w' = w) := by
  refine Ctr.of (t := tX6_line) (lv0 := [some (vr (A 0)), some (vi ((s : Nat) : Int))]) (by decide +kernel) tX6_line_ok rfl rfl (fun w g hP M => ?_)
  refine M.run 1 (pc' := 1) (lv' := [some (vr (A 0)), some (vi ((s : Nat) : Int))]) (st' := [vi ((s : Nat) : Int)]) rfl ?_
  refine M.if_ne (tgt := 11) rfl (qI (by omega)) (by decide) (fun h1 => ?_) (fun h1 => ?_)
  · skip
    refine M.run 1 (pc' := 12) (lv' := [some (vr (A 0)), some (vi ((s : Nat) : Int))]) (st' := [vr (A 0)]) rfl ?_
    refine M.get fl_X6_30 rfl (hP.1) (kf := 7) (v := vr (A 5)) rfl ?_
    exact M.aret rfl (Nat.zero_le _) (Nat.zero_le _) ⟨by rw [show s = 1 by omega], rfl⟩
  · skip
    refine M.run 1 (pc' := 5) (lv' := [some (vr (A 0)), some (vi ((s : Nat) : Int))]) (st' := [vr (A 0)]) rfl ?_
    refine M.get fl_X6_27 rfl (hP.1) (kf := 6) (v := vr (A 3)) rfl ?_
    refine M.run 1 (pc' := 15) (lv' := [some (vr (A 0)), some (vi ((s : Nat) : Int))]) (st' := [vr (A 3)]) rfl ?_
    exact M.aret rfl (Nat.zero_le _) (Nat.zero_le _) ⟨by rw [show s = 0 by omega], rfl⟩
set_option maxHeartbeats 4000000 in
set_option maxRecDepth 100000 in
theorem kX6_stir (l : Launch) (G : GT) (A : Nat → Nat) (sc : Nat → Int) (RL : Nat → List Rw) (hx : 0 ≤ sc 19 ∧ sc 19 ≤ 31090) : Ctr l G yX6_stir cX6_stir 1 ((Option.none : Option Jvm.ClassFile.FieldType)) 1 0 0 [vr (A 0)] (fun w => isS2 A sc RL w) (fun w r w' => r = none ∧ isS2 A (uN sc 19 ((sc 19 * 757 + 617).tmod 31091)) RL w' ∧ FrS A w w') := by
  refine Ctr.of (t := tX6_stir) (lv0 := [some (vr (A 0))]) (by decide +kernel) tX6_stir_ok rfl rfl (fun w g hP M => ?_)
  refine M.run 2 (pc' := 2) (lv' := [some (vr (A 0))]) (st' := [vr (A 0), vr (A 0)]) rfl ?_
  refine M.get fl_X6_9 rfl (hP.1) (kf := 2) (v := vi (sc 19)) rfl ?_
  refine M.run 5 (pc' := 16) (lv' := [some (vr (A 0))]) (st' := [vi 31091, vi (((sc 19) * 757) + 617), vr (A 0)]) rfl ?_
  refine M.irem rfl (qI (by omega)) (qI (by decide)) (by decide) ?_
  refine M.put fl_X6_9 rfl (hP.1) rfl rfl (Nat.le_of_ble_eq_true rfl) ?_
  have hS1 : isS2 A (uN sc 19 ((((sc 19) * 757) + 617).tmod 31091)) RL (up w (A 0) (Ob 5 ([vi (sc 18), vi (sc 20), vi (sc 19), vi (sc 21), vi (sc 22), vr (A 1), vr (A 3), vr (A 5), vr (A 7), vr (A 9), vr (A 11)].set 2 (vi ((((sc 19) * 757) + 617).tmod 31091))))) := isS2_num2 hP
  have fr1 : FrS A w (up w (A 0) (Ob 5 ([vi (sc 18), vi (sc 20), vi (sc 19), vi (sc 21), vi (sc 22), vr (A 1), vr (A 3), vr (A 5), vr (A 7), vr (A 9), vr (A 11)].set 2 (vi ((((sc 19) * 757) + 617).tmod 31091))))) := (FrS.rf (A := A) (w := w)).u0
  generalize up w (A 0) (Ob 5 ([vi (sc 18), vi (sc 20), vi (sc 19), vi (sc 21), vi (sc 22), vr (A 1), vr (A 3), vr (A 5), vr (A 7), vr (A 9), vr (A 11)].set 2 (vi ((((sc 19) * 757) + 617).tmod 31091)))) = w1 at hS1 fr1 ⊢
  exact M.vret rfl (Nat.zero_le _) (Nat.zero_le _) ⟨rfl, hS1, fr1⟩
set_option maxHeartbeats 4000000 in
set_option maxRecDepth 100000 in
theorem kX6_drawn (l : Launch) (G : GT) (A : Nat → Nat) (sc : Nat → Int) (RL : Nat → List Rw) (hx : 0 ≤ sc 19 ∧ sc 19 ≤ 31090) : Ctr l G yX6_drawn cX6_drawn 2 ((Option.some Jvm.ClassFile.FieldType.int)) 2 0 0 [vr (A 0)] (fun w => isS2 A sc RL w) (fun w r w' => r = some (vi ((sc 19).tmod 10)) ∧ isS2 A (uN sc 19 ((sc 19 * 757 + 617).tmod 31091)) RL w' ∧ FrS A w w') := by
  refine Ctr.of (t := tX6_drawn) (lv0 := [some (vr (A 0)), none]) (by decide +kernel) tX6_drawn_ok rfl rfl (fun w g hP M => ?_)
  refine M.run 1 (pc' := 1) (lv' := [some (vr (A 0)), none]) (st' := [vr (A 0)]) rfl ?_
  refine M.get fl_X6_9 rfl (hP.1) (kf := 2) (v := vi (sc 19)) rfl ?_
  refine M.run 1 (pc' := 6) (lv' := [some (vr (A 0)), none]) (st' := [vi 10, vi (sc 19)]) rfl ?_
  refine M.irem rfl (qI (by omega)) (qI (by decide)) (by decide) ?_
  refine M.run 2 (pc' := 9) (lv' := [some (vr (A 0)), some (vi ((sc 19).tmod 10))]) (st' := [vr (A 0)]) rfl ?_
  refine M.callV (kX6_stir l G A sc RL hx) cv_X6_42 cd_X6_stir rfl (st := []) rfl (hP.1) (by decide) (by decide) rfl (Nat.zero_le _) (Nat.zero_le _) hP (fun r1 w2 q3 => ?_)
  obtain ⟨q3r, hS9, hf9⟩ := q3
  rw [q3r]
  refine M.run 1 (pc' := 13) (lv' := [some (vr (A 0)), some (vi ((sc 19).tmod 10))]) (st' := [vi ((sc 19).tmod 10)]) rfl ?_
  exact M.iret rfl (Nat.zero_le _) (Nat.zero_le _) ⟨rfl, hS9, hf9⟩
set_option maxHeartbeats 4000000 in
set_option maxRecDepth 100000 in
theorem kX6_copyFrom (l : Launch) (G : GT) (A B : Nat → Nat) (sc sc2 : Nat → Int) (RL RL2 : Nat → List Rw) (hdis : ∀ i j : Nat, i < 13 → j < 13 → A i ≠ B j) : Ctr l G yX6_copyFrom cX6_copyFrom 2 ((Option.none : Option Jvm.ClassFile.FieldType)) 2 0 0 [vr (A 0), vr (B 0)] (fun w => isS2 A sc RL w ∧ isS2 B sc2 RL2 w) (fun w r w' => r = none ∧ isS2 A sc2 RL2 w' ∧ FrS A w w') := by
  refine Ctr.of (t := tX6_copyFrom) (lv0 := [some (vr (A 0)), some (vr (B 0))]) (by decide +kernel) tX6_copyFrom_ok rfl rfl (fun w g hP M => ?_)
  obtain ⟨hA, hBs⟩ := hP
  refine M.run 2 (pc' := 2) (lv' := [some (vr (A 0)), some (vr (B 0))]) (st' := [vr (B 0), vr (A 0)]) rfl ?_
  refine M.get fl_X6_45 rfl (hBs.1) (kf := 0) (v := vi (sc2 18)) rfl ?_
  refine M.put fl_X6_45 rfl (hA.1) rfl rfl (Nat.le_of_ble_eq_true rfl) ?_
  have hS1 : isS2 A (uN sc 18 (sc2 18)) RL (up w (A 0) (Ob 5 ([vi (sc 18), vi (sc 20), vi (sc 19), vi (sc 21), vi (sc 22), vr (A 1), vr (A 3), vr (A 5), vr (A 7), vr (A 9), vr (A 11)].set 0 (vi (sc2 18))))) := isS2_num0 hA
  have hS1B : isS2 B sc2 RL2 (up w (A 0) (Ob 5 ([vi (sc 18), vi (sc 20), vi (sc 19), vi (sc 21), vi (sc 22), vr (A 1), vr (A 3), vr (A 5), vr (A 7), vr (A 9), vr (A 11)].set 0 (vi (sc2 18))))) := isS2_fr hBs (FrS.rf.u0) hdis
  have fr1 : FrS A w (up w (A 0) (Ob 5 ([vi (sc 18), vi (sc 20), vi (sc 19), vi (sc 21), vi (sc 22), vr (A 1), vr (A 3), vr (A 5), vr (A 7), vr (A 9), vr (A 11)].set 0 (vi (sc2 18))))) := (FrS.rf (A := A) (w := w)).u0
  generalize up w (A 0) (Ob 5 ([vi (sc 18), vi (sc 20), vi (sc 19), vi (sc 21), vi (sc 22), vr (A 1), vr (A 3), vr (A 5), vr (A 7), vr (A 9), vr (A 11)].set 0 (vi (sc2 18)))) = w1 at hS1 hS1B fr1 ⊢
  refine M.run 2 (pc' := 10) (lv' := [some (vr (A 0)), some (vr (B 0))]) (st' := [vr (B 0), vr (A 0)]) rfl ?_
  refine M.get fl_X6_48 rfl (hS1B.1) (kf := 1) (v := vi (sc2 20)) rfl ?_
  refine M.put fl_X6_48 rfl (hS1.1) rfl rfl (Nat.le_of_ble_eq_true rfl) ?_
  have hS2 : isS2 A (uN (uN sc 18 (sc2 18)) 20 (sc2 20)) RL (up w1 (A 0) (Ob 5 ([vi ((uN sc 18 (sc2 18)) 18), vi ((uN sc 18 (sc2 18)) 20), vi ((uN sc 18 (sc2 18)) 19), vi ((uN sc 18 (sc2 18)) 21), vi ((uN sc 18 (sc2 18)) 22), vr (A 1), vr (A 3), vr (A 5), vr (A 7), vr (A 9), vr (A 11)].set 1 (vi (sc2 20))))) := isS2_num1 hS1
  have hS2B : isS2 B sc2 RL2 (up w1 (A 0) (Ob 5 ([vi ((uN sc 18 (sc2 18)) 18), vi ((uN sc 18 (sc2 18)) 20), vi ((uN sc 18 (sc2 18)) 19), vi ((uN sc 18 (sc2 18)) 21), vi ((uN sc 18 (sc2 18)) 22), vr (A 1), vr (A 3), vr (A 5), vr (A 7), vr (A 9), vr (A 11)].set 1 (vi (sc2 20))))) := isS2_fr hS1B (FrS.rf.u0) hdis
  have fr2 : FrS A w (up w1 (A 0) (Ob 5 ([vi ((uN sc 18 (sc2 18)) 18), vi ((uN sc 18 (sc2 18)) 20), vi ((uN sc 18 (sc2 18)) 19), vi ((uN sc 18 (sc2 18)) 21), vi ((uN sc 18 (sc2 18)) 22), vr (A 1), vr (A 3), vr (A 5), vr (A 7), vr (A 9), vr (A 11)].set 1 (vi (sc2 20))))) := fr1.u0
  generalize up w1 (A 0) (Ob 5 ([vi ((uN sc 18 (sc2 18)) 18), vi ((uN sc 18 (sc2 18)) 20), vi ((uN sc 18 (sc2 18)) 19), vi ((uN sc 18 (sc2 18)) 21), vi ((uN sc 18 (sc2 18)) 22), vr (A 1), vr (A 3), vr (A 5), vr (A 7), vr (A 9), vr (A 11)].set 1 (vi (sc2 20)))) = w2 at hS2 hS2B fr2 ⊢
  refine M.run 2 (pc' := 18) (lv' := [some (vr (A 0)), some (vr (B 0))]) (st' := [vr (B 0), vr (A 0)]) rfl ?_
  refine M.get fl_X6_9 rfl (hS2B.1) (kf := 2) (v := vi (sc2 19)) rfl ?_
  refine M.put fl_X6_9 rfl (hS2.1) rfl rfl (Nat.le_of_ble_eq_true rfl) ?_
  have hS3 : isS2 A (uN (uN (uN sc 18 (sc2 18)) 20 (sc2 20)) 19 (sc2 19)) RL (up w2 (A 0) (Ob 5 ([vi ((uN (uN sc 18 (sc2 18)) 20 (sc2 20)) 18), vi ((uN (uN sc 18 (sc2 18)) 20 (sc2 20)) 20), vi ((uN (uN sc 18 (sc2 18)) 20 (sc2 20)) 19), vi ((uN (uN sc 18 (sc2 18)) 20 (sc2 20)) 21), vi ((uN (uN sc 18 (sc2 18)) 20 (sc2 20)) 22), vr (A 1), vr (A 3), vr (A 5), vr (A 7), vr (A 9), vr (A 11)].set 2 (vi (sc2 19))))) := isS2_num2 hS2
  have hS3B : isS2 B sc2 RL2 (up w2 (A 0) (Ob 5 ([vi ((uN (uN sc 18 (sc2 18)) 20 (sc2 20)) 18), vi ((uN (uN sc 18 (sc2 18)) 20 (sc2 20)) 20), vi ((uN (uN sc 18 (sc2 18)) 20 (sc2 20)) 19), vi ((uN (uN sc 18 (sc2 18)) 20 (sc2 20)) 21), vi ((uN (uN sc 18 (sc2 18)) 20 (sc2 20)) 22), vr (A 1), vr (A 3), vr (A 5), vr (A 7), vr (A 9), vr (A 11)].set 2 (vi (sc2 19))))) := isS2_fr hS2B (FrS.rf.u0) hdis
  have fr3 : FrS A w (up w2 (A 0) (Ob 5 ([vi ((uN (uN sc 18 (sc2 18)) 20 (sc2 20)) 18), vi ((uN (uN sc 18 (sc2 18)) 20 (sc2 20)) 20), vi ((uN (uN sc 18 (sc2 18)) 20 (sc2 20)) 19), vi ((uN (uN sc 18 (sc2 18)) 20 (sc2 20)) 21), vi ((uN (uN sc 18 (sc2 18)) 20 (sc2 20)) 22), vr (A 1), vr (A 3), vr (A 5), vr (A 7), vr (A 9), vr (A 11)].set 2 (vi (sc2 19))))) := fr2.u0
  generalize up w2 (A 0) (Ob 5 ([vi ((uN (uN sc 18 (sc2 18)) 20 (sc2 20)) 18), vi ((uN (uN sc 18 (sc2 18)) 20 (sc2 20)) 20), vi ((uN (uN sc 18 (sc2 18)) 20 (sc2 20)) 19), vi ((uN (uN sc 18 (sc2 18)) 20 (sc2 20)) 21), vi ((uN (uN sc 18 (sc2 18)) 20 (sc2 20)) 22), vr (A 1), vr (A 3), vr (A 5), vr (A 7), vr (A 9), vr (A 11)].set 2 (vi (sc2 19)))) = w3 at hS3 hS3B fr3 ⊢
  refine M.run 2 (pc' := 26) (lv' := [some (vr (A 0)), some (vr (B 0))]) (st' := [vr (B 0), vr (A 0)]) rfl ?_
  refine M.get fl_X6_51 rfl (hS3B.1) (kf := 3) (v := vi (sc2 21)) rfl ?_
  refine M.put fl_X6_51 rfl (hS3.1) rfl rfl (Nat.le_of_ble_eq_true rfl) ?_
  have hS4 : isS2 A (uN (uN (uN (uN sc 18 (sc2 18)) 20 (sc2 20)) 19 (sc2 19)) 21 (sc2 21)) RL (up w3 (A 0) (Ob 5 ([vi ((uN (uN (uN sc 18 (sc2 18)) 20 (sc2 20)) 19 (sc2 19)) 18), vi ((uN (uN (uN sc 18 (sc2 18)) 20 (sc2 20)) 19 (sc2 19)) 20), vi ((uN (uN (uN sc 18 (sc2 18)) 20 (sc2 20)) 19 (sc2 19)) 19), vi ((uN (uN (uN sc 18 (sc2 18)) 20 (sc2 20)) 19 (sc2 19)) 21), vi ((uN (uN (uN sc 18 (sc2 18)) 20 (sc2 20)) 19 (sc2 19)) 22), vr (A 1), vr (A 3), vr (A 5), vr (A 7), vr (A 9), vr (A 11)].set 3 (vi (sc2 21))))) := isS2_num3 hS3
  have hS4B : isS2 B sc2 RL2 (up w3 (A 0) (Ob 5 ([vi ((uN (uN (uN sc 18 (sc2 18)) 20 (sc2 20)) 19 (sc2 19)) 18), vi ((uN (uN (uN sc 18 (sc2 18)) 20 (sc2 20)) 19 (sc2 19)) 20), vi ((uN (uN (uN sc 18 (sc2 18)) 20 (sc2 20)) 19 (sc2 19)) 19), vi ((uN (uN (uN sc 18 (sc2 18)) 20 (sc2 20)) 19 (sc2 19)) 21), vi ((uN (uN (uN sc 18 (sc2 18)) 20 (sc2 20)) 19 (sc2 19)) 22), vr (A 1), vr (A 3), vr (A 5), vr (A 7), vr (A 9), vr (A 11)].set 3 (vi (sc2 21))))) := isS2_fr hS3B (FrS.rf.u0) hdis
  have fr4 : FrS A w (up w3 (A 0) (Ob 5 ([vi ((uN (uN (uN sc 18 (sc2 18)) 20 (sc2 20)) 19 (sc2 19)) 18), vi ((uN (uN (uN sc 18 (sc2 18)) 20 (sc2 20)) 19 (sc2 19)) 20), vi ((uN (uN (uN sc 18 (sc2 18)) 20 (sc2 20)) 19 (sc2 19)) 19), vi ((uN (uN (uN sc 18 (sc2 18)) 20 (sc2 20)) 19 (sc2 19)) 21), vi ((uN (uN (uN sc 18 (sc2 18)) 20 (sc2 20)) 19 (sc2 19)) 22), vr (A 1), vr (A 3), vr (A 5), vr (A 7), vr (A 9), vr (A 11)].set 3 (vi (sc2 21))))) := fr3.u0
  generalize up w3 (A 0) (Ob 5 ([vi ((uN (uN (uN sc 18 (sc2 18)) 20 (sc2 20)) 19 (sc2 19)) 18), vi ((uN (uN (uN sc 18 (sc2 18)) 20 (sc2 20)) 19 (sc2 19)) 20), vi ((uN (uN (uN sc 18 (sc2 18)) 20 (sc2 20)) 19 (sc2 19)) 19), vi ((uN (uN (uN sc 18 (sc2 18)) 20 (sc2 20)) 19 (sc2 19)) 21), vi ((uN (uN (uN sc 18 (sc2 18)) 20 (sc2 20)) 19 (sc2 19)) 22), vr (A 1), vr (A 3), vr (A 5), vr (A 7), vr (A 9), vr (A 11)].set 3 (vi (sc2 21)))) = w4 at hS4 hS4B fr4 ⊢
  refine M.run 2 (pc' := 34) (lv' := [some (vr (A 0)), some (vr (B 0))]) (st' := [vr (B 0), vr (A 0)]) rfl ?_
  refine M.get fl_X6_54 rfl (hS4B.1) (kf := 4) (v := vi (sc2 22)) rfl ?_
  refine M.put fl_X6_54 rfl (hS4.1) rfl rfl (Nat.le_of_ble_eq_true rfl) ?_
  have hS5 : isS2 A (uN (uN (uN (uN (uN sc 18 (sc2 18)) 20 (sc2 20)) 19 (sc2 19)) 21 (sc2 21)) 22 (sc2 22)) RL (up w4 (A 0) (Ob 5 ([vi ((uN (uN (uN (uN sc 18 (sc2 18)) 20 (sc2 20)) 19 (sc2 19)) 21 (sc2 21)) 18), vi ((uN (uN (uN (uN sc 18 (sc2 18)) 20 (sc2 20)) 19 (sc2 19)) 21 (sc2 21)) 20), vi ((uN (uN (uN (uN sc 18 (sc2 18)) 20 (sc2 20)) 19 (sc2 19)) 21 (sc2 21)) 19), vi ((uN (uN (uN (uN sc 18 (sc2 18)) 20 (sc2 20)) 19 (sc2 19)) 21 (sc2 21)) 21), vi ((uN (uN (uN (uN sc 18 (sc2 18)) 20 (sc2 20)) 19 (sc2 19)) 21 (sc2 21)) 22), vr (A 1), vr (A 3), vr (A 5), vr (A 7), vr (A 9), vr (A 11)].set 4 (vi (sc2 22))))) := isS2_num4 hS4
  have hS5B : isS2 B sc2 RL2 (up w4 (A 0) (Ob 5 ([vi ((uN (uN (uN (uN sc 18 (sc2 18)) 20 (sc2 20)) 19 (sc2 19)) 21 (sc2 21)) 18), vi ((uN (uN (uN (uN sc 18 (sc2 18)) 20 (sc2 20)) 19 (sc2 19)) 21 (sc2 21)) 20), vi ((uN (uN (uN (uN sc 18 (sc2 18)) 20 (sc2 20)) 19 (sc2 19)) 21 (sc2 21)) 19), vi ((uN (uN (uN (uN sc 18 (sc2 18)) 20 (sc2 20)) 19 (sc2 19)) 21 (sc2 21)) 21), vi ((uN (uN (uN (uN sc 18 (sc2 18)) 20 (sc2 20)) 19 (sc2 19)) 21 (sc2 21)) 22), vr (A 1), vr (A 3), vr (A 5), vr (A 7), vr (A 9), vr (A 11)].set 4 (vi (sc2 22))))) := isS2_fr hS4B (FrS.rf.u0) hdis
  have fr5 : FrS A w (up w4 (A 0) (Ob 5 ([vi ((uN (uN (uN (uN sc 18 (sc2 18)) 20 (sc2 20)) 19 (sc2 19)) 21 (sc2 21)) 18), vi ((uN (uN (uN (uN sc 18 (sc2 18)) 20 (sc2 20)) 19 (sc2 19)) 21 (sc2 21)) 20), vi ((uN (uN (uN (uN sc 18 (sc2 18)) 20 (sc2 20)) 19 (sc2 19)) 21 (sc2 21)) 19), vi ((uN (uN (uN (uN sc 18 (sc2 18)) 20 (sc2 20)) 19 (sc2 19)) 21 (sc2 21)) 21), vi ((uN (uN (uN (uN sc 18 (sc2 18)) 20 (sc2 20)) 19 (sc2 19)) 21 (sc2 21)) 22), vr (A 1), vr (A 3), vr (A 5), vr (A 7), vr (A 9), vr (A 11)].set 4 (vi (sc2 22))))) := fr4.u0
  generalize up w4 (A 0) (Ob 5 ([vi ((uN (uN (uN (uN sc 18 (sc2 18)) 20 (sc2 20)) 19 (sc2 19)) 21 (sc2 21)) 18), vi ((uN (uN (uN (uN sc 18 (sc2 18)) 20 (sc2 20)) 19 (sc2 19)) 21 (sc2 21)) 20), vi ((uN (uN (uN (uN sc 18 (sc2 18)) 20 (sc2 20)) 19 (sc2 19)) 21 (sc2 21)) 19), vi ((uN (uN (uN (uN sc 18 (sc2 18)) 20 (sc2 20)) 19 (sc2 19)) 21 (sc2 21)) 21), vi ((uN (uN (uN (uN sc 18 (sc2 18)) 20 (sc2 20)) 19 (sc2 19)) 21 (sc2 21)) 22), vr (A 1), vr (A 3), vr (A 5), vr (A 7), vr (A 9), vr (A 11)].set 4 (vi (sc2 22)))) = w5 at hS5 hS5B fr5 ⊢
  refine M.run 1 (pc' := 41) (lv' := [some (vr (A 0)), some (vr (B 0))]) (st' := [vr (A 0)]) rfl ?_
  refine M.get fl_X6_20 rfl (hS5.1) (kf := 5) (v := vr (A 1)) rfl ?_
  refine M.run 1 (pc' := 45) (lv' := [some (vr (A 0)), some (vr (B 0))]) (st' := [vr (B 0), vr (A 1)]) rfl ?_
  refine M.get fl_X6_20 rfl (hS5B.1) (kf := 5) (v := vr (B 1)) rfl ?_
  refine M.callV (kX4_copyFrom7 l G (A 1) (A 2) (B 1) (B 2) 3 (by decide) (RL 0) (RL2 0)) cv_X6_57 cd_X4_copyFrom rfl (st := []) rfl ((hS5.2.1 0 (by decide)).1) (by decide) (by decide) rfl (Nat.zero_le _) (Nat.zero_le _) ⟨hS5.2.1 0 (by decide), hS5B.2.1 0 (by decide), hdis _ _ (by decide) (by decide), hdis _ _ (by decide) (by decide)⟩ (fun r7 w8 q9 => ?_)
  obtain ⟨q9r, q9w, q9f⟩ := q9
  rw [q9r]
  have hS6 : isS2 A (uN (uN (uN (uN (uN sc 18 (sc2 18)) 20 (sc2 20)) 19 (sc2 19)) 21 (sc2 21)) 22 (sc2 22)) (upR RL 0 (RL2 0)) w8 := isS2_row hS5 (r := 0) (by decide) q9w q9f
  have fr6 : FrS A w w8 := fr5.tr (FrS_row (r := 0) (by decide) q9f)
  have hS6B : isS2 B sc2 RL2 w8 := isS2_fr hS5B (FrS_row (r := 0) (by decide) q9f) hdis
  refine M.run 1 (pc' := 52) (lv' := [some (vr (A 0)), some (vr (B 0))]) (st' := [vr (A 0)]) rfl ?_
  refine M.get fl_X6_27 rfl (hS6.1) (kf := 6) (v := vr (A 3)) rfl ?_
  refine M.run 1 (pc' := 56) (lv' := [some (vr (A 0)), some (vr (B 0))]) (st' := [vr (B 0), vr (A 3)]) rfl ?_
  refine M.get fl_X6_27 rfl (hS6B.1) (kf := 6) (v := vr (B 3)) rfl ?_
  refine M.callV (kX4_copyFrom7 l G (A 3) (A 4) (B 3) (B 4) 24 (by decide) ((upR RL 0 (RL2 0)) 1) (RL2 1)) cv_X6_57 cd_X4_copyFrom rfl (st := []) rfl ((hS6.2.1 1 (by decide)).1) (by decide) (by decide) rfl (Nat.zero_le _) (Nat.zero_le _) ⟨hS6.2.1 1 (by decide), hS6B.2.1 1 (by decide), hdis _ _ (by decide) (by decide), hdis _ _ (by decide) (by decide)⟩ (fun r12 w13 q14 => ?_)
  obtain ⟨q14r, q14w, q14f⟩ := q14
  rw [q14r]
  have hS11 : isS2 A (uN (uN (uN (uN (uN sc 18 (sc2 18)) 20 (sc2 20)) 19 (sc2 19)) 21 (sc2 21)) 22 (sc2 22)) (upR (upR RL 0 (RL2 0)) 1 (RL2 1)) w13 := isS2_row hS6 (r := 1) (by decide) q14w q14f
  have fr11 : FrS A w w13 := fr6.tr (FrS_row (r := 1) (by decide) q14f)
  have hS11B : isS2 B sc2 RL2 w13 := isS2_fr hS6B (FrS_row (r := 1) (by decide) q14f) hdis
  refine M.run 1 (pc' := 63) (lv' := [some (vr (A 0)), some (vr (B 0))]) (st' := [vr (A 0)]) rfl ?_
  refine M.get fl_X6_30 rfl (hS11.1) (kf := 7) (v := vr (A 5)) rfl ?_
  refine M.run 1 (pc' := 67) (lv' := [some (vr (A 0)), some (vr (B 0))]) (st' := [vr (B 0), vr (A 5)]) rfl ?_
  refine M.get fl_X6_30 rfl (hS11B.1) (kf := 7) (v := vr (B 5)) rfl ?_
  refine M.callV (kX4_copyFrom7 l G (A 5) (A 6) (B 5) (B 6) 24 (by decide) ((upR (upR RL 0 (RL2 0)) 1 (RL2 1)) 2) (RL2 2)) cv_X6_57 cd_X4_copyFrom rfl (st := []) rfl ((hS11.2.1 2 (by decide)).1) (by decide) (by decide) rfl (Nat.zero_le _) (Nat.zero_le _) ⟨hS11.2.1 2 (by decide), hS11B.2.1 2 (by decide), hdis _ _ (by decide) (by decide), hdis _ _ (by decide) (by decide)⟩ (fun r17 w18 q19 => ?_)
  obtain ⟨q19r, q19w, q19f⟩ := q19
  rw [q19r]
  have hS16 : isS2 A (uN (uN (uN (uN (uN sc 18 (sc2 18)) 20 (sc2 20)) 19 (sc2 19)) 21 (sc2 21)) 22 (sc2 22)) (upR (upR (upR RL 0 (RL2 0)) 1 (RL2 1)) 2 (RL2 2)) w18 := isS2_row hS11 (r := 2) (by decide) q19w q19f
  have fr16 : FrS A w w18 := fr11.tr (FrS_row (r := 2) (by decide) q19f)
  have hS16B : isS2 B sc2 RL2 w18 := isS2_fr hS11B (FrS_row (r := 2) (by decide) q19f) hdis
  refine M.run 1 (pc' := 74) (lv' := [some (vr (A 0)), some (vr (B 0))]) (st' := [vr (A 0)]) rfl ?_
  refine M.get fl_X6_33 rfl (hS16.1) (kf := 8) (v := vr (A 7)) rfl ?_
  refine M.run 1 (pc' := 78) (lv' := [some (vr (A 0)), some (vr (B 0))]) (st' := [vr (B 0), vr (A 7)]) rfl ?_
  refine M.get fl_X6_33 rfl (hS16B.1) (kf := 8) (v := vr (B 7)) rfl ?_
  refine M.callV (kX4_copyFrom9 l G (A 7) (A 8) (B 7) (B 8) 40 (by decide) ((upR (upR (upR RL 0 (RL2 0)) 1 (RL2 1)) 2 (RL2 2)) 3) (RL2 3)) cv_X6_57 cd_X4_copyFrom rfl (st := []) rfl ((hS16.2.1 3 (by decide)).1) (by decide) (by decide) rfl (Nat.zero_le _) (Nat.zero_le _) ⟨hS16.2.1 3 (by decide), hS16B.2.1 3 (by decide), hdis _ _ (by decide) (by decide), hdis _ _ (by decide) (by decide)⟩ (fun r22 w23 q24 => ?_)
  obtain ⟨q24r, q24w, q24f⟩ := q24
  rw [q24r]
  have hS21 : isS2 A (uN (uN (uN (uN (uN sc 18 (sc2 18)) 20 (sc2 20)) 19 (sc2 19)) 21 (sc2 21)) 22 (sc2 22)) (upR (upR (upR (upR RL 0 (RL2 0)) 1 (RL2 1)) 2 (RL2 2)) 3 (RL2 3)) w23 := isS2_row hS16 (r := 3) (by decide) q24w q24f
  have fr21 : FrS A w w23 := fr16.tr (FrS_row (r := 3) (by decide) q24f)
  have hS21B : isS2 B sc2 RL2 w23 := isS2_fr hS16B (FrS_row (r := 3) (by decide) q24f) hdis
  refine M.run 1 (pc' := 85) (lv' := [some (vr (A 0)), some (vr (B 0))]) (st' := [vr (A 0)]) rfl ?_
  refine M.get fl_X6_36 rfl (hS21.1) (kf := 9) (v := vr (A 9)) rfl ?_
  refine M.run 1 (pc' := 89) (lv' := [some (vr (A 0)), some (vr (B 0))]) (st' := [vr (B 0), vr (A 9)]) rfl ?_
  refine M.get fl_X6_36 rfl (hS21B.1) (kf := 9) (v := vr (B 9)) rfl ?_
  refine M.callV (kX4_copyFrom9 l G (A 9) (A 10) (B 9) (B 10) 16 (by decide) ((upR (upR (upR (upR RL 0 (RL2 0)) 1 (RL2 1)) 2 (RL2 2)) 3 (RL2 3)) 4) (RL2 4)) cv_X6_57 cd_X4_copyFrom rfl (st := []) rfl ((hS21.2.1 4 (by decide)).1) (by decide) (by decide) rfl (Nat.zero_le _) (Nat.zero_le _) ⟨hS21.2.1 4 (by decide), hS21B.2.1 4 (by decide), hdis _ _ (by decide) (by decide), hdis _ _ (by decide) (by decide)⟩ (fun r27 w28 q29 => ?_)
  obtain ⟨q29r, q29w, q29f⟩ := q29
  rw [q29r]
  have hS26 : isS2 A (uN (uN (uN (uN (uN sc 18 (sc2 18)) 20 (sc2 20)) 19 (sc2 19)) 21 (sc2 21)) 22 (sc2 22)) (upR (upR (upR (upR (upR RL 0 (RL2 0)) 1 (RL2 1)) 2 (RL2 2)) 3 (RL2 3)) 4 (RL2 4)) w28 := isS2_row hS21 (r := 4) (by decide) q29w q29f
  have fr26 : FrS A w w28 := fr21.tr (FrS_row (r := 4) (by decide) q29f)
  have hS26B : isS2 B sc2 RL2 w28 := isS2_fr hS21B (FrS_row (r := 4) (by decide) q29f) hdis
  refine M.run 1 (pc' := 96) (lv' := [some (vr (A 0)), some (vr (B 0))]) (st' := [vr (A 0)]) rfl ?_
  refine M.get fl_X6_39 rfl (hS26.1) (kf := 10) (v := vr (A 11)) rfl ?_
  refine M.run 1 (pc' := 100) (lv' := [some (vr (A 0)), some (vr (B 0))]) (st' := [vr (B 0), vr (A 11)]) rfl ?_
  refine M.get fl_X6_39 rfl (hS26B.1) (kf := 10) (v := vr (B 11)) rfl ?_
  refine M.callV (kX4_copyFrom4 l G (A 11) (A 12) (B 11) (B 12) 25 (by decide) ((upR (upR (upR (upR (upR RL 0 (RL2 0)) 1 (RL2 1)) 2 (RL2 2)) 3 (RL2 3)) 4 (RL2 4)) 5) (RL2 5)) cv_X6_57 cd_X4_copyFrom rfl (st := []) rfl ((hS26.2.1 5 (by decide)).1) (by decide) (by decide) rfl (Nat.zero_le _) (Nat.zero_le _) ⟨hS26.2.1 5 (by decide), hS26B.2.1 5 (by decide), hdis _ _ (by decide) (by decide), hdis _ _ (by decide) (by decide)⟩ (fun r32 w33 q34 => ?_)
  obtain ⟨q34r, q34w, q34f⟩ := q34
  rw [q34r]
  have hS31 : isS2 A (uN (uN (uN (uN (uN sc 18 (sc2 18)) 20 (sc2 20)) 19 (sc2 19)) 21 (sc2 21)) 22 (sc2 22)) (upR (upR (upR (upR (upR (upR RL 0 (RL2 0)) 1 (RL2 1)) 2 (RL2 2)) 3 (RL2 3)) 4 (RL2 4)) 5 (RL2 5)) w33 := isS2_row hS26 (r := 5) (by decide) q34w q34f
  have fr31 : FrS A w w33 := fr26.tr (FrS_row (r := 5) (by decide) q34f)
  have hS31B : isS2 B sc2 RL2 w33 := isS2_fr hS26B (FrS_row (r := 5) (by decide) q34f) hdis
  exact M.vret rfl (Nat.zero_le _) (Nat.zero_le _) ⟨rfl, isS2_ext hS31 (fun k k1 k2 => by
      unfold uN
      have hk : k = 18 ∨ k = 19 ∨ k = 20 ∨ k = 21 ∨ k = 22 := by omega
      rcases hk with e | e | e | e | e <;> subst e <;> rfl) (fun r hr => by
      unfold upR
      have hk : r = 0 ∨ r = 1 ∨ r = 2 ∨ r = 3 ∨ r = 4 ∨ r = 5 := by omega
      rcases hk with e | e | e | e | e | e <;> subst e <;> rfl), fr31⟩
