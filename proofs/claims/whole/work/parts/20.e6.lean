/-- a law: what it says, by its names and by what is claimed and has come -/
abbrev Gn : Type := (Nat → Int) → (Int → Int → Int) → Int
def nmS (q : Int) (nm : Nat → Int) : Nat → Int := fun k => if k < 5 then nm k else nm (5 + q.toNat)
/-- orders that leave what a law says -/
def xOk (f : Nat → Int) (c s e : Nat) (q : Int) (gg : Gn) : Prop := ∀ (nm : Nat → Int) (of : Int → Int → Int) (V T : Nat → Int) (n m : Nat), ∃ V2 T2, xrun nm of f c (e - s) s (V, n, T, m) = some (V2, n + 1, T2, m) ∧ V2 n = gg (nmS q nm) of ∧ (∀ k : Nat, k < n → V2 k = V k) ∧ ∀ k : Nat, k < m → T2 k = T k
/-- of the names just those that it has -/
def xUs (f : Nat → Int) (c s e : Nat) (q : Int) : Prop := ∀ i : Nat, s ≤ i → i < e → f (c + 2 * i) = 1 → (f (c + 2 * i + 1)).toNat < 5 ∨ (f (c + 2 * i + 1)).toNat = 5 + q.toNat
def lawR (f : Nat → Int) (t : Nat) (q : Int) (X : Option Gn) : Prop :=
  (X = none ∧ ∀ k : Nat, (k : Int) < f (681 * t) → ¬ f (681 * t + 1 + 3 * k) = q) ∨
  ∃ (gg : Gn) (k s e : Nat), X = some gg ∧ (k : Int) < f (681 * t) ∧ (∀ j : Nat, j < k → ¬ f (681 * t + 1 + 3 * j) = q) ∧ f (681 * t + 1 + 3 * k) = q ∧ f (681 * t + 1 + 3 * k + 1) = ((s : Nat) : Int) ∧ f (681 * t + 1 + 3 * k + 2) = ((e : Nat) : Int) ∧ (s ≤ e ∧ e ≤ 303) ∧ xOk f (681 * t + 73) s e q gg ∧ xUs f (681 * t + 73) s e q
def txC (f : Nat → Int) (t : Nat) : Prop := (0 ≤ f (681 * t) ∧ f (681 * t) ≤ 24) ∧ ∀ k : Nat, (k : Int) < f (681 * t) → (0 ≤ f (681 * t + 1 + 3 * k) ∧ f (681 * t + 1 + 3 * k) ≤ 5) ∧ (2 ≤ f (681 * t + 1 + 3 * k) → (0 ≤ f (681 * t + 1 + 3 * k + 1) ∧ f (681 * t + 1 + 3 * k + 1) ≤ 30) ∧ (f (681 * t + 1 + 3 * k) = 2 ∨ f (681 * t + 1 + 3 * k) = 4 → 0 ≤ f (681 * t + 1 + 3 * k + 2) ∧ f (681 * t + 1 + 3 * k + 2) ≤ 30))
def TxOk (f : Nat → Int) (X : Nat → Int → Option Gn) (n : Int) : Prop := ∀ t : Nat, (t : Int) < n → txC f t ∧ lawR f t 0 (X t 0) ∧ lawR f t 1 (X t 1)
def sayV (X : Option Gn) (z wo lo hi : Int) (nm : Nat → Int) (of : Int → Int → Int) : Int := if z < 0 then wo else match X with
  | none => wo
  | some gg => hldI (gg nm of) lo hi
theorem sayV_b {X : Option Gn} {z wo lo hi : Int} {nm : Nat → Int} {of : Int → Int → Int} (h1 : lo ≤ wo) (h2 : wo ≤ hi) : lo ≤ sayV X z wo lo hi nm of ∧ sayV X z wo lo hi nm of ≤ hi := by
  unfold sayV
  split
  · exact ⟨h1, h2⟩
  · split
    · exact ⟨h1, h2⟩
    · unfold hldI
      repeat' split
      all_goals omega
theorem sayV_n {X : Option Gn} {z wo lo hi : Int} {nm : Nat → Int} {of : Int → Int → Int} (h : z < 0 ∨ X = none) : sayV X z wo lo hi nm of = wo := by
  unfold sayV
  rcases h with h | h
  · rw [if_pos h]
  · subst h
    split <;> rfl
theorem sayV_s {X : Option Gn} {gg : Gn} {z wo lo hi : Int} {nm : Nat → Int} {of : Int → Int → Int} (h : ¬ z < 0) (h2 : X = some gg) : sayV X z wo lo hi nm of = hldI (gg nm of) lo hi := by
  unfold sayV
  rw [if_neg h]
  subst h2
  rfl
theorem lawR_hit {f : Nat → Int} {t k : Nat} {q : Int} {X : Option Gn} (h : lawR f t q X) (h1 : (k : Int) < f (681 * t)) (h2 : ∀ j : Nat, j < k → ¬ f (681 * t + 1 + 3 * j) = q) (h3 : f (681 * t + 1 + 3 * k) = q) :
    ∃ (gg : Gn) (s e : Nat), X = some gg ∧ f (681 * t + 1 + 3 * k + 1) = ((s : Nat) : Int) ∧ f (681 * t + 1 + 3 * k + 2) = ((e : Nat) : Int) ∧ (s ≤ e ∧ e ≤ 303) ∧ xOk f (681 * t + 73) s e q gg ∧ xUs f (681 * t + 73) s e q := by
  rcases h with ⟨_, h⟩ | ⟨gg, k2, s, e, e1, e2, e3, e4, e5⟩
  · exact absurd h3 (h k h1)
  · have : k2 = k := by
      rcases Nat.lt_trichotomy k2 k with z | z | z
      · exact absurd e4 (h2 k2 z)
      · exact z
      · exact absurd h3 (e3 k z)
    subst this
    exact ⟨gg, s, e, e1, e5⟩
theorem lawR_no {f : Nat → Int} {t : Nat} {k : Int} {q : Int} {X : Option Gn} (h : lawR f t q X) (h1 : f (681 * t) ≤ k) (h2 : ∀ j : Nat, (j : Int) < k → ¬ f (681 * t + 1 + 3 * j) = q) : X = none := by
  rcases h with ⟨h, _⟩ | ⟨gg, k2, s, e, e1, e2, e3, e4, e5⟩
  · exact h
  · exact absurd e4 (h2 k2 (by omega))
/-- what a law's names are -/
def enA (a : Nat → Int) (kind c x : Int) : Nat → Int := fun k => if k = 0 then a 18 else if k = 1 then a 20 else if k = 2 then kind else if k = 3 then c else if k = 4 then a 6 else x
theorem nmS_en {a : Nat → Int} {kind c x q : Int} {nm : Nat → Int} (h0 : nm 0 = a 18) (h1 : nm 1 = a 20) (h2 : nm 2 = kind) (h3 : nm 3 = c) (h4 : nm 4 = a 6) (h5 : nm (5 + q.toNat) = x) : nmS q nm = enA a kind c x := by
  funext k
  unfold nmS enA
  match k with
  | 0 => exact h0
  | 1 => exact h1
  | 2 => exact h2
  | 3 => exact h3
  | 4 => exact h4
  | k + 5 => rw [if_neg (by omega), if_neg (by omega), if_neg (by omega), if_neg (by omega), if_neg (by omega), if_neg (by omega)]; exact h5
def mLossA (X : Nat → Int → Option Gn) (a : Nat → Int) (z kind c x : Int) : Int := sayV (X z.toNat 0) z 2 0 10 (enA a kind c x) (ofA a)
def mWaitA (X : Nat → Int → Option Gn) (a : Nat → Int) (kind c x : Int) : Int := sayV (X (a 2).toNat 1) (a 2) (2 * a 6 + 2) 1 60 (enA a kind c x) (ofA a)
/-- the row as what is told and a state tell it -/
def stA (a0 : Nat → Int) (D : Dy) : Nat → Int := fun k => if k < 18 then a0 k else D.1 k
def laS (k : Nat) : Prop := k = 0 ∨ k = 2 ∨ k = 6 ∨ k = 18 ∨ k = 20 ∨ (34 ≤ k ∧ k < 40)
theorem ofA_ext {a b : Nat → Int} (hk : a 0 ≤ 3) (h : ∀ k : Nat, laS k → a k = b k) : ofA a = ofA b := by
  funext o v
  unfold ofA
  rw [← h 0 (Or.inl rfl)]
  by_cases e : v < 0 ∨ a 0 ≤ v
  · rw [if_pos e, if_pos e]
  · rw [if_neg e, if_neg e, h _ (by unfold laS; split <;> omega)]
theorem enA_ext {a b : Nat → Int} (h : ∀ k : Nat, laS k → a k = b k) (kind c x : Int) : enA a kind c x = enA b kind c x := by
  funext k
  unfold enA
  rw [h 18 (by unfold laS; omega), h 20 (by unfold laS; omega), h 6 (by unfold laS; omega)]
theorem mLossA_ext {X : Nat → Int → Option Gn} {a b : Nat → Int} (hk : a 0 ≤ 3) (h : ∀ k : Nat, laS k → a k = b k) (z kind c x : Int) : mLossA X a z kind c x = mLossA X b z kind c x := by
  unfold mLossA
  rw [ofA_ext hk h, enA_ext h]
theorem mWaitA_ext {X : Nat → Int → Option Gn} {a b : Nat → Int} (hk : a 0 ≤ 3) (h : ∀ k : Nat, laS k → a k = b k) (kind c x : Int) : mWaitA X a kind c x = mWaitA X b kind c x := by
  unfold mWaitA
  rw [ofA_ext hk h, enA_ext h, h 2 (by unfold laS; omega), h 6 (by unfold laS; omega)]
theorem stA_of {a a0 : Nat → Int} {D : Dy} (hR : Rp a D) (hF : Fr a0 a) : ∀ k : Nat, laS k → a k = stA a0 D k := fun k hk => by
  unfold stA
  unfold laS at hk
  by_cases e : k < 18
  · rw [if_pos e]; exact hF k (Or.inl e)
  · rw [if_neg e]; exact Rp_s hR (by omega) (by omega) (by omega)
theorem Mok_ext {a b : Nat → Int} (h : ∀ k : Nat, k < 49 → b k = a k) (hk : Mok a) : Mok b := fun k q => by rw [h k q]; exact hk k q
theorem Ctr.exE {α : Type} {l : Launch} {G : GT} {y : MethodName} {cc : ByteArray} {maxL : Nat} {ret : Option FieldType} {d mc ms : Nat} {av : List AV} {P : α → Wo → Prop} {C : α → Prop} {Q : α → Wo → Option AV → Wo → Prop} {Q2 : Wo → Option AV → Wo → Prop}
    (h : ∀ x, C x → Ctr l G y cc maxL ret d mc ms av (P x) (Q x)) (hQ : ∀ x w r w', C x → Q x w r w' → Q2 w r w') : Ctr l G y cc maxL ret d mc ms av (fun w => ∃ x, C x ∧ P x w) Q2 := by
  intro w sz hp
  obtain ⟨x, hc, hp⟩ := hp
  exact Ctr.mono (h x hc) (P2 := fun w2 => P x w2) (fun _ q => q) (fun w1 r w2 q1 q2 => hQ x w1 r w2 hc q2) w sz hp

theorem nm_b {a : Nat → Int} {kind c x q : Int} {nm : Nat → Int} (h0 : nm 0 = a 18) (h1 : nm 1 = a 20) (h2 : nm 2 = kind) (h3 : nm 3 = c) (h4 : nm 4 = a 6) (h5 : nm (5 + q.toNat) = x) (b0 : bd6 (a 18)) (b1 : bd6 (a 20)) (b2 : bd6 kind) (b3 : bd6 c) (b4 : bd6 (a 6)) (b5 : bd6 x) : ∀ k : Nat, (k < 5 ∨ k = 5 + q.toNat) → bd6 (nm k) := fun k hk => by
  rcases hk with hk | rfl
  · match k, hk with
    | 0, _ => rw [h0]; exact b0
    | 1, _ => rw [h1]; exact b1
    | 2, _ => rw [h2]; exact b2
    | 3, _ => rw [h3]; exact b3
    | 4, _ => rw [h4]; exact b4
  · rw [h5]; exact b5

set_option maxHeartbeats 4000000 in
set_option maxRecDepth 100000 in
theorem kX11_says (l : Launch) (G : GT) (o : Nat) (am : Nat → Nat) (u a : Nat → Int) (b : Nat → Nat → Int) (z q wo lo hi : Int) (hz : z < 4 ∧ -1000 ≤ z) (hq : 0 ≤ q ∧ q ≤ 1) (hwl : (-1000 ≤ wo ∧ wo ≤ 1000) ∧ (-1000 ≤ lo ∧ lo ≤ 1000)) (hhi : -1000 ≤ hi ∧ hi ≤ 1000) (f nm : Nat → Int) (hb2 : b 2 = f) (hb20 : b 20 = nm) (hnm : ∀ k : Nat, (k < 5 ∨ k = 5 + q.toNat) → bd6 (nm k)) (Xv : Option Gn) (hX : 0 ≤ z → txC f z.toNat ∧ lawR f z.toNat q Xv) (hk : Mok a) : Ctr l G yX11_says cX11_says 7 ((Option.some Jvm.ClassFile.FieldType.int)) 4 0 0 [vr o, vi z, vi q, vi wo, vi lo, vi hi] (fun w => isM o am u a b w) (fun w r w' => r = some (vi (sayV Xv z wo lo hi (nmS q nm) (ofA a))) ∧ ∃ b', isM o am u a b' w' ∧ ∀ k : Nat, k ≠ 21 → k ≠ 22 → b' k = b k) := by
  refine Ctr.of (t := tX11_says) (lv0 := [some (vr o), some (vi z), some (vi q), some (vi wo), some (vi lo), some (vi hi), none]) (by decide +kernel) tX11_says_ok rfl rfl (fun w g hP M => ?_)
  have hM := hP
  have hk0 : 0 ≤ a 0 ∧ a 0 ≤ 3 := hk 0 (by decide)
  refine M.run 2 (pc' := 3) (lv' := [some (vr o), some (vi z), some (vi q), some (vi wo), some (vi lo), some (vi hi), some (vi 0)]) (st' := []) rfl ?_
  have Lp3 : ∀ (N : Nat) (k : Nat), (0 ≤ z → ∀ j : Nat, j < k → ¬ f (681 * z.toNat + 1 + 3 * j) = q) → (0 ≤ z → (k : Int) ≤ f (681 * z.toNat)) → (k ≤ 24) → 25 - k < N → g 0 0 w 3 [some (vr o), some (vi z), some (vi q), some (vi wo), some (vi lo), some (vi hi), some (vi ((k : Nat) : Int))] [] := by
    intro N
    induction N with
    | zero => intro k _ _ _ hN; exact absurd hN (Nat.not_lt_zero _)
    | succ N ih3 =>
      intro k hpre hk1 hk2 hN
      refine M.run 1 (pc' := 4) (lv' := [some (vr o), some (vi z), some (vi q), some (vi wo), some (vi lo), some (vi hi), some (vi ((k : Nat) : Int))]) (st' := [vi z]) rfl ?_
      refine M.if_lt (tgt := 64) rfl (qI (by omega)) (by decide) (fun h4 => ?_) (fun h4 => ?_)
      · skip
        refine M.run 1 (pc' := 65) (lv' := [some (vr o), some (vi z), some (vi q), some (vi wo), some (vi lo), some (vi hi), some (vi ((k : Nat) : Int))]) (st' := [vi wo]) rfl ?_
        exact M.iret rfl (Nat.zero_le _) (Nat.zero_le _) (by
            first
            | exact ⟨reI (sayV_n (Or.inl h4)).symm, b, hM, fun _ _ _ => rfl⟩
            | exact ⟨reI (sayV_n (Or.inr (lawR_no hlaw (k := k) (by omega) (fun j hj => hpre2 j (by omega))))).symm, b, hM, fun _ _ _ => rfl⟩)
      · skip
        obtain ⟨t, rfl⟩ := Int.eq_ofNat_of_zero_le (show (0 : Int) ≤ z from (by omega))
        have hcnt : 0 ≤ f (681 * t) ∧ f (681 * t) ≤ 24 := (hX (by omega)).1.1
        have hcs : ∀ k : Nat, (k : Int) < f (681 * t) → 0 ≤ f (681 * t + 1 + 3 * k) ∧ f (681 * t + 1 + 3 * k) ≤ 5 := fun k hk => ((hX (by omega)).1.2 k hk).1
        have hlaw : lawR f t q Xv := (hX (by omega)).2
        have hpre2 : ∀ j : Nat, j < k → ¬ f (681 * t + 1 + 3 * j) = q := hpre (by omega)
        have hk3 : (k : Int) ≤ f (681 * t) := hk1 (by omega)
        refine M.run 2 (pc' := 10) (lv' := [some (vr o), some (vi ((t : Nat) : Int)), some (vi q), some (vi wo), some (vi lo), some (vi hi), some (vi ((k : Nat) : Int))]) (st' := [vr o, vi ((k : Nat) : Int)]) rfl ?_
        refine M.get fl_X11_16 rfl (isM_o hM) (kf := 2) (v := vr (am 2)) rfl ?_
        refine M.run 3 (pc' := 18) (lv' := [some (vr o), some (vi ((t : Nat) : Int)), some (vi q), some (vi wo), some (vi lo), some (vi hi), some (vi ((k : Nat) : Int))]) (st' := [vi (681 * ((t : Nat) : Int)), vr (am 2), vi ((k : Nat) : Int)]) rfl ?_
        refine M.ialdN (681 * t) rfl ((isM_2 hM).trans (congrArg (fun z => some (Ar 0 2724 z)) hb2)) (by omega) (by decide) ?_
        refine M.icmp_ge (tgt := 64) rfl (qI (by omega)) (qI (by omega)) (by decide) (fun h19 => ?_) (fun h19 => ?_)
        · skip
          refine M.run 1 (pc' := 65) (lv' := [some (vr o), some (vi ((t : Nat) : Int)), some (vi q), some (vi wo), some (vi lo), some (vi hi), some (vi ((k : Nat) : Int))]) (st' := [vi wo]) rfl ?_
          exact M.iret rfl (Nat.zero_le _) (Nat.zero_le _) (by
              first
              | exact ⟨reI (sayV_n (Or.inl h4)).symm, b, hM, fun _ _ _ => rfl⟩
              | exact ⟨reI (sayV_n (Or.inr (lawR_no hlaw (k := k) (by omega) (fun j hj => hpre2 j (by omega))))).symm, b, hM, fun _ _ _ => rfl⟩)
        · skip
          have hso := hcs k (by omega)
          refine M.run 1 (pc' := 23) (lv' := [some (vr o), some (vi ((t : Nat) : Int)), some (vi q), some (vi wo), some (vi lo), some (vi hi), some (vi ((k : Nat) : Int))]) (st' := [vr o]) rfl ?_
          refine M.get fl_X11_16 rfl (isM_o hM) (kf := 2) (v := vr (am 2)) rfl ?_
          refine M.run 9 (pc' := 38) (lv' := [some (vr o), some (vi ((t : Nat) : Int)), some (vi q), some (vi wo), some (vi lo), some (vi hi), some (vi ((k : Nat) : Int))]) (st' := [vi (((681 * ((t : Nat) : Int)) + 1) + (3 * ((k : Nat) : Int))), vr (am 2)]) rfl ?_
          refine M.ialdN (681 * t + 1 + (3 * k)) rfl ((isM_2 hM).trans (congrArg (fun z => some (Ar 0 2724 z)) hb2)) (by omega) (by decide) ?_
          refine M.run 1 (pc' := 40) (lv' := [some (vr o), some (vi ((t : Nat) : Int)), some (vi q), some (vi wo), some (vi lo), some (vi hi), some (vi ((k : Nat) : Int))]) (st' := [vi q, vi (f (681 * t + 1 + (3 * k)))]) rfl ?_
          refine M.icmp_ne (tgt := 58) rfl (qI (by omega)) (qI (by omega)) (by decide) (fun h40 => ?_) (fun h40 => ?_)
          · skip
            refine M.run 2 (pc' := 3) (lv' := [some (vr o), some (vi ((t : Nat) : Int)), some (vi q), some (vi wo), some (vi lo), some (vi hi), some (vi (((k : Nat) : Int) + 1))]) (st' := []) rfl ?_
            exact ih3 (k + 1) (fun _ j hj => by rcases Nat.lt_or_ge j k with z | z; exact hpre2 j z; rw [show j = k from (by omega)]; exact h40) (fun q0 => by show ((k + 1 : Nat) : Int) ≤ f (681 * t); omega) (by omega) (by omega)
          · skip
            obtain ⟨gg, s, e, hXg, hs, he, hse, hxo, hxu⟩ := lawR_hit hlaw (by omega) hpre2 (by omega)
            obtain ⟨V2, T2, hrn, hv, -⟩ := hxo nm (ofA a) (b 21) (b 22) 0 0
            refine M.run 3 (pc' := 47) (lv' := [some (vr o), some (vi ((t : Nat) : Int)), some (vi q), some (vi wo), some (vi lo), some (vi hi), some (vi ((k : Nat) : Int))]) (st' := [vi ((k : Nat) : Int), vi ((t : Nat) : Int), vr o]) rfl ?_
            refine M.callV (kX11_summedUp l G o am u a b t k (by omega) (by omega) f nm hb2 hb20 s e hs he hse (fun i i1 i2 i3 => hnm _ (hxu i i1 i2 i3)) _ hrn (Nat.zero_lt_succ _) hk) cv_X11_269 cd_X11_summedUp rfl (st := []) rfl (isM_o hM) (by decide) (by decide) rfl (Nat.zero_le _) (Nat.zero_le _) hM (fun r1 w2 q3 => ?_)
            have hr2 : r1 = some (vl (V2 0)) := q3.1
            have hbd : bd6 (V2 0) := q3.2.1
            obtain ⟨-, -, bb, hM2, hbb⟩ := q3
            rw [hr2]
            refine M.run 2 (pc' := 54) (lv' := [some (vr o), some (vi ((t : Nat) : Int)), some (vi q), some (vi wo), some (vi lo), some (vi hi), some (vi ((k : Nat) : Int))]) (st' := [vi hi, vi lo, vl (V2 0)]) rfl ?_
            refine M.callS (kX11_held l G (V2 0) lo hi (by assumption) (by omega) (by omega)) cs_X11_272 cd_X11_held rfl (st := []) rfl (by decide) (by decide) rfl (Nat.zero_le _) (Nat.zero_le _) trivial (fun r5 w6 q7 => ?_)
            rw [q7.1, q7.2]
            exact M.iret rfl (Nat.zero_le _) (Nat.zero_le _) ⟨reI (by rw [sayV_s (by omega) hXg, hv]), bb, hM2, hbb⟩
  exact Lp3 _ 0 (fun _ j hj => absurd hj (Nat.not_lt_zero _)) (fun q0 => (hX q0).1.1.1) (by omega) (Nat.lt_succ_self _)
set_option maxHeartbeats 4000000 in
set_option maxRecDepth 100000 in
theorem kX11_name (l : Launch) (G : GT) (o : Nat) (am : Nat → Nat) (u a : Nat → Int) (b : Nat → Nat → Int) (kind c : Int) : Ctr l G yX11_name cX11_name 3 ((Option.none : Option Jvm.ClassFile.FieldType)) 1 0 0 [vr o, vi kind, vi c] (fun w => isM o am u a b w) (fun w r w' => r = none ∧ isM o am u a (uB b 20 (uN (uN (uN (uN (uN (b 20) 0 (a 18)) 1 (a 20)) 2 kind) 3 c) 4 (a 6))) w') := by
  refine Ctr.of (t := tX11_name) (lv0 := [some (vr o), some (vi kind), some (vi c)]) (by decide +kernel) tX11_name_ok rfl rfl (fun w g hP M => ?_)
  have hM := hP
  refine M.run 1 (pc' := 1) (lv' := [some (vr o), some (vi kind), some (vi c)]) (st' := [vr o]) rfl ?_
  refine M.get fl_X11_32 rfl (isM_o hM) (kf := 20) (v := vr (am 20)) rfl ?_
  refine M.run 2 (pc' := 6) (lv' := [some (vr o), some (vi kind), some (vi c)]) (st' := [vr o, vi 0, vr (am 20)]) rfl ?_
  refine M.get fl_X11_7 rfl (isM_o hM) (kf := 0) (v := vr (am 0)) rfl ?_
  refine M.run 1 (pc' := 11) (lv' := [some (vr o), some (vi kind), some (vi c)]) (st' := [vi 18, vr (am 0), vi 0, vr (am 20)]) rfl ?_
  refine M.ialdN (18) rfl (isM_a hM) (by decide) (by decide) ?_
  refine M.iastN (0) rfl (isM_20 hM) (by decide) (by decide) ?_
  have hM2 := isM_setB (k := 20) (t := 0) (n := 7) hM (by decide) (uN (b 20) 0 (a 18))
  generalize up w (am 20) (Ar 0 7 (uN (b 20) 0 (a 18))) = w1 at hM2 ⊢
  refine M.run 1 (pc' := 14) (lv' := [some (vr o), some (vi kind), some (vi c)]) (st' := [vr o]) rfl ?_
  refine M.get fl_X11_32 rfl (isM_o hM2) (kf := 20) (v := vr (am 20)) rfl ?_
  refine M.run 2 (pc' := 19) (lv' := [some (vr o), some (vi kind), some (vi c)]) (st' := [vr o, vi 1, vr (am 20)]) rfl ?_
  refine M.get fl_X11_7 rfl (isM_o hM2) (kf := 0) (v := vr (am 0)) rfl ?_
  refine M.run 1 (pc' := 24) (lv' := [some (vr o), some (vi kind), some (vi c)]) (st' := [vi 20, vr (am 0), vi 1, vr (am 20)]) rfl ?_
  refine M.ialdN (20) rfl (isM_a hM2) (by decide) (by decide) ?_
  refine M.iastN (1) rfl (show lk w1 (am 20) = some (Ar 0 7 (uN (b 20) 0 (a 18))) from isM_20 hM2) (by decide) (by decide) ?_
  have hM4 := isM_setB (k := 20) (t := 0) (n := 7) hM2 (by decide) (uN (uN (b 20) 0 (a 18)) 1 (a 20))
  generalize up w1 (am 20) (Ar 0 7 (uN (uN (b 20) 0 (a 18)) 1 (a 20))) = w3 at hM4 ⊢
  refine M.run 1 (pc' := 27) (lv' := [some (vr o), some (vi kind), some (vi c)]) (st' := [vr o]) rfl ?_
  refine M.get fl_X11_32 rfl (isM_o hM4) (kf := 20) (v := vr (am 20)) rfl ?_
  refine M.run 2 (pc' := 32) (lv' := [some (vr o), some (vi kind), some (vi c)]) (st' := [vi kind, vi 2, vr (am 20)]) rfl ?_
  refine M.iastN (2) rfl (show lk w3 (am 20) = some (Ar 0 7 (uN (uN (b 20) 0 (a 18)) 1 (a 20))) from isM_20 hM4) (by decide) (by decide) ?_
  have hM6 := isM_setB (k := 20) (t := 0) (n := 7) hM4 (by decide) (uN (uN (uN (b 20) 0 (a 18)) 1 (a 20)) 2 kind)
  generalize up w3 (am 20) (Ar 0 7 (uN (uN (uN (b 20) 0 (a 18)) 1 (a 20)) 2 kind)) = w5 at hM6 ⊢
  refine M.run 1 (pc' := 34) (lv' := [some (vr o), some (vi kind), some (vi c)]) (st' := [vr o]) rfl ?_
  refine M.get fl_X11_32 rfl (isM_o hM6) (kf := 20) (v := vr (am 20)) rfl ?_
  refine M.run 2 (pc' := 39) (lv' := [some (vr o), some (vi kind), some (vi c)]) (st' := [vi c, vi 3, vr (am 20)]) rfl ?_
  refine M.iastN (3) rfl (show lk w5 (am 20) = some (Ar 0 7 (uN (uN (uN (b 20) 0 (a 18)) 1 (a 20)) 2 kind)) from isM_20 hM6) (by decide) (by decide) ?_
  have hM8 := isM_setB (k := 20) (t := 0) (n := 7) hM6 (by decide) (uN (uN (uN (uN (b 20) 0 (a 18)) 1 (a 20)) 2 kind) 3 c)
  generalize up w5 (am 20) (Ar 0 7 (uN (uN (uN (uN (b 20) 0 (a 18)) 1 (a 20)) 2 kind) 3 c)) = w7 at hM8 ⊢
  refine M.run 1 (pc' := 41) (lv' := [some (vr o), some (vi kind), some (vi c)]) (st' := [vr o]) rfl ?_
  refine M.get fl_X11_32 rfl (isM_o hM8) (kf := 20) (v := vr (am 20)) rfl ?_
  refine M.run 2 (pc' := 46) (lv' := [some (vr o), some (vi kind), some (vi c)]) (st' := [vr o, vi 4, vr (am 20)]) rfl ?_
  refine M.get fl_X11_7 rfl (isM_o hM8) (kf := 0) (v := vr (am 0)) rfl ?_
  refine M.run 1 (pc' := 51) (lv' := [some (vr o), some (vi kind), some (vi c)]) (st' := [vi 6, vr (am 0), vi 4, vr (am 20)]) rfl ?_
  refine M.ialdN (6) rfl (isM_a hM8) (by decide) (by decide) ?_
  refine M.iastN (4) rfl (show lk w7 (am 20) = some (Ar 0 7 (uN (uN (uN (uN (b 20) 0 (a 18)) 1 (a 20)) 2 kind) 3 c)) from isM_20 hM8) (by decide) (by decide) ?_
  have hM10 := isM_setB (k := 20) (t := 0) (n := 7) hM8 (by decide) (uN (uN (uN (uN (uN (b 20) 0 (a 18)) 1 (a 20)) 2 kind) 3 c) 4 (a 6))
  generalize up w7 (am 20) (Ar 0 7 (uN (uN (uN (uN (uN (b 20) 0 (a 18)) 1 (a 20)) 2 kind) 3 c) 4 (a 6))) = w9 at hM10 ⊢
  exact M.vret rfl (Nat.zero_le _) (Nat.zero_le _) ⟨rfl, by
      have eb : ∀ f5 f4 f3 f2 f1 : Nat → Int, uB (uB (uB (uB (uB b 20 f1) 20 f2) 20 f3) 20 f4) 20 f5 = uB b 20 f5 := fun f5 f4 f3 f2 f1 => by
        funext k; unfold uB; split <;> rfl
      rw [← eb]
      exact hM10⟩
set_option maxHeartbeats 4000000 in
set_option maxRecDepth 100000 in
theorem kX11_losesBy (l : Launch) (G : GT) (o : Nat) (am : Nat → Nat) (u a : Nat → Int) (b : Nat → Nat → Int) (z kind c x : Int) (hz : z < a 1 ∧ -1 ≤ z) (hkc : (0 ≤ kind ∧ kind ≤ 4) ∧ (0 ≤ c ∧ c ≤ 2)) (hx : -1000 ≤ x ∧ x ≤ 1000) (X : Nat → Int → Option Gn) (hX : TxOk (b 2) X (a 1)) (hk : Mok a) : Ctr l G yX11_losesBy cX11_losesBy 5 ((Option.some Jvm.ClassFile.FieldType.int)) 5 0 0 [vr o, vi z, vi kind, vi c, vi x] (fun w => isM o am u a b w) (fun w r w' => r = some (vi (mLossA X a z kind c x)) ∧ ∃ b', isM o am u a b' w' ∧ Fb b b') := by
  refine Ctr.of (t := tX11_losesBy) (lv0 := [some (vr o), some (vi z), some (vi kind), some (vi c), some (vi x)]) (by decide +kernel) tX11_losesBy_ok rfl rfl (fun w g hP M => ?_)
  have hM := hP
  have hk0 : 0 ≤ a 0 ∧ a 0 ≤ 3 := hk 0 (by decide)
  have hk1 : 0 ≤ a 1 ∧ a 1 ≤ 4 := hk 1 (by decide)
  have hk6 : 1 ≤ a 6 ∧ a 6 ≤ 20 := hk 6 (by decide)
  have hk18 : 0 ≤ a 18 ∧ a 18 ≤ 10400 := hk 18 (by decide)
  have hk20 : 0 ≤ a 20 ∧ a 20 ≤ 10400 := hk 20 (by decide)
  have hX2 : 0 ≤ z → txC (b 2) z.toNat ∧ lawR (b 2) z.toNat 0 (X z.toNat 0) := fun h => ⟨(hX z.toNat (by omega)).1, (hX z.toNat (by omega)).2.1⟩
  refine M.run 3 (pc' := 3) (lv' := [some (vr o), some (vi z), some (vi kind), some (vi c), some (vi x)]) (st' := [vi c, vi kind, vr o]) rfl ?_
  refine M.callV (kX11_name l G o am u a b  kind c) cv_X11_276 cd_X11_name rfl (st := []) rfl (isM_o hM) (by decide) (by decide) rfl (Nat.zero_le _) (Nat.zero_le _) hM (fun r2 w3 q4 => ?_)
  obtain ⟨q4r, hM1⟩ := q4
  rw [q4r]
  refine M.run 1 (pc' := 7) (lv' := [some (vr o), some (vi z), some (vi kind), some (vi c), some (vi x)]) (st' := [vr o]) rfl ?_
  refine M.get fl_X11_32 rfl (isM_o hM1) (kf := 20) (v := vr (am 20)) rfl ?_
  refine M.run 2 (pc' := 13) (lv' := [some (vr o), some (vi z), some (vi kind), some (vi c), some (vi x)]) (st' := [vi x, vi 5, vr (am 20)]) rfl ?_
  refine M.iastN (5) rfl (isM_20 hM1) (by decide) (by decide) ?_
  have hM7 := isM_setB (k := 20) (t := 0) (n := 7) hM1 (by decide) (uN ((uB b 20 (uN (uN (uN (uN (uN (b 20) 0 (a 18)) 1 (a 20)) 2 kind) 3 c) 4 (a 6))) 20) 5 x)
  generalize up w3 (am 20) (Ar 0 7 (uN ((uB b 20 (uN (uN (uN (uN (uN (b 20) 0 (a 18)) 1 (a 20)) 2 kind) 3 c) 4 (a 6))) 20) 5 x)) = w6 at hM7 ⊢
  refine M.run 6 (pc' := 21) (lv' := [some (vr o), some (vi z), some (vi kind), some (vi c), some (vi x)]) (st' := [vi 10, vi 0, vi 2, vi 0, vi z, vr o]) rfl ?_
  have hnmx : ∀ k : Nat, (k < 5 ∨ k = 5 + (0 : Int).toNat) → bd6 ((uB (uB b 20 (uN (uN (uN (uN (uN (b 20) 0 (a 18)) 1 (a 20)) 2 kind) 3 c) 4 (a 6))) 20 (uN ((uB b 20 (uN (uN (uN (uN (uN (b 20) 0 (a 18)) 1 (a 20)) 2 kind) 3 c) 4 (a 6))) 20) 5 x)) 20 k) := nm_b (q := 0) (a := a) (kind := kind) (c := c) (x := x) rfl rfl rfl rfl rfl rfl ⟨by omega, by omega⟩ ⟨by omega, by omega⟩ ⟨by omega, by omega⟩ ⟨by omega, by omega⟩ ⟨by omega, by omega⟩ ⟨by omega, by omega⟩
  refine M.callV (kX11_says l G o am u a (uB (uB b 20 (uN (uN (uN (uN (uN (b 20) 0 (a 18)) 1 (a 20)) 2 kind) 3 c) 4 (a 6))) 20 (uN ((uB b 20 (uN (uN (uN (uN (uN (b 20) 0 (a 18)) 1 (a 20)) 2 kind) 3 c) 4 (a 6))) 20) 5 x)) z 0 2 0 10 (by omega) (by omega) (by omega) (by omega) ((uB (uB b 20 (uN (uN (uN (uN (uN (b 20) 0 (a 18)) 1 (a 20)) 2 kind) 3 c) 4 (a 6))) 20 (uN ((uB b 20 (uN (uN (uN (uN (uN (b 20) 0 (a 18)) 1 (a 20)) 2 kind) 3 c) 4 (a 6))) 20) 5 x)) 2) ((uB (uB b 20 (uN (uN (uN (uN (uN (b 20) 0 (a 18)) 1 (a 20)) 2 kind) 3 c) 4 (a 6))) 20 (uN ((uB b 20 (uN (uN (uN (uN (uN (b 20) 0 (a 18)) 1 (a 20)) 2 kind) 3 c) 4 (a 6))) 20) 5 x)) 20) rfl rfl hnmx (X z.toNat 0) (fun hz => hX2 hz) hk) cv_X11_279 cd_X11_says rfl (st := []) rfl (isM_o hM7) (by decide) (by decide) rfl (Nat.zero_le _) (Nat.zero_le _) hM7 (fun r8 w9 q10 => ?_)
  obtain ⟨sv, hsv⟩ : ∃ sv, r8 = some (vi sv) ∧ sv = sayV (X z.toNat 0) z 2 0 10 (nmS 0 ((uB (uB b 20 (uN (uN (uN (uN (uN (b 20) 0 (a 18)) 1 (a 20)) 2 kind) 3 c) 4 (a 6))) 20 (uN ((uB b 20 (uN (uN (uN (uN (uN (b 20) 0 (a 18)) 1 (a 20)) 2 kind) 3 c) 4 (a 6))) 20) 5 x)) 20)) (ofA a) := ⟨_, q10.1, rfl⟩
  obtain ⟨-, bb, hM2, hbb⟩ := q10
  rw [hsv.1]
  exact M.iret rfl (Nat.zero_le _) (Nat.zero_le _) ⟨reI (by rw [hsv.2]; unfold mLossA; rw [nmS_en (a := a) (kind := kind) (c := c) (x := x) rfl rfl rfl rfl rfl rfl]), bb, hM2, fun k k1 k2 k3 => (hbb k k2 k3).trans ((if_neg k1).trans (if_neg k1))⟩
set_option maxHeartbeats 4000000 in
set_option maxRecDepth 100000 in
theorem kX11_waitsBy (l : Launch) (G : GT) (o : Nat) (am : Nat → Nat) (u a : Nat → Int) (b : Nat → Nat → Int) (kind c x : Int) (hz : a 2 < a 1) (hkc : (0 ≤ kind ∧ kind ≤ 4) ∧ (0 ≤ c ∧ c ≤ 2)) (hx : -1000 ≤ x ∧ x ≤ 1000) (X : Nat → Int → Option Gn) (hX : TxOk (b 2) X (a 1)) (hk : Mok a) : Ctr l G yX11_waitsBy cX11_waitsBy 4 ((Option.some Jvm.ClassFile.FieldType.int)) 5 0 0 [vr o, vi kind, vi c, vi x] (fun w => isM o am u a b w) (fun w r w' => r = some (vi (mWaitA X a kind c x)) ∧ ∃ b', isM o am u a b' w' ∧ Fb b b') := by
  refine Ctr.of (t := tX11_waitsBy) (lv0 := [some (vr o), some (vi kind), some (vi c), some (vi x)]) (by decide +kernel) tX11_waitsBy_ok rfl rfl (fun w g hP M => ?_)
  have hM := hP
  have hk0 : 0 ≤ a 0 ∧ a 0 ≤ 3 := hk 0 (by decide)
  have hk1 : 0 ≤ a 1 ∧ a 1 ≤ 4 := hk 1 (by decide)
  have hk2 : -1 ≤ a 2 ∧ a 2 ≤ 3 := hk 2 (by decide)
  have hk6 : 1 ≤ a 6 ∧ a 6 ≤ 20 := hk 6 (by decide)
  have hk18 : 0 ≤ a 18 ∧ a 18 ≤ 10400 := hk 18 (by decide)
  have hk20 : 0 ≤ a 20 ∧ a 20 ≤ 10400 := hk 20 (by decide)
  have hX2 : 0 ≤ a 2 → txC (b 2) (a 2).toNat ∧ lawR (b 2) (a 2).toNat 1 (X (a 2).toNat 1) := fun h => ⟨(hX (a 2).toNat (by omega)).1, (hX (a 2).toNat (by omega)).2.2⟩
  refine M.run 3 (pc' := 3) (lv' := [some (vr o), some (vi kind), some (vi c), some (vi x)]) (st' := [vi c, vi kind, vr o]) rfl ?_
  refine M.callV (kX11_name l G o am u a b  kind c) cv_X11_276 cd_X11_name rfl (st := []) rfl (isM_o hM) (by decide) (by decide) rfl (Nat.zero_le _) (Nat.zero_le _) hM (fun r2 w3 q4 => ?_)
  obtain ⟨q4r, hM1⟩ := q4
  rw [q4r]
  refine M.run 1 (pc' := 7) (lv' := [some (vr o), some (vi kind), some (vi c), some (vi x)]) (st' := [vr o]) rfl ?_
  refine M.get fl_X11_32 rfl (isM_o hM1) (kf := 20) (v := vr (am 20)) rfl ?_
  refine M.run 2 (pc' := 13) (lv' := [some (vr o), some (vi kind), some (vi c), some (vi x)]) (st' := [vi x, vi 6, vr (am 20)]) rfl ?_
  refine M.iastN (6) rfl (isM_20 hM1) (by decide) (by decide) ?_
  have hM7 := isM_setB (k := 20) (t := 0) (n := 7) hM1 (by decide) (uN ((uB b 20 (uN (uN (uN (uN (uN (b 20) 0 (a 18)) 1 (a 20)) 2 kind) 3 c) 4 (a 6))) 20) 6 x)
  generalize up w3 (am 20) (Ar 0 7 (uN ((uB b 20 (uN (uN (uN (uN (uN (b 20) 0 (a 18)) 1 (a 20)) 2 kind) 3 c) 4 (a 6))) 20) 6 x)) = w6 at hM7 ⊢
  refine M.run 2 (pc' := 16) (lv' := [some (vr o), some (vi kind), some (vi c), some (vi x)]) (st' := [vr o, vr o]) rfl ?_
  refine M.get fl_X11_7 rfl (isM_o hM7) (kf := 0) (v := vr (am 0)) rfl ?_
  refine M.run 1 (pc' := 20) (lv' := [some (vr o), some (vi kind), some (vi c), some (vi x)]) (st' := [vi 2, vr (am 0), vr o]) rfl ?_
  refine M.ialdN (2) rfl (isM_a hM7) (by decide) (by decide) ?_
  refine M.run 3 (pc' := 24) (lv' := [some (vr o), some (vi kind), some (vi c), some (vi x)]) (st' := [vr o, vi 2, vi 1, vi (a 2), vr o]) rfl ?_
  refine M.get fl_X11_7 rfl (isM_o hM7) (kf := 0) (v := vr (am 0)) rfl ?_
  refine M.run 1 (pc' := 29) (lv' := [some (vr o), some (vi kind), some (vi c), some (vi x)]) (st' := [vi 6, vr (am 0), vi 2, vi 1, vi (a 2), vr o]) rfl ?_
  refine M.ialdN (6) rfl (isM_a hM7) (by decide) (by decide) ?_
  refine M.run 5 (pc' := 36) (lv' := [some (vr o), some (vi kind), some (vi c), some (vi x)]) (st' := [vi 60, vi 1, vi ((2 * (a 6)) + 2), vi 1, vi (a 2), vr o]) rfl ?_
  have hnmx : ∀ k : Nat, (k < 5 ∨ k = 5 + (1 : Int).toNat) → bd6 ((uB (uB b 20 (uN (uN (uN (uN (uN (b 20) 0 (a 18)) 1 (a 20)) 2 kind) 3 c) 4 (a 6))) 20 (uN ((uB b 20 (uN (uN (uN (uN (uN (b 20) 0 (a 18)) 1 (a 20)) 2 kind) 3 c) 4 (a 6))) 20) 6 x)) 20 k) := nm_b (q := 1) (a := a) (kind := kind) (c := c) (x := x) rfl rfl rfl rfl rfl rfl ⟨by omega, by omega⟩ ⟨by omega, by omega⟩ ⟨by omega, by omega⟩ ⟨by omega, by omega⟩ ⟨by omega, by omega⟩ ⟨by omega, by omega⟩
  refine M.callV (kX11_says l G o am u a (uB (uB b 20 (uN (uN (uN (uN (uN (b 20) 0 (a 18)) 1 (a 20)) 2 kind) 3 c) 4 (a 6))) 20 (uN ((uB b 20 (uN (uN (uN (uN (uN (b 20) 0 (a 18)) 1 (a 20)) 2 kind) 3 c) 4 (a 6))) 20) 6 x)) (a 2) 1 (2 * a 6 + 2) 1 60 (by omega) (by omega) (by omega) (by omega) ((uB (uB b 20 (uN (uN (uN (uN (uN (b 20) 0 (a 18)) 1 (a 20)) 2 kind) 3 c) 4 (a 6))) 20 (uN ((uB b 20 (uN (uN (uN (uN (uN (b 20) 0 (a 18)) 1 (a 20)) 2 kind) 3 c) 4 (a 6))) 20) 6 x)) 2) ((uB (uB b 20 (uN (uN (uN (uN (uN (b 20) 0 (a 18)) 1 (a 20)) 2 kind) 3 c) 4 (a 6))) 20 (uN ((uB b 20 (uN (uN (uN (uN (uN (b 20) 0 (a 18)) 1 (a 20)) 2 kind) 3 c) 4 (a 6))) 20) 6 x)) 20) rfl rfl hnmx (X (a 2).toNat 1) (fun hz => hX2 hz) hk) cv_X11_279 cd_X11_says rfl (st := []) rfl (isM_o hM7) (by decide) (by decide) rfl (Nat.zero_le _) (Nat.zero_le _) hM7 (fun r8 w9 q10 => ?_)
  obtain ⟨sv, hsv⟩ : ∃ sv, r8 = some (vi sv) ∧ sv = sayV (X (a 2).toNat 1) (a 2) (2 * a 6 + 2) 1 60 (nmS 1 ((uB (uB b 20 (uN (uN (uN (uN (uN (b 20) 0 (a 18)) 1 (a 20)) 2 kind) 3 c) 4 (a 6))) 20 (uN ((uB b 20 (uN (uN (uN (uN (uN (b 20) 0 (a 18)) 1 (a 20)) 2 kind) 3 c) 4 (a 6))) 20) 6 x)) 20)) (ofA a) := ⟨_, q10.1, rfl⟩
  obtain ⟨-, bb, hM2, hbb⟩ := q10
  rw [hsv.1]
  exact M.iret rfl (Nat.zero_le _) (Nat.zero_le _) ⟨reI (by rw [hsv.2]; unfold mWaitA; rw [nmS_en (a := a) (kind := kind) (c := c) (x := x) rfl rfl rfl rfl rfl rfl]), bb, hM2, fun k k1 k2 k3 => (hbb k k2 k3).trans ((if_neg k1).trans (if_neg k1))⟩
