/-! the class takes a text -/
theorem ne_some {w : Wo} {a : Nat} {c : Ce} (h : lk w a = some c) : lk w a ≠ none := fun z => by rw [h] at z; cases z
theorem to_on {T : Nat → Nat} {tl fx : Nat → Int} {w : Wo} (h : isTo T tl fx w) (j : Nat) (hj : j < 6) : lk w (T j) ≠ none := by
  obtain ⟨h0, ⟨f1, h1, _⟩, ⟨f2, h2, _⟩, h3, ⟨f4, h4, _⟩, ⟨f5, h5, _⟩, _⟩ := h
  rcases (show j = 0 ∨ j = 1 ∨ j = 2 ∨ j = 3 ∨ j = 4 ∨ j = 5 by omega) with rfl | rfl | rfl | rfl | rfl | rfl
  · exact ne_some h0
  · exact ne_some h1
  · exact ne_some h2
  · exact ne_some h3
  · exact ne_some h4
  · exact ne_some h5
theorem s2_on {A : Nat → Nat} {sc : Nat → Int} {RL : Nat → List Rw} {w : Wo} (h : isS2 A sc RL w) (j : Nat) (hj : j < 13) : lk w (A j) ≠ none := by
  obtain ⟨h0, h1, _⟩ := h
  by_cases e : j = 0
  · rw [e]; exact ne_some h0
  · by_cases e2 : j % 2 = 1
    · have q := (h1 ((j - 1) / 2) (by omega)).1
      rw [show 1 + 2 * ((j - 1) / 2) = j by omega] at q
      exact ne_some q
    · obtain ⟨f, q, _⟩ := (h1 ((j - 2) / 2) (by omega)).2
      rw [show 2 + 2 * ((j - 2) / 2) = j by omega] at q
      exact ne_some q
theorem rg_on {z : Nat} {L : List Dy} {w : Wo} (h : isRg z L w) (a : Nat) (ha : a = z ∨ (z + 20 ≤ a ∧ a < z + 411)) : lk w a ≠ none := by
  obtain ⟨f, E, _, _, ⟨h1, h2, h3⟩, _⟩ := h
  rcases (show a = z ∨ a = z + 20 ∨ (z + 21 ≤ a ∧ a < z + 411) by omega) with e | e | e
  · rw [e]; exact ne_some h1
  · rw [e]; exact ne_some h2
  · have q := s2_on (h3 ((a - (z + 21)) / 13) (by omega)) ((a - (z + 21)) % 13) (by omega)
    have e2 : aC z ((a - (z + 21)) / 13) ((a - (z + 21)) % 13) = a := by unfold aC; omega
    rw [e2] at q
    exact q
theorem lw_on {p q t0 a0 : Nat} {w : Wo} (h : isLw p q t0 a0 w) : lk w p ≠ none ∧ lk w q ≠ none := by
  obtain ⟨V, n, kd, bl, la, h1, h2⟩ := h
  exact ⟨ne_some h1, ne_some h2⟩
section QTX
variable {G : GT} {kb : Nat} {fx fx2 tl tl2 tp : Nat → Int} {X : Nat → Int → Option Gn} {cl : Nat → Int} {D D2 : Dy} {L L2 : List Dy} {nt fs fp : Int} {w w1 : Wo}
theorem kOcc (h : isEn G (kb + 850) (aA kb) (tz (kb + 1)) tl fx X cl 1 D w) (hk : isKr kb fx fx2 L tl2 D2 L2 tp nt fs fp w) (a : Nat) (h1 : kb ≤ a) (h2 : a < kb + 850) : lk w a ≠ none := by
  obtain ⟨g1, g2, g3, g4, g5, g6, g7, g8⟩ := h
  obtain ⟨k1, k2, k3, k4, k5, ⟨k6a, k6b, Dx, k6c⟩, k7, k8, k9, ⟨⟨u0, u1, u2, u3, u4, u5, s1, s2, m1⟩, ⟨c, m2⟩, ⟨f3, m3⟩, ⟨f4, m4⟩, ⟨f5, m5⟩, ⟨f6, m6⟩, f7, m7⟩, k11⟩ := hk
  by_cases c0 : a = kb
  · rw [c0]; exact ne_some k1
  by_cases c1 : a = kb + 1 ∨ (kb + 21 ≤ a ∧ a < kb + 412)
  · exact rg_on k2 a (by omega)
  by_cases c2 : a = kb + 412 ∨ (kb + 432 ≤ a ∧ a < kb + 823)
  · exact rg_on k3 a (by omega)
  by_cases c3 : a < kb + 8
  · have q := to_on g2 (a - (kb + 2)) (by omega)
    rw [show tz (kb + 1) (a - (kb + 2)) = a by unfold tz; omega] at q
    exact q
  by_cases c4 : a < kb + 21
  · have q := s2_on g1 (a - (kb + 8)) (by omega)
    rw [show aA kb (a - (kb + 8)) = a by unfold aA; rw [if_pos (by omega)]; omega] at q
    exact q
  by_cases c5 : a < kb + 419
  · have q := to_on k4 (a - (kb + 413)) (by omega)
    rw [show tz (kb + 412) (a - (kb + 413)) = a by unfold tz; omega] at q
    exact q
  by_cases c6 : a < kb + 432
  · have q := s2_on k5 (a - (kb + 419)) (by omega)
    rw [show nz (kb + 412) (a - (kb + 419)) = a by unfold nz; omega] at q
    exact q
  by_cases c7 : a = kb + 823
  · rw [c7]; exact ne_some g3
  by_cases c8 : a = kb + 824
  · rw [c8]; exact (lw_on g4).1
  by_cases c9 : a = kb + 825
  · rw [c9]; exact (lw_on g4).2
  by_cases d1 : a = kb + 826
  · rw [d1]; exact ne_some k6a
  by_cases d2 : a < kb + 840
  · have q := s2_on k6c (a - (kb + 827)) (by omega)
    rw [show aB kb (a - (kb + 827)) = a by unfold aB; rw [if_pos (by omega)]; omega] at q
    exact q
  by_cases d3 : a = kb + 840
  · rw [d3]; exact (lw_on k6b).1
  by_cases d4 : a = kb + 841
  · rw [d4]; exact (lw_on k6b).2
  rcases (show a = kb + 842 ∨ a = kb + 843 ∨ a = kb + 844 ∨ a = kb + 845 ∨ a = kb + 846 ∨ a = kb + 847 ∨ a = kb + 848 ∨ a = kb + 849 by omega) with e | e | e | e | e | e | e | e
  · rw [e]; exact ne_some m1
  · rw [e]; exact ne_some m2
  · rw [e]; exact ne_some m3
  · rw [e]; exact ne_some m4
  · rw [e]; exact ne_some m5
  · rw [e]; exact ne_some m6
  · rw [e]; exact ne_some m7
  · rw [e]; exact ne_some k11
theorem codeOk_ex {hb a : Nat} {Y : Option Gn} {z : Int} (h : codeOk G hb a Y z w) (e : ∀ b : Nat, hb ≤ b → lk w b ≠ none → lk w1 b = lk w b) : codeOk G hb a Y z w1 := by
  rcases h with h | ⟨m, f, gg, h1, h2, h3, h4, h5, h6⟩
  · exact Or.inl h
  · exact Or.inr ⟨m, f, gg, h1, h2, h3, h4, (e a h1 (ne_some h5)).trans h5, h6⟩
theorem isT1_ex {hb t : Nat} {z : Int} {Y0 Y1 : Option Gn} (h : isT1 G hb z Y0 Y1 cl t w) (e : ∀ b : Nat, hb ≤ b → lk w b ≠ none → lk w1 b = lk w b) : isT1 G hb z Y0 Y1 cl t w1 := by
  obtain ⟨x, a1, a2, a3, n3, f3, h1, h2, h3, h4, h5, h6, h7⟩ := h
  exact ⟨x, a1, a2, a3, n3, f3, h1, h2, h3, ⟨(e x h2 (ne_some h4.1)).trans h4.1, (e a3 h3 (ne_some h4.2)).trans h4.2⟩, codeOk_ex h5 e, codeOk_ex h6 e, h7⟩
theorem txs_ex {hb : Nat} (h : txs hb fx w) (e : ∀ a : Nat, hb ≤ a → lk w a ≠ none → lk w1 a = lk w a) : txs hb fx w1 := fun j hj h0 => by
  obtain ⟨h1, zf, h2⟩ := h j hj h0
  exact ⟨h1, zf, (e _ h1 (ne_some h2)).trans h2⟩
/-- new cells beside it, the reader's own changed -/
theorem kq_ex (h : isEn G (kb + 850) (aA kb) (tz (kb + 1)) tl fx X cl 1 D w) (hk : isKr kb fx fx2 L tl2 D2 L2 tp nt fs fp w) (e : ∀ a : Nat, (kb ≤ a ∧ a < kb + 842) ∨ a = kb + 849 → lk w1 a = lk w a) (e2 : ∀ a : Nat, kb + 850 ≤ a → lk w a ≠ none → lk w1 a = lk w a) (hrd : isRd kb w1) : isEn G (kb + 850) (aA kb) (tz (kb + 1)) tl fx X cl 1 D w1 ∧ isKr kb fx fx2 L tl2 D2 L2 tp nt fs fp w1 := by
  obtain ⟨g1, g2, g3, g4, g5, g6, g7, g8⟩ := h
  obtain ⟨k1, k2, k3, k4, k5, k6, k7, k8, k9, k10, k11⟩ := hk
  refine ⟨⟨isS2_e g1 (fun i hi => e _ (by have := aA_r (kb := kb) i (by omega); omega)), isTo_fr g2 (fun j hj => e _ (by unfold tz; omega)), (e _ (by have := aA_r (kb := kb) 13 (by decide); omega)).trans g3, lw_fr g4 (e _ (by have := aA_r (kb := kb) 14 (by decide); omega)) (e _ (by have := aA_r (kb := kb) 15 (by decide); omega)), fun t ht => isT1_ex (g5 t ht) e2, g6, g7, g8⟩, ?_⟩
  exact ⟨(e _ (by omega)).trans k1, rg_fr k2 (fun a ha => e a (by omega)), rg_fr k3 (fun a ha => e a (by omega)), isTo_fr k4 (fun j hj => e _ (by unfold tz; omega)), isS2_e k5 (fun j hj => e _ (by unfold nz; omega)), tr_fr k6 (fun a a1 a2 => e a (by omega)), txs_ex k7 e2, txs_ex k8 e2, k9, hrd, (e _ (by omega)).trans k11⟩
theorem kr_o {n2 s2 p2 : Int} (h : isKr kb fx fx2 L tl2 D2 L2 tp nt fs fp w) : isKr kb fx fx2 L tl2 D2 L2 tp n2 s2 p2 (up w kb (Ob 9 [vr (kb + 1), vr (kb + 412), vr (tz (kb + 1) 0), vr (aA kb 0), vr (aA kb 13), vr (aB kb 13), vr (kb + 842), vr (kb + 849), vi n2, vi s2, vi p2])) := by
  obtain ⟨h1, h2, h3, h4, h5, h6, h7, h8, h9, h10, h11⟩ := h
  have q : ∀ (c : Ce) (a : Nat), kb < a → lk (up w kb c) a = lk w a := fun c a ha => lk_up_n (by omega)
  exact ⟨lk_up_s h1, rg_fr h2 (fun a ha => q _ a (by omega)), rg_fr h3 (fun a ha => q _ a (by omega)), isTo_fr h4 (fun j hj => q _ _ (by unfold tz; omega)), isS2_e h5 (fun j hj => q _ _ (by unfold nz; omega)), tr_fr h6 (fun a a1 a2 => q _ a (by omega)), txs_fr h7 (fun a ha => q _ a (by omega)), txs_fr h8 (fun a ha => q _ a (by omega)), h9, rd_fr h10 (fun a a1 a2 => q _ a (by omega)), (q _ _ (by omega)).trans h11⟩
end QTX
theorem rd_of {kb : Nat} {L : List (Int × Int × Int)} {c1 c2 j : Nat} {ly : Int} {m1 m2 : Nat} {f1 f2 : Int} {fc fq : Nat → Int} {w : Wo} (h : isRe (kb + 842) L c1 c2 j ly m1 m2 f1 f2 fc fq w) : isRd kb w := by
  obtain ⟨h1, h2, h3, f_, fv, fz, h4, h5, h6, h7, h8⟩ := h
  exact ⟨⟨c1, _, _, _, _, _, m1, m2, h1⟩, ⟨_, h4⟩, ⟨_, h5⟩, ⟨_, h6⟩, ⟨_, h7⟩, ⟨_, h2⟩, _, h3⟩
/-- what a law's orders say -/
def jE (e : Ex) (z : Int) (gg : Gn) : Prop := (∀ f : Nat → Int, cdAt f 0 (cdE e 0) → jOk f (szE e) z gg) ∧ (szE e ≤ 1000 → ∀ f : Nat → Int, cdAt f 0 (cdE e 0) → ∀ j : Nat, j < 2 * szE e → -2147483648 ≤ f j ∧ f j ≤ 2147483647)
def xMe (Y : Option Gn) (z : Int) : Option Ex → Prop
  | none => Y = none
  | some e => ∃ gg, Y = some gg ∧ jE e z gg
def txL (cl : Nat → Int) (t : Nat) (Lc : List (Int × Int × Int)) : Prop := cl (681 * t) = ((Lc.length : Nat) : Int) ∧ ∀ k : Nat, k < Lc.length → (gTk Lc k).1 = cl (681 * t + 1 + 3 * k) ∧ (2 ≤ (gTk Lc k).1 → (gTk Lc k).2.1 = cl (681 * t + 1 + 3 * k + 1)) ∧ ((gTk Lc k).1 = 2 ∨ (gTk Lc k).1 = 4 → (gTk Lc k).2.2 = cl (681 * t + 1 + 3 * k + 2))
def agX (X : Nat → Int → Option Gn) (cl : Nat → Int) (Y : Nat → Int → Option Gn) (cm : Nat → Int) (n : Nat) (s : Rs) : Prop := (∀ t : Nat, t < n → Y t 0 = X t 0 ∧ Y t 1 = X t 1 ∧ ∀ k : Nat, k < 681 → cm (681 * t + k) = cl (681 * t + k)) ∧ xMe (Y n 0) 0 s.2.1 ∧ xMe (Y n 1) 1 s.2.2 ∧ txL cm n s.1
theorem txE_ag {cl cm : Nat → Int} {t n3 : Nat} {f3 : Nat → Int} (h : txE cl t n3 f3) (e : ∀ k : Nat, k < 681 → cm (681 * t + k) = cl (681 * t + k)) : txE cm t n3 f3 := by
  obtain ⟨h1, h2, h3⟩ := h
  refine ⟨(e 0 (by decide)).trans h1, h2, fun k hk => ?_⟩
  obtain ⟨a1, a2, a3⟩ := h3 k hk
  have e1 := e (1 + 3 * k) (by omega)
  have e2 := e (1 + 3 * k + 1) (by omega)
  have e3 := e (1 + 3 * k + 2) (by omega)
  rw [← Nat.add_assoc] at e1
  rw [show 681 * t + (1 + 3 * k + 1) = 681 * t + 1 + 3 * k + 1 by omega] at e2
  rw [show 681 * t + (1 + 3 * k + 2) = 681 * t + 1 + 3 * k + 2 by omega] at e3
  exact ⟨by rw [e1]; exact a1, fun q => by rw [e2]; exact a2 q, fun q => by rw [e3]; exact a3 q⟩
theorem codeOk_of {G : GT} {o hb m : Nat} {w0 w : Wo} {Y : Option Gn} {z : Int} {x : Option Ex} (h : cEx G o w0 m w x) (hx : xMe Y z x) (hocc : ∀ a : Nat, gB G ≤ a → lk w0 a = none → hb ≤ a) : codeOk G hb m Y z w := by
  cases x with
  | none => exact Or.inl ⟨h, hx⟩
  | some e =>
    obtain ⟨h1, h2, h3, h4, h5, f, h6, h7⟩ := h
    obtain ⟨gg, g1, g2, g3⟩ := hx
    exact Or.inr ⟨szE e, f, gg, hocc _ h3 h4, h2.1, h2.2, g1, h6, g3 (by omega) f h7, g2 f h7⟩
def QX (G : GT) (kb : Nat) (tl fx fx2 : Nat → Int) (X : Nat → Int → Option Gn) (cl : Nat → Int) (D : Dy) (L : List Dy) (tl2 : Nat → Int) (D2 : Dy) (L2 : List Dy) (tp : Nat → Int) (Lt : List (Int × Int × Int)) (r : Option AV) (w' : Wo) : Rr → Prop
  | .inl (s, _) => r = some (vi (tl 1)) ∧ ∀ (Y : Nat → Int → Option Gn) (cm : Nat → Int), agX X cl Y cm (tl 1).toNat s → ∃ gx, isEn G (kb + 850) (aA kb) (tz (kb + 1)) (uN tl 1 (tl 1 + 1)) gx Y cm 1 D w' ∧ isKr kb gx fx2 L tl2 D2 L2 tp 0 0 (-1) w'
  | .inr (f, k) => r = some (vi (-1)) ∧ isEn G (kb + 850) (aA kb) (tz (kb + 1)) tl fx X cl 1 D w' ∧ isKr kb fx fx2 L tl2 D2 L2 tp 0 f (gTk Lt k).2.2 w'
set_option maxHeartbeats 4000000 in
set_option maxRecDepth 100000 in
theorem kX10_text (l : Launch) (G : GT) (kb : Nat) (hkb : kb ≤ gB G) (tl fx fx2 : Nat → Int) (X : Nat → Int → Option Gn) (cl : Nat → Int) (D : Dy) (L : List Dy) (tl2 : Nat → Int) (D2 : Dy) (L2 : List Dy) (tp : Nat → Int) (fs fp : Int) (hT : Tok tl) (ht2 : tl2 1 ≤ tl 1) (hb : ∀ k : Nat, k < 300 → 0 ≤ tp k ∧ tp k < 256) (t : Nat) (ht : t ≤ 300) : Ctr l G yX10_text cX10_text 2 ((Option.some Jvm.ClassFile.FieldType.int)) 69 5 1881 [vr kb] (fun w => isEn G (kb + 850) (aA kb) (tz (kb + 1)) tl fx X cl 1 D w ∧ isKr kb fx fx2 L tl2 D2 L2 tp ((t : Nat) : Int) fs fp w) (fun w r w' => if tl 1 = 4 then r = some (vi (-1)) ∧ w' = w else QX G kb tl fx fx2 X cl D L tl2 D2 L2 tp (tkL tp t) r w' (pRea (tkL tp t) 25 ([], none, none) 0)) := by
  refine Ctr.of (t := tX10_text) (lv0 := [some (vr kb), none]) (by decide +kernel) tX10_text_ok rfl rfl (fun w g hP M => ?_)
  have hk1 : 0 ≤ tl 1 ∧ tl 1 ≤ 4 := hT.1 1 (by decide)
  have hocc : ∀ a : Nat, gB G ≤ a → lk w a = none → kb + 850 ≤ a := fun a h1 h2 => Nat.le_of_not_lt (fun q => kOcc hP.1 hP.2 a (by omega) q h2)
  refine M.run 1 (pc' := 1) (lv' := [some (vr kb), none]) (st' := [vr kb]) rfl ?_
  refine M.get fl_X10_23 rfl (hP.2.1) (kf := 2) (v := vr (tz (kb + 1) 0)) rfl ?_
  refine M.get fl_X10_93 rfl hP.1.2.1.1 (kf := 9) (v := vi (tl 1)) rfl ?_
  refine M.run 1 (pc' := 8) (lv' := [some (vr kb), none]) (st' := [vi 4, vi (tl 1)]) rfl ?_
  refine M.icmp_lt (tgt := 13) rfl (qI (by omega)) (qI (by decide)) rfl (fun h4 => ?_) (fun h4 => ?_)
  · have hn4 : ¬ tl 1 = 4 := by omega
    refine M.run 1 (pc' := 14) (lv' := [some (vr kb), none]) (st' := [vr kb]) rfl ?_
    refine M.get fl_X10_47 rfl (hP.2.1) (kf := 6) (v := vr (kb + 842)) rfl ?_
    refine M.run 1 (pc' := 18) (lv' := [some (vr kb), none]) (st' := [vr kb, vr (kb + 842)]) rfl ?_
    refine M.get fl_X10_51 rfl (hP.2.1) (kf := 7) (v := vr (kb + 849)) rfl ?_
    refine M.run 1 (pc' := 22) (lv' := [some (vr kb), none]) (st' := [vr kb, vr (kb + 849), vr (kb + 842)]) rfl ?_
    refine M.get fl_X10_86 rfl (hP.2.1) (kf := 8) (v := vi ((t : Nat) : Int)) rfl ?_
    obtain ⟨_, _, _, _, _, _, _, _, hfx2, ⟨⟨u0, u1, u2, u3, u4, u5, s1, s2, m1⟩, ⟨cc, m2⟩, ⟨f3, m3⟩, ⟨f4, m4⟩, ⟨f5, m5⟩, ⟨f6, m6⟩, f7, m7⟩, htp⟩ := id hP.2
    refine M.callV (kX3_read l G (kb + 842) (kb + 849) (by omega) tp hb t ht u0 u1 u2 u3 s1 s2 u4 u5 f6 f7 cc f3 f4 f5) cv_X10_96 cd_X3_read rfl (st := []) rfl m1 (by omega) (by decide) rfl (by omega) (by omega) ⟨⟨m1, m6, m7, m2, m3, m4, m5⟩, htp⟩ (fun r1 w1 q1 => ?_)
    rcases hE : pRea (tkL tp t) 25 ([], none, none) 0 with ⟨s, k⟩ | ⟨f, k⟩
    · rw [hE] at q1
      obtain ⟨⟨x, mm1, mm2, a3, g3, hr1, ⟨hx1, hx2, hx3⟩, ⟨ha1, ha2, ha3⟩, hX, hA, hcr, hc1, hc2⟩, h24, hk, ⟨c1, ly, n1, n2, gc, gq, hRe⟩, hF⟩ := q1
      rw [hr1]
      obtain ⟨hE1, hK1⟩ := kq_ex hP.1 hP.2 (fun a ha => hF a (by omega) (kOcc hP.1 hP.2 a (by omega) (by omega))) (fun a ha hn => hF a (by omega) hn) (rd_of hRe)
      refine M.run 3 (pc' := 31) (lv' := [some (vr kb), some (vr x)]) (st' := [vi 0, vr kb]) rfl ?_
      refine M.put fl_X10_86 rfl hK1.1 rfl rfl (Nat.le_of_ble_eq_true rfl) ?_
      change g (0 + 5) (0 + 1881) (up w1 kb (Ob 9 [vr (kb + 1), vr (kb + 412), vr (tz (kb + 1) 0), vr (aA kb 0), vr (aA kb 13), vr (aB kb 13), vr (kb + 842), vr (kb + 849), vi 0, vi fs, vi fp])) 34 [some (vr kb), some (vr x)] []
      have hK2 : isKr kb fx fx2 L tl2 D2 L2 tp 0 fs fp (up w1 kb (Ob 9 [vr (kb + 1), vr (kb + 412), vr (tz (kb + 1) 0), vr (aA kb 0), vr (aA kb 13), vr (aB kb 13), vr (kb + 842), vr (kb + 849), vi 0, vi fs, vi fp])) := kr_o hK1
      have hE2 : isEn G (kb + 850) (aA kb) (tz (kb + 1)) tl fx X cl 1 D (up w1 kb (Ob 9 [vr (kb + 1), vr (kb + 412), vr (tz (kb + 1) 0), vr (aA kb 0), vr (aA kb 13), vr (aB kb 13), vr (kb + 842), vr (kb + 849), vi 0, vi fs, vi fp])) := en_out hE1 (Or.inl rfl)
      have hR2 := (lk_up_n (w := w1) (a := kb) (c := Ob 9 [vr (kb + 1), vr (kb + 412), vr (tz (kb + 1) 0), vr (aA kb 0), vr (aA kb 13), vr (aB kb 13), vr (kb + 842), vr (kb + 849), vi 0, vi fs, vi fp]) (show kb + 842 ≠ kb by omega)).trans hRe.1
      have hN2 : ∀ a : Nat, a ≠ kb → lk (up w1 kb (Ob 9 [vr (kb + 1), vr (kb + 412), vr (tz (kb + 1) 0), vr (aA kb 0), vr (aA kb 13), vr (aB kb 13), vr (kb + 842), vr (kb + 849), vi 0, vi fs, vi fp])) a = lk w1 a := fun a ha => lk_up_n ha
      generalize (up w1 kb (Ob 9 [vr (kb + 1), vr (kb + 412), vr (tz (kb + 1) 0), vr (aA kb 0), vr (aA kb 13), vr (aB kb 13), vr (kb + 842), vr (kb + 849), vi 0, vi fs, vi fp])) = wb2 at hK2 hE2 hR2 hN2 ⊢
      refine M.run 2 (pc' := 36) (lv' := [some (vr kb), some (vr x)]) (st' := [vr kb, vr kb]) rfl ?_
      refine M.get fl_X10_47 rfl (hK2.1) (kf := 6) (v := vr (kb + 842)) rfl ?_
      refine M.get fl_X10_100 rfl hR2 (kf := 9) (v := vi 0) rfl ?_
      refine M.put fl_X10_55 rfl hK2.1 rfl rfl (Nat.le_of_ble_eq_true rfl) ?_
      change g (0 + 5) (0 + 1881) (up wb2 kb (Ob 9 [vr (kb + 1), vr (kb + 412), vr (tz (kb + 1) 0), vr (aA kb 0), vr (aA kb 13), vr (aB kb 13), vr (kb + 842), vr (kb + 849), vi 0, vi 0, vi fp])) 45 [some (vr kb), some (vr x)] []
      have hK3 : isKr kb fx fx2 L tl2 D2 L2 tp 0 0 fp (up wb2 kb (Ob 9 [vr (kb + 1), vr (kb + 412), vr (tz (kb + 1) 0), vr (aA kb 0), vr (aA kb 13), vr (aB kb 13), vr (kb + 842), vr (kb + 849), vi 0, vi 0, vi fp])) := kr_o hK2
      have hE3 : isEn G (kb + 850) (aA kb) (tz (kb + 1)) tl fx X cl 1 D (up wb2 kb (Ob 9 [vr (kb + 1), vr (kb + 412), vr (tz (kb + 1) 0), vr (aA kb 0), vr (aA kb 13), vr (aB kb 13), vr (kb + 842), vr (kb + 849), vi 0, vi 0, vi fp])) := en_out hE2 (Or.inl rfl)
      have hR3 := (lk_up_n (w := wb2) (a := kb) (c := Ob 9 [vr (kb + 1), vr (kb + 412), vr (tz (kb + 1) 0), vr (aA kb 0), vr (aA kb 13), vr (aB kb 13), vr (kb + 842), vr (kb + 849), vi 0, vi 0, vi fp]) (show kb + 842 ≠ kb by omega)).trans hR2
      have hN3 : ∀ a : Nat, a ≠ kb → lk (up wb2 kb (Ob 9 [vr (kb + 1), vr (kb + 412), vr (tz (kb + 1) 0), vr (aA kb 0), vr (aA kb 13), vr (aB kb 13), vr (kb + 842), vr (kb + 849), vi 0, vi 0, vi fp])) a = lk wb2 a := fun a ha => lk_up_n ha
      generalize (up wb2 kb (Ob 9 [vr (kb + 1), vr (kb + 412), vr (tz (kb + 1) 0), vr (aA kb 0), vr (aA kb 13), vr (aB kb 13), vr (kb + 842), vr (kb + 849), vi 0, vi 0, vi fp])) = wb3 at hK3 hE3 hR3 hN3 ⊢
      refine M.run 2 (pc' := 47) (lv' := [some (vr kb), some (vr x)]) (st' := [vr kb, vr kb]) rfl ?_
      refine M.get fl_X10_47 rfl (hK3.1) (kf := 6) (v := vr (kb + 842)) rfl ?_
      refine M.get fl_X10_101 rfl hR3 (kf := 10) (v := vi (-1)) rfl ?_
      refine M.put fl_X10_59 rfl hK3.1 rfl rfl (Nat.le_of_ble_eq_true rfl) ?_
      change g (0 + 5) (0 + 1881) (up wb3 kb (Ob 9 [vr (kb + 1), vr (kb + 412), vr (tz (kb + 1) 0), vr (aA kb 0), vr (aA kb 13), vr (aB kb 13), vr (kb + 842), vr (kb + 849), vi 0, vi 0, vi (-1)])) 56 [some (vr kb), some (vr x)] []
      have hK4 : isKr kb fx fx2 L tl2 D2 L2 tp 0 0 (-1) (up wb3 kb (Ob 9 [vr (kb + 1), vr (kb + 412), vr (tz (kb + 1) 0), vr (aA kb 0), vr (aA kb 13), vr (aB kb 13), vr (kb + 842), vr (kb + 849), vi 0, vi 0, vi (-1)])) := kr_o hK3
      have hE4 : isEn G (kb + 850) (aA kb) (tz (kb + 1)) tl fx X cl 1 D (up wb3 kb (Ob 9 [vr (kb + 1), vr (kb + 412), vr (tz (kb + 1) 0), vr (aA kb 0), vr (aA kb 13), vr (aB kb 13), vr (kb + 842), vr (kb + 849), vi 0, vi 0, vi (-1)])) := en_out hE3 (Or.inl rfl)
      have hR4 := (lk_up_n (w := wb3) (a := kb) (c := Ob 9 [vr (kb + 1), vr (kb + 412), vr (tz (kb + 1) 0), vr (aA kb 0), vr (aA kb 13), vr (aB kb 13), vr (kb + 842), vr (kb + 849), vi 0, vi 0, vi (-1)]) (show kb + 842 ≠ kb by omega)).trans hR3
      have hN4 : ∀ a : Nat, a ≠ kb → lk (up wb3 kb (Ob 9 [vr (kb + 1), vr (kb + 412), vr (tz (kb + 1) 0), vr (aA kb 0), vr (aA kb 13), vr (aB kb 13), vr (kb + 842), vr (kb + 849), vi 0, vi 0, vi (-1)])) a = lk wb3 a := fun a ha => lk_up_n ha
      generalize (up wb3 kb (Ob 9 [vr (kb + 1), vr (kb + 412), vr (tz (kb + 1) 0), vr (aA kb 0), vr (aA kb 13), vr (aB kb 13), vr (kb + 842), vr (kb + 849), vi 0, vi 0, vi (-1)])) = wb4 at hK4 hE4 hR4 hN4 ⊢
      refine M.run 1 (pc' := 57) (lv' := [some (vr kb), some (vr x)]) (st' := [vr x]) rfl ?_
      refine M.ifnonnullR (tgt := 64) rfl rfl ?_
      refine M.run 1 (pc' := 65) (lv' := [some (vr kb), some (vr x)]) (st' := [vr kb]) rfl ?_
      refine M.get fl_X10_23 rfl (hK4.1) (kf := 2) (v := vr (tz (kb + 1) 0)) rfl ?_
      refine M.run 1 (pc' := 69) (lv' := [some (vr kb), some (vr x)]) (st' := [vr x, vr (tz (kb + 1) 0)]) rfl ?_
      have hxb := hocc x hx1 hx2
      have hab := hocc a3 ha1 ha2
      have hN : ∀ a : Nat, a ≠ kb → lk wb4 a = lk w1 a := fun a ha => (hN4 a ha).trans ((hN3 a ha).trans (hN2 a ha))
      have hX4 : lk wb4 x = some (Ob 6 [vr mm1, vr mm2, vr a3]) := (hN x (by omega)).trans hX
      refine M.callV (kX9_addText l G (tz (kb + 1)) tl fx hT x) cv_X10_102 cd_X9_addText rfl (st := []) rfl hE4.2.1.1 (by omega) (by decide) rfl (by omega) (by omega) ⟨hE4.2.1, _, hX4⟩ (fun r5 w5 q5 => ?_)
      obtain ⟨hr5, hT5, hf5⟩ := q5.1 hn4
      rw [hr5]
      refine M.iret rfl (by omega) (by omega) ?_
      show if _ then _ else _
      rw [if_neg hn4, hE]
      have hfz : ∀ a : Nat, (a < kb + 2 ∨ kb + 8 ≤ a) → lk w5 a = lk wb4 a := fun a ha => hf5 a (fun i hi => by unfold tz; omega)
      refine ⟨rfl, fun Y cm hag => ⟨uN fx (tl 1).toNat ((x : Nat) : Int), ?_, ?_⟩⟩
      · obtain ⟨hag1, hag2, hag3, hag4⟩ := hag
        obtain ⟨g1, g2, g3_, g4, g5, g6, g7, g8⟩ := hE4
        refine ⟨isS2_e g1 (fun i hi => hfz _ (by have := aA_r (kb := kb) i (by omega); omega)), hT5, (hfz _ (by have := aA_r (kb := kb) 13 (by decide); omega)).trans g3_, lw_fr g4 (hfz _ (by have := aA_r (kb := kb) 14 (by decide); omega)) (hfz _ (by have := aA_r (kb := kb) 15 (by decide); omega)), fun i hi => ?_, g6, g7, g8⟩
        rw [uN_s] at hi
        by_cases e : i = (tl 1).toNat
        · rw [e, uN_s]
          have hN5 : ∀ a : Nat, kb + 850 ≤ a → lk w5 a = lk w1 a := fun a ha => (hfz a (by omega)).trans (hN a (by omega))
          have hc5 : ∀ (m : Nat) (z : Option Ex), cEx G (kb + 842) w m w1 z → cEx G (kb + 842) w m w5 z := fun m z h => by
            cases z with
            | none => exact h
            | some e2 =>
              obtain ⟨b1, b2, b3, b4, b5, b6, b7, b8⟩ := h
              exact ⟨b1, b2, b3, b4, b5, b6, (hN5 m (hocc m b3 b4)).trans b7, b8⟩
          refine ⟨x, mm1, mm2, a3, s.1.length, g3, rfl, hxb, hab, ⟨(hN5 x hxb).trans hX, (hN5 a3 hab).trans hA⟩, codeOk_of (hc5 _ _ hc1) hag2 hocc, codeOk_of (hc5 _ _ hc2) hag3 hocc, hag4.1, h24, fun j hj => ?_⟩
          obtain ⟨b1, b2, b3⟩ := hcr j hj
          obtain ⟨d1, d2, d3⟩ := hag4.2 j hj
          rw [b1, b2, b3]
          exact ⟨d1, d2, d3⟩
        · rw [uN_o e]
          have hit : (i : Int) < tl 1 := by omega
          obtain ⟨y1, y2, y3⟩ := hag1 i (by omega)
          rw [y1, y2]
          obtain ⟨x9, b1, b2, b3, n3, f9, h1, h2, h3, h4_, h5, h6, h7⟩ := isT1_ex (w1 := w5) (g5 i hit) (fun b hb _ => hfz b (by omega))
          exact ⟨x9, b1, b2, b3, n3, f9, h1, h2, h3, h4_, h5, h6, txE_ag h7 y3⟩
      · obtain ⟨k1, k2, k3, k4, k5, k6, k7, k8, k9, k10, k11⟩ := hK4
        refine ⟨(hfz _ (by omega)).trans k1, rg_fr k2 (fun a ha => hfz a (by omega)), rg_fr k3 (fun a ha => hfz a (by omega)), isTo_fr k4 (fun j hj => hfz _ (by unfold tz; omega)), isS2_e k5 (fun j hj => hfz _ (by unfold nz; omega)), tr_fr k6 (fun a a1 a2 => hfz a (by omega)), fun j hj h0 => ?_, txs_ex k8 (fun a ha _ => hfz a (by omega)), fun i hi => ?_, rd_fr k10 (fun a a1 a2 => hfz a (by omega)), (hfz _ (by omega)).trans k11⟩
        · by_cases e : j = (tl 1).toNat
          · rw [e, uN_s] at h0 ⊢
            exact ⟨hxb, _, (hfz _ (by omega)).trans hX4⟩
          · rw [uN_o e] at h0 ⊢
            obtain ⟨b1, zf, b2⟩ := k7 j hj h0
            exact ⟨b1, zf, (hfz _ (by omega)).trans b2⟩
        · rw [uN_o (by omega)]
          exact k9 i hi
    · rw [hE] at q1
      obtain ⟨hr1, hk, ⟨c1, c2, ly, n1, n2, gc, gq, hRe⟩, hF⟩ := q1
      rw [hr1]
      obtain ⟨hE1, hK1⟩ := kq_ex hP.1 hP.2 (fun a ha => hF a (by omega) (kOcc hP.1 hP.2 a (by omega) (by omega))) (fun a ha hn => hF a (by omega) hn) (rd_of hRe)
      refine M.run 3 (pc' := 31) (lv' := [some (vr kb), some (vn)]) (st' := [vi 0, vr kb]) rfl ?_
      refine M.put fl_X10_86 rfl hK1.1 rfl rfl (Nat.le_of_ble_eq_true rfl) ?_
      change g (0 + 5) (0 + 1881) (up w1 kb (Ob 9 [vr (kb + 1), vr (kb + 412), vr (tz (kb + 1) 0), vr (aA kb 0), vr (aA kb 13), vr (aB kb 13), vr (kb + 842), vr (kb + 849), vi 0, vi fs, vi fp])) 34 [some (vr kb), some (vn)] []
      have hK2 : isKr kb fx fx2 L tl2 D2 L2 tp 0 fs fp (up w1 kb (Ob 9 [vr (kb + 1), vr (kb + 412), vr (tz (kb + 1) 0), vr (aA kb 0), vr (aA kb 13), vr (aB kb 13), vr (kb + 842), vr (kb + 849), vi 0, vi fs, vi fp])) := kr_o hK1
      have hE2 : isEn G (kb + 850) (aA kb) (tz (kb + 1)) tl fx X cl 1 D (up w1 kb (Ob 9 [vr (kb + 1), vr (kb + 412), vr (tz (kb + 1) 0), vr (aA kb 0), vr (aA kb 13), vr (aB kb 13), vr (kb + 842), vr (kb + 849), vi 0, vi fs, vi fp])) := en_out hE1 (Or.inl rfl)
      have hR2 := (lk_up_n (w := w1) (a := kb) (c := Ob 9 [vr (kb + 1), vr (kb + 412), vr (tz (kb + 1) 0), vr (aA kb 0), vr (aA kb 13), vr (aB kb 13), vr (kb + 842), vr (kb + 849), vi 0, vi fs, vi fp]) (show kb + 842 ≠ kb by omega)).trans hRe.1
      have hN2 : ∀ a : Nat, a ≠ kb → lk (up w1 kb (Ob 9 [vr (kb + 1), vr (kb + 412), vr (tz (kb + 1) 0), vr (aA kb 0), vr (aA kb 13), vr (aB kb 13), vr (kb + 842), vr (kb + 849), vi 0, vi fs, vi fp])) a = lk w1 a := fun a ha => lk_up_n ha
      generalize (up w1 kb (Ob 9 [vr (kb + 1), vr (kb + 412), vr (tz (kb + 1) 0), vr (aA kb 0), vr (aA kb 13), vr (aB kb 13), vr (kb + 842), vr (kb + 849), vi 0, vi fs, vi fp])) = wb2 at hK2 hE2 hR2 hN2 ⊢
      refine M.run 2 (pc' := 36) (lv' := [some (vr kb), some (vn)]) (st' := [vr kb, vr kb]) rfl ?_
      refine M.get fl_X10_47 rfl (hK2.1) (kf := 6) (v := vr (kb + 842)) rfl ?_
      refine M.get fl_X10_100 rfl hR2 (kf := 9) (v := vi f) rfl ?_
      refine M.put fl_X10_55 rfl hK2.1 rfl rfl (Nat.le_of_ble_eq_true rfl) ?_
      change g (0 + 5) (0 + 1881) (up wb2 kb (Ob 9 [vr (kb + 1), vr (kb + 412), vr (tz (kb + 1) 0), vr (aA kb 0), vr (aA kb 13), vr (aB kb 13), vr (kb + 842), vr (kb + 849), vi 0, vi f, vi fp])) 45 [some (vr kb), some (vn)] []
      have hK3 : isKr kb fx fx2 L tl2 D2 L2 tp 0 f fp (up wb2 kb (Ob 9 [vr (kb + 1), vr (kb + 412), vr (tz (kb + 1) 0), vr (aA kb 0), vr (aA kb 13), vr (aB kb 13), vr (kb + 842), vr (kb + 849), vi 0, vi f, vi fp])) := kr_o hK2
      have hE3 : isEn G (kb + 850) (aA kb) (tz (kb + 1)) tl fx X cl 1 D (up wb2 kb (Ob 9 [vr (kb + 1), vr (kb + 412), vr (tz (kb + 1) 0), vr (aA kb 0), vr (aA kb 13), vr (aB kb 13), vr (kb + 842), vr (kb + 849), vi 0, vi f, vi fp])) := en_out hE2 (Or.inl rfl)
      have hR3 := (lk_up_n (w := wb2) (a := kb) (c := Ob 9 [vr (kb + 1), vr (kb + 412), vr (tz (kb + 1) 0), vr (aA kb 0), vr (aA kb 13), vr (aB kb 13), vr (kb + 842), vr (kb + 849), vi 0, vi f, vi fp]) (show kb + 842 ≠ kb by omega)).trans hR2
      have hN3 : ∀ a : Nat, a ≠ kb → lk (up wb2 kb (Ob 9 [vr (kb + 1), vr (kb + 412), vr (tz (kb + 1) 0), vr (aA kb 0), vr (aA kb 13), vr (aB kb 13), vr (kb + 842), vr (kb + 849), vi 0, vi f, vi fp])) a = lk wb2 a := fun a ha => lk_up_n ha
      generalize (up wb2 kb (Ob 9 [vr (kb + 1), vr (kb + 412), vr (tz (kb + 1) 0), vr (aA kb 0), vr (aA kb 13), vr (aB kb 13), vr (kb + 842), vr (kb + 849), vi 0, vi f, vi fp])) = wb3 at hK3 hE3 hR3 hN3 ⊢
      refine M.run 2 (pc' := 47) (lv' := [some (vr kb), some (vn)]) (st' := [vr kb, vr kb]) rfl ?_
      refine M.get fl_X10_47 rfl (hK3.1) (kf := 6) (v := vr (kb + 842)) rfl ?_
      refine M.get fl_X10_101 rfl hR3 (kf := 10) (v := vi ((gTk (tkL tp t) k).2.2)) rfl ?_
      refine M.put fl_X10_59 rfl hK3.1 rfl rfl (Nat.le_of_ble_eq_true rfl) ?_
      change g (0 + 5) (0 + 1881) (up wb3 kb (Ob 9 [vr (kb + 1), vr (kb + 412), vr (tz (kb + 1) 0), vr (aA kb 0), vr (aA kb 13), vr (aB kb 13), vr (kb + 842), vr (kb + 849), vi 0, vi f, vi ((gTk (tkL tp t) k).2.2)])) 56 [some (vr kb), some (vn)] []
      have hK4 : isKr kb fx fx2 L tl2 D2 L2 tp 0 f ((gTk (tkL tp t) k).2.2) (up wb3 kb (Ob 9 [vr (kb + 1), vr (kb + 412), vr (tz (kb + 1) 0), vr (aA kb 0), vr (aA kb 13), vr (aB kb 13), vr (kb + 842), vr (kb + 849), vi 0, vi f, vi ((gTk (tkL tp t) k).2.2)])) := kr_o hK3
      have hE4 : isEn G (kb + 850) (aA kb) (tz (kb + 1)) tl fx X cl 1 D (up wb3 kb (Ob 9 [vr (kb + 1), vr (kb + 412), vr (tz (kb + 1) 0), vr (aA kb 0), vr (aA kb 13), vr (aB kb 13), vr (kb + 842), vr (kb + 849), vi 0, vi f, vi ((gTk (tkL tp t) k).2.2)])) := en_out hE3 (Or.inl rfl)
      have hR4 := (lk_up_n (w := wb3) (a := kb) (c := Ob 9 [vr (kb + 1), vr (kb + 412), vr (tz (kb + 1) 0), vr (aA kb 0), vr (aA kb 13), vr (aB kb 13), vr (kb + 842), vr (kb + 849), vi 0, vi f, vi ((gTk (tkL tp t) k).2.2)]) (show kb + 842 ≠ kb by omega)).trans hR3
      have hN4 : ∀ a : Nat, a ≠ kb → lk (up wb3 kb (Ob 9 [vr (kb + 1), vr (kb + 412), vr (tz (kb + 1) 0), vr (aA kb 0), vr (aA kb 13), vr (aB kb 13), vr (kb + 842), vr (kb + 849), vi 0, vi f, vi ((gTk (tkL tp t) k).2.2)])) a = lk wb3 a := fun a ha => lk_up_n ha
      generalize (up wb3 kb (Ob 9 [vr (kb + 1), vr (kb + 412), vr (tz (kb + 1) 0), vr (aA kb 0), vr (aA kb 13), vr (aB kb 13), vr (kb + 842), vr (kb + 849), vi 0, vi f, vi ((gTk (tkL tp t) k).2.2)])) = wb4 at hK4 hE4 hR4 hN4 ⊢
      refine M.run 1 (pc' := 57) (lv' := [some (vr kb), some (vn)]) (st' := [vn]) rfl ?_
      refine M.ifnonnullN rfl ?_
      refine M.run 2 (pc' := 72) (lv' := [some (vr kb), some (vn)]) (st' := [vi (-1)]) rfl ?_
      refine M.iret rfl (by omega) (by omega) ?_
      show if _ then _ else _
      rw [if_neg hn4, hE]
      exact ⟨rfl, hE4, hK4⟩
  · refine M.run 1 (pc' := 12) (lv' := [some (vr kb), none]) (st' := [vi (-1)]) rfl ?_
    refine M.iret rfl (Nat.zero_le _) (Nat.zero_le _) ?_
    show if _ then _ else _
    rw [if_pos (by omega)]
    exact ⟨rfl, rfl⟩
