/-! the reference's reader: one, what stands behind it, a sum -/
theorem betM_51 (P : List Int) : betM P 51 = -1 := by
  unfold betM
  rw [if_neg (by decide), if_neg (by decide), if_neg (by decide), if_neg (by decide)]
  by_cases q : opnw P = 41
  · rw [if_neg (fun z => z q)]
    split
    · decide
    · decide
  · rw [if_pos q]
theorem prtM_51 (P : List Int) : prtM P 51 = -1 := by
  unfold prtM
  repeat' split
  all_goals first | rfl | (rename_i z; exact absurd z.1 (by decide)) | (rename_i z; exact absurd z (by decide))
set_option maxHeartbeats 4000000 in
set_option maxRecDepth 100000 in
theorem kX11_betweenOf (l : Launch) (G : GT) (o : Nat) (am : Nat → Nat) (u a : Nat → Int) (b : Nat → Nat → Int) (t j : Nat) (hT : isTk (b 3) t j u) (P : List Int) (h16 : u 16 = ((P.length : Nat) : Int)) (hP : rPl P (b 15)) (hl : P.length ≤ 160) (hv : ∀ x : Int, x ∈ P → 0 ≤ x ∧ x ≤ 43) : Ctr l G yX11_betweenOf cX11_betweenOf 1 ((Option.some Jvm.ClassFile.FieldType.int)) 4 0 0 [vr o] (fun w => isM o am u a b w) (fun w r w' => r = some (vi (betM P (gTk (tkL (b 3) t) j).1)) ∧ w' = w) := by
  refine Ctr.of (t := tX11_betweenOf) (lv0 := [some (vr o)]) (by decide +kernel) tX11_betweenOf_ok rfl rfl (fun w g hM M => ?_)
  have hon := opnw_b hv
  have hr := tk_r hT
  have hs34 : u 9 = 43 ↔ (gTk (tkL (b 3) t) j).1 = 34 := tk_s (v := 34) (by decide) hT
  have hs35 : u 9 = 45 ↔ (gTk (tkL (b 3) t) j).1 = 35 := tk_s (v := 35) (by decide) hT
  have hs36 : u 9 = 42 ↔ (gTk (tkL (b 3) t) j).1 = 36 := tk_s (v := 36) (by decide) hT
  have hs37 : u 9 = 47 ↔ (gTk (tkL (b 3) t) j).1 = 37 := tk_s (v := 37) (by decide) hT
  refine M.run 1 (pc' := 1) (lv' := [some (vr o)]) (st' := [vr o]) rfl ?_
  refine M.get fl_X11_91 rfl (isM_o hM) (kf := 9) (v := vi (u 9)) rfl ?_
  refine M.run 1 (pc' := 6) (lv' := [some (vr o)]) (st' := [vi 43, vi (u 9)]) rfl ?_
  refine M.icmp_ne (tgt := 12) rfl (qI (by omega)) (qI (by decide)) rfl (fun hn0 => ?_) (fun hz0 => ?_)
  rotate_left
  · skip
    refine M.run 1 (pc' := 11) (lv' := [some (vr o)]) (st' := [vi 6]) rfl ?_
    exact M.iret rfl (Nat.zero_le _) (Nat.zero_le _) ⟨reI (by unfold betM; rw [if_pos (by omega)]), rfl⟩
  refine M.run 1 (pc' := 13) (lv' := [some (vr o)]) (st' := [vr o]) rfl ?_
  refine M.get fl_X11_91 rfl (isM_o hM) (kf := 9) (v := vi (u 9)) rfl ?_
  refine M.run 1 (pc' := 18) (lv' := [some (vr o)]) (st' := [vi 45, vi (u 9)]) rfl ?_
  refine M.icmp_ne (tgt := 24) rfl (qI (by omega)) (qI (by decide)) rfl (fun hn1 => ?_) (fun hz1 => ?_)
  rotate_left
  · skip
    refine M.run 1 (pc' := 23) (lv' := [some (vr o)]) (st' := [vi 7]) rfl ?_
    exact M.iret rfl (Nat.zero_le _) (Nat.zero_le _) ⟨reI (by unfold betM; rw [if_neg (by omega), if_pos (by omega)]), rfl⟩
  refine M.run 1 (pc' := 25) (lv' := [some (vr o)]) (st' := [vr o]) rfl ?_
  refine M.get fl_X11_91 rfl (isM_o hM) (kf := 9) (v := vi (u 9)) rfl ?_
  refine M.run 1 (pc' := 30) (lv' := [some (vr o)]) (st' := [vi 42, vi (u 9)]) rfl ?_
  refine M.icmp_ne (tgt := 36) rfl (qI (by omega)) (qI (by decide)) rfl (fun hn2 => ?_) (fun hz2 => ?_)
  rotate_left
  · skip
    refine M.run 1 (pc' := 35) (lv' := [some (vr o)]) (st' := [vi 8]) rfl ?_
    exact M.iret rfl (Nat.zero_le _) (Nat.zero_le _) ⟨reI (by unfold betM; rw [if_neg (by omega), if_neg (by omega), if_pos (by omega)]), rfl⟩
  refine M.run 1 (pc' := 37) (lv' := [some (vr o)]) (st' := [vr o]) rfl ?_
  refine M.get fl_X11_91 rfl (isM_o hM) (kf := 9) (v := vi (u 9)) rfl ?_
  refine M.run 1 (pc' := 42) (lv' := [some (vr o)]) (st' := [vi 47, vi (u 9)]) rfl ?_
  refine M.icmp_ne (tgt := 48) rfl (qI (by omega)) (qI (by decide)) rfl (fun hn3 => ?_) (fun hz3 => ?_)
  rotate_left
  · skip
    refine M.run 1 (pc' := 47) (lv' := [some (vr o)]) (st' := [vi 9]) rfl ?_
    exact M.iret rfl (Nat.zero_le _) (Nat.zero_le _) ⟨reI (by unfold betM; rw [if_neg (by omega), if_neg (by omega), if_neg (by omega), if_pos (by omega)]), rfl⟩
  refine M.run 1 (pc' := 49) (lv' := [some (vr o)]) (st' := [vr o]) rfl ?_
  refine M.callV (kX11_openNow l G o am u a b P h16 hP hl hv) cv_X11_160 cd_X11_openNow rfl (st := []) rfl (isM_o hM) (by decide) (by decide) rfl (Nat.zero_le _) (Nat.zero_le _) hM (fun r1 w1 q1 => ?_)
  rw [q1.1, q1.2]
  refine M.run 1 (pc' := 54) (lv' := [some (vr o)]) (st' := [vi 41, vi (opnw P)]) rfl ?_
  refine M.icmp_eq (tgt := 59) rfl (qI (by omega)) (qI (by decide)) rfl (fun h41 => ?_) (fun h41 => ?_)
  rotate_left
  · skip
    refine M.run 1 (pc' := 58) (lv' := [some (vr o)]) (st' := [vi (-1)]) rfl ?_
    exact M.iret rfl (Nat.zero_le _) (Nat.zero_le _) ⟨reI (by unfold betM; rw [if_neg (by omega), if_neg (by omega), if_neg (by omega), if_neg (by omega), if_pos h41]), rfl⟩
  refine M.run 1 (pc' := 60) (lv' := [some (vr o)]) (st' := [vr o]) rfl ?_
  refine M.callV (kX11_isCompared l G o am u a b P h16 hP hl hv) cv_X11_193 cd_X11_isCompared rfl (st := []) rfl (isM_o hM) (by decide) (by decide) rfl (Nat.zero_le _) (Nat.zero_le _) hM (fun rc wc qc => ?_)
  rw [qc.1, qc.2]
  refine M.if_ne (tgt := 71) rfl (qI (by have := zb_01 (isCm P); omega)) rfl (fun hc => ?_) (fun hc => ?_)
  rotate_left
  · have hcf : isCm P = false := zb_f0 hc
    refine M.run 1 (pc' := 67) (lv' := [some (vr o)]) (st' := [vr o]) rfl ?_
    refine M.callV (kX11_compareOf l G o am u a b t j hT) cv_X11_196 cd_X11_compareOf rfl (st := []) rfl (isM_o hM) (by decide) (by decide) rfl (Nat.zero_le _) (Nat.zero_le _) hM (fun rd wd qd => ?_)
    rw [qd.1, qd.2]
    exact M.iret rfl (Nat.zero_le _) (Nat.zero_le _) ⟨reI (by unfold betM; rw [if_neg (by omega), if_neg (by omega), if_neg (by omega), if_neg (by omega), if_neg (fun z => z h41), if_pos hcf]), rfl⟩
  have hct : isCm P = true := zb_t hc
  refine M.run 4 (pc' := 78) (lv' := [some (vr o)]) (st' := [vi 100, vi 110, vi 97, vr o]) rfl ?_
  refine M.callS (kX11_w3 l G 97 110 100 (by decide) (by decide) (by decide)) cs_X11_118 cd_X11_w3 rfl (st := [vr o]) rfl (by decide) (by decide) rfl (Nat.zero_le _) (Nat.zero_le _) trivial (fun rw2 ww2 qw2 => ?_)
  rw [qw2.1, qw2.2]
  refine M.callV (kX11_isWordT l G o am u a b t j hT 15 ((((97 * 256 + 110) * 256 + 100) : Nat) : Int) (by decide) (by decide) (by decide)) cv_X11_186 cd_X11_isWord rfl (st := []) rfl (isM_o hM) (by decide) (by decide) rfl (Nat.zero_le _) (Nat.zero_le _) hM (fun rx2 wx2 qx2 => ?_)
  rw [qx2.1, qx2.2]
  refine M.if_eq (tgt := 92) rfl (qI (by have := zb_01 (decide ((gTk (tkL (b 3) t) j).1 = ((15 : Nat) : Int))); omega)) rfl (fun hn15 => ?_) (fun hz15 => ?_)
  rotate_left
  · have y := zb_td hz15
    refine M.run 2 (pc' := 112) (lv' := [some (vr o)]) (st' := [vi 21]) rfl ?_
    exact M.iret rfl (Nat.zero_le _) (Nat.zero_le _) ⟨reI (by unfold betM; rw [if_neg (by omega), if_neg (by omega), if_neg (by omega), if_neg (by omega), if_neg (fun z => z h41), if_neg (by rw [hct]; decide), if_pos (by omega)]), rfl⟩
  have y15 := zb_fd hn15
  refine M.run 3 (pc' := 97) (lv' := [some (vr o)]) (st' := [vi 114, vi 111, vr o]) rfl ?_
  refine M.callS (kX11_w2 l G 111 114 (by decide) (by decide)) cs_X11_114 cd_X11_w2 rfl (st := [vr o]) rfl (by decide) (by decide) rfl (Nat.zero_le _) (Nat.zero_le _) trivial (fun rw3 ww3 qw3 => ?_)
  rw [qw3.1, qw3.2]
  refine M.callV (kX11_isWordT l G o am u a b t j hT 14 (((111 * 256 + 114) : Nat) : Int) (by decide) (by decide) (by decide)) cv_X11_186 cd_X11_isWord rfl (st := []) rfl (isM_o hM) (by decide) (by decide) rfl (Nat.zero_le _) (Nat.zero_le _) hM (fun rx3 wx3 qx3 => ?_)
  rw [qx3.1, qx3.2]
  refine M.if_eq (tgt := 111) rfl (qI (by have := zb_01 (decide ((gTk (tkL (b 3) t) j).1 = ((14 : Nat) : Int))); omega)) rfl (fun hn14 => ?_) (fun hz14 => ?_)
  · have y := zb_fd hn14
    refine M.run 1 (pc' := 112) (lv' := [some (vr o)]) (st' := [vi (-1)]) rfl ?_
    exact M.iret rfl (Nat.zero_le _) (Nat.zero_le _) ⟨reI (by unfold betM; rw [if_neg (by omega), if_neg (by omega), if_neg (by omega), if_neg (by omega), if_neg (fun z => z h41), if_neg (by rw [hct]; decide), if_neg (by omega), if_neg (by omega)]), rfl⟩
  · have y := zb_td hz14
    refine M.run 2 (pc' := 112) (lv' := [some (vr o)]) (st' := [vi 22]) rfl ?_
    exact M.iret rfl (Nat.zero_le _) (Nat.zero_le _) ⟨reI (by unfold betM; rw [if_neg (by omega), if_neg (by omega), if_neg (by omega), if_neg (by omega), if_neg (fun z => z h41), if_neg (by rw [hct]; decide), if_neg (by omega), if_pos (by omega)]), rfl⟩
set_option maxHeartbeats 4000000 in
set_option maxRecDepth 100000 in
theorem kX11_partOf (l : Launch) (G : GT) (o : Nat) (am : Nat → Nat) (u a : Nat → Int) (b : Nat → Nat → Int) (t j : Nat) (hT : isTk (b 3) t j u) (P : List Int) (h16 : u 16 = ((P.length : Nat) : Int)) (hP : rPl P (b 15)) (hl : P.length ≤ 160) (hv : ∀ x : Int, x ∈ P → 0 ≤ x ∧ x ≤ 43) : Ctr l G yX11_partOf cX11_partOf 2 ((Option.some Jvm.ClassFile.FieldType.int)) 5 0 0 [vr o, vi (opnw P)] (fun w => isM o am u a b w) (fun w r w' => r = some (vi (prtM P (gTk (tkL (b 3) t) j).1)) ∧ w' = w) := by
  refine Ctr.of (t := tX11_partOf) (lv0 := [some (vr o), some (vi (opnw P))]) (by decide +kernel) tX11_partOf_ok rfl rfl (fun w g hM M => ?_)
  have hon := opnw_b hv
  have hr := tk_r hT
  have hs39 : u 9 = 41 ↔ (gTk (tkL (b 3) t) j).1 = 39 := tk_s (v := 39) (by decide) hT
  refine M.run 1 (pc' := 1) (lv' := [some (vr o), some (vi (opnw P))]) (st' := [vi (opnw P)]) rfl ?_
  by_cases c40 : opnw P = 40
  · refine M.tswIn (tgt := 32) (off := 31) rfl (qI (by omega)) (by omega) (by omega) (by rw [c40]; rfl) (by decide) ?_
    refine M.run 1 (pc' := 33) (lv' := [some (vr o), some (vi (opnw P))]) (st' := [vr o]) rfl ?_
    refine M.get fl_X11_91 rfl (isM_o hM) (kf := 9) (v := vi (u 9)) rfl ?_
    refine M.run 1 (pc' := 38) (lv' := [some (vr o), some (vi (opnw P))]) (st' := [vi 41, vi (u 9)]) rfl ?_
    refine M.icmp_ne (tgt := 45) rfl (qI (by omega)) (qI (by decide)) rfl (fun hn => ?_) (fun hz => ?_)
    · skip
      refine M.run 1 (pc' := 46) (lv' := [some (vr o), some (vi (opnw P))]) (st' := [vi (-1)]) rfl ?_
      exact M.iret rfl (Nat.zero_le _) (Nat.zero_le _) ⟨reI (by unfold prtM; rw [if_pos c40, if_neg (by omega)]), rfl⟩
    · skip
      refine M.run 2 (pc' := 46) (lv' := [some (vr o), some (vi (opnw P))]) (st' := [vi 0]) rfl ?_
      exact M.iret rfl (Nat.zero_le _) (Nat.zero_le _) ⟨reI (by unfold prtM; rw [if_pos c40, if_pos (by omega)]), rfl⟩
  by_cases c41 : opnw P = 41
  · refine M.tswIn (tgt := 47) (off := 46) rfl (qI (by omega)) (by omega) (by omega) (by rw [c41]; rfl) (by decide) ?_
    refine M.run 5 (pc' := 56) (lv' := [some (vr o), some (vi (opnw P))]) (st' := [vi 110, vi 101, vi 104, vi 116, vr o]) rfl ?_
    refine M.callS (kX11_w4 l G 116 104 101 110 (by decide) (by decide) (by decide) (by decide)) cs_X11_122 cd_X11_w4 rfl (st := [vr o]) rfl (by decide) (by decide) rfl (Nat.zero_le _) (Nat.zero_le _) trivial (fun rw1 ww1 qw1 => ?_)
    rw [qw1.1, qw1.2]
    refine M.callV (kX11_isWordT l G o am u a b t j hT 11 (((((116 * 256 + 104) * 256 + 101) * 256 + 110) : Nat) : Int) (by decide) (by decide) (by decide)) cv_X11_186 cd_X11_isWord rfl (st := []) rfl (isM_o hM) (by decide) (by decide) rfl (Nat.zero_le _) (Nat.zero_le _) hM (fun rx1 wx1 qx1 => ?_)
    rw [qx1.1, qx1.2]
    refine M.if_eq (tgt := 77) rfl (qI (by have := zb_01 (decide ((gTk (tkL (b 3) t) j).1 = ((11 : Nat) : Int))); omega)) rfl (fun hn => ?_) (fun hz => ?_)
    · have y := zb_fd hn
      refine M.run 1 (pc' := 78) (lv' := [some (vr o), some (vi (opnw P))]) (st' := [vi (-1)]) rfl ?_
      exact M.iret rfl (Nat.zero_le _) (Nat.zero_le _) ⟨reI (by unfold prtM; rw [if_neg c40, if_pos c41, if_neg (fun z => y (by omega))]), rfl⟩
    · have y := zb_td hz
      refine M.run 1 (pc' := 66) (lv' := [some (vr o), some (vi (opnw P))]) (st' := [vr o]) rfl ?_
      refine M.callV (kX11_isCompared l G o am u a b P h16 hP hl hv) cv_X11_193 cd_X11_isCompared rfl (st := []) rfl (isM_o hM) (by decide) (by decide) rfl (Nat.zero_le _) (Nat.zero_le _) hM (fun rc wc qc => ?_)
      rw [qc.1, qc.2]
      refine M.if_eq (tgt := 77) rfl (qI (by have := zb_01 (isCm P); omega)) rfl (fun hc => ?_) (fun hc => ?_)
      · have hcf : isCm P = false := zb_f0 hc
        refine M.run 1 (pc' := 78) (lv' := [some (vr o), some (vi (opnw P))]) (st' := [vi (-1)]) rfl ?_
        exact M.iret rfl (Nat.zero_le _) (Nat.zero_le _) ⟨reI (by unfold prtM; rw [if_neg c40, if_pos c41, if_neg (fun z => by rw [hcf] at z; exact absurd z.2 (by decide))]), rfl⟩
      · have hct : isCm P = true := zb_t hc
        refine M.run 2 (pc' := 78) (lv' := [some (vr o), some (vi (opnw P))]) (st' := [vi 42]) rfl ?_
        exact M.iret rfl (Nat.zero_le _) (Nat.zero_le _) ⟨reI (by unfold prtM; rw [if_neg c40, if_pos c41, if_pos ⟨by omega, hct⟩]), rfl⟩
  by_cases c42 : opnw P = 42
  · refine M.tswIn (tgt := 79) (off := 78) rfl (qI (by omega)) (by omega) (by omega) (by rw [c42]; rfl) (by decide) ?_
    refine M.run 5 (pc' := 88) (lv' := [some (vr o), some (vi (opnw P))]) (st' := [vi 101, vi 115, vi 108, vi 101, vr o]) rfl ?_
    refine M.callS (kX11_w4 l G 101 108 115 101 (by decide) (by decide) (by decide) (by decide)) cs_X11_122 cd_X11_w4 rfl (st := [vr o]) rfl (by decide) (by decide) rfl (Nat.zero_le _) (Nat.zero_le _) trivial (fun rw2 ww2 qw2 => ?_)
    rw [qw2.1, qw2.2]
    refine M.callV (kX11_isWordT l G o am u a b t j hT 12 (((((101 * 256 + 108) * 256 + 115) * 256 + 101) : Nat) : Int) (by decide) (by decide) (by decide)) cv_X11_186 cd_X11_isWord rfl (st := []) rfl (isM_o hM) (by decide) (by decide) rfl (Nat.zero_le _) (Nat.zero_le _) hM (fun rx2 wx2 qx2 => ?_)
    rw [qx2.1, qx2.2]
    refine M.if_eq (tgt := 102) rfl (qI (by have := zb_01 (decide ((gTk (tkL (b 3) t) j).1 = ((12 : Nat) : Int))); omega)) rfl (fun hn => ?_) (fun hz => ?_)
    · skip
      refine M.run 1 (pc' := 103) (lv' := [some (vr o), some (vi (opnw P))]) (st' := [vi (-1)]) rfl ?_
      exact M.iret rfl (Nat.zero_le _) (Nat.zero_le _) ⟨reI (by unfold prtM; rw [if_neg c40, if_neg c41, if_pos c42, if_neg (by have y := zb_fd hn; omega)]), rfl⟩
    · skip
      refine M.run 2 (pc' := 103) (lv' := [some (vr o), some (vi (opnw P))]) (st' := [vi 43]) rfl ?_
      exact M.iret rfl (Nat.zero_le _) (Nat.zero_le _) ⟨reI (by unfold prtM; rw [if_neg c40, if_neg c41, if_pos c42, if_pos (by have y := zb_td hz; omega)]), rfl⟩
  by_cases c43 : opnw P = 43
  · refine M.tswIn (tgt := 104) (off := 103) rfl (qI (by omega)) (by omega) (by omega) (by rw [c43]; rfl) (by decide) ?_
    refine M.run 4 (pc' := 111) (lv' := [some (vr o), some (vi (opnw P))]) (st' := [vi 100, vi 110, vi 101, vr o]) rfl ?_
    refine M.callS (kX11_w3 l G 101 110 100 (by decide) (by decide) (by decide)) cs_X11_118 cd_X11_w3 rfl (st := [vr o]) rfl (by decide) (by decide) rfl (Nat.zero_le _) (Nat.zero_le _) trivial (fun rw3 ww3 qw3 => ?_)
    rw [qw3.1, qw3.2]
    refine M.callV (kX11_isWordT l G o am u a b t j hT 13 ((((101 * 256 + 110) * 256 + 100) : Nat) : Int) (by decide) (by decide) (by decide)) cv_X11_186 cd_X11_isWord rfl (st := []) rfl (isM_o hM) (by decide) (by decide) rfl (Nat.zero_le _) (Nat.zero_le _) hM (fun rx3 wx3 qx3 => ?_)
    rw [qx3.1, qx3.2]
    refine M.if_eq (tgt := 124) rfl (qI (by have := zb_01 (decide ((gTk (tkL (b 3) t) j).1 = ((13 : Nat) : Int))); omega)) rfl (fun hn => ?_) (fun hz => ?_)
    · skip
      refine M.run 1 (pc' := 125) (lv' := [some (vr o), some (vi (opnw P))]) (st' := [vi (-1)]) rfl ?_
      exact M.iret rfl (Nat.zero_le _) (Nat.zero_le _) ⟨reI (by unfold prtM; rw [if_neg c40, if_neg c41, if_neg c42, if_pos c43, if_neg (by have y := zb_fd hn; omega)]), rfl⟩
    · skip
      refine M.run 2 (pc' := 125) (lv' := [some (vr o), some (vi (opnw P))]) (st' := [vi 0]) rfl ?_
      exact M.iret rfl (Nat.zero_le _) (Nat.zero_le _) ⟨reI (by unfold prtM; rw [if_neg c40, if_neg c41, if_neg c42, if_pos c43, if_pos (by have y := zb_td hz; omega)]), rfl⟩
  refine M.tswOut (tgt := 126) rfl (qI (by omega)) (by omega) (by decide) ?_
  refine M.run 1 (pc' := 127) (lv' := [some (vr o), some (vi (opnw P))]) (st' := [vi (-1)]) rfl ?_
  exact M.iret rfl (Nat.zero_le _) (Nat.zero_le _) ⟨reI (by unfold prtM; rw [if_neg c40, if_neg c41, if_neg c42, if_neg c43]), rfl⟩
