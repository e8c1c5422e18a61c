/-! the law: its loop -/
def pcL (v : Nat) : Nat := ([276, 309, 352, 375, 398, 421, 484, 507, 520, 543, 566, 589, 622, 645, 668, 701, 714, 747, 806, 865, 924, 967, 1000, 1033, 1056, 1079, 1102, 1135, 1178, 1201, 1224, 1247, 1270, 1329, 1372, 1395, 1454, 1487, 1520, 1543, 1566, 1579, 1602, 1652, 1675, 1688, 1701, 1734, 1747, 1780, 1823, 1836, 1849, 1862, 1885, 1898, 1911] : List Nat).getD v 0
theorem law_all (l : Launch) (G : GT) : ∀ v : Nat, v < 57 → LSt l G (pcL v) := fun v hv => by
  match v, hv with
  | 0, _ => exact law_0 l G
  | 1, _ => exact law_1 l G
  | 2, _ => exact law_2 l G
  | 3, _ => exact law_3 l G
  | 4, _ => exact law_4 l G
  | 5, _ => exact law_5 l G
  | 6, _ => exact law_6 l G
  | 7, _ => exact law_7 l G
  | 8, _ => exact law_8 l G
  | 9, _ => exact law_9 l G
  | 10, _ => exact law_10 l G
  | 11, _ => exact law_11 l G
  | 12, _ => exact law_12 l G
  | 13, _ => exact law_13 l G
  | 14, _ => exact law_14 l G
  | 15, _ => exact law_15 l G
  | 16, _ => exact law_16 l G
  | 17, _ => exact law_17 l G
  | 18, _ => exact law_18 l G
  | 19, _ => exact law_19 l G
  | 20, _ => exact law_20 l G
  | 21, _ => exact law_21 l G
  | 22, _ => exact law_22 l G
  | 23, _ => exact law_23 l G
  | 24, _ => exact law_24 l G
  | 25, _ => exact law_25 l G
  | 26, _ => exact law_26 l G
  | 27, _ => exact law_27 l G
  | 28, _ => exact law_28 l G
  | 29, _ => exact law_29 l G
  | 30, _ => exact law_30 l G
  | 31, _ => exact law_31 l G
  | 32, _ => exact law_32 l G
  | 33, _ => exact law_33 l G
  | 34, _ => exact law_34 l G
  | 35, _ => exact law_35 l G
  | 36, _ => exact law_36 l G
  | 37, _ => exact law_37 l G
  | 38, _ => exact law_38 l G
  | 39, _ => exact law_39 l G
  | 40, _ => exact law_40 l G
  | 41, _ => exact law_41 l G
  | 42, _ => exact law_42 l G
  | 43, _ => exact law_43 l G
  | 44, _ => exact law_44 l G
  | 45, _ => exact law_45 l G
  | 46, _ => exact law_46 l G
  | 47, _ => exact law_47 l G
  | 48, _ => exact law_48 l G
  | 49, _ => exact law_49 l G
  | 50, _ => exact law_50 l G
  | 51, _ => exact law_51 l G
  | 52, _ => exact law_52 l G
  | 53, _ => exact law_53 l G
  | 54, _ => exact law_54 l G
  | 55, _ => exact law_55 l G
  | 56, _ => exact law_56 l G
  | n + 57, h => exact absurd h (by omega)
def tL_18 : List (Nat × Instr × Nat) := [(18, .iload_n 3, 1), (19, .aload_n 0, 1), (20, .arraylength, 1), (21, .bipush 6, 2), (23, .isub, 1), (24, .if_icmp .gt 1916, 3), (27, .aload_n 0, 1), (28, .iload_n 3, 1), (29, .iaload, 1), (30, .bipush 63, 2), (32, .iand, 1), (33, .tableswitch 1901 0 56 #[243, 276, 319, 342, 365, 388, 451, 474, 487, 510, 533, 556, 589, 612, 635, 668, 681, 714, 773, 832, 891, 934, 967, 1000, 1023, 1046, 1069, 1102, 1145, 1168, 1191, 1214, 1237, 1296, 1339, 1362, 1421, 1454, 1487, 1510, 1533, 1546, 1569, 1619, 1642, 1655, 1668, 1701, 1714, 1747, 1790, 1803, 1816, 1829, 1852, 1865, 1878], 243), (1934, .iinc 3 6, 3), (1937, .goto (-1919), 3), (1940, .iconst 1, 1), (1941, .ireturn, 1)]
set_option maxRecDepth 100000 in
theorem tL_18_ok : tL_18.all (fun q => decide (decode cL_law q.1 = .ok q.2)) = true := by decide +kernel
theorem pcL_off : ∀ v : Nat, v < 57 → (#[243, 276, 319, 342, 365, 388, 451, 474, 487, 510, 533, 556, 589, 612, 635, 668, 681, 714, 773, 832, 891, 934, 967, 1000, 1023, 1046, 1069, 1102, 1145, 1168, 1191, 1214, 1237, 1296, 1339, 1362, 1421, 1454, 1487, 1510, 1533, 1546, 1569, 1619, 1642, 1655, 1668, 1701, 1714, 1747, 1790, 1803, 1816, 1829, 1852, 1865, 1878] : Array Int)[v]? = some (((pcL v : Nat) : Int) - 33) := by decide +kernel
abbrev Q1 : Option AV → Wo → Prop := fun r _ => r = some (vi 1)
set_option maxHeartbeats 4000000 in
set_option maxRecDepth 100000 in
theorem law_go (l : Launch) (G : GT) {nm ds : String} {sz sb Ln : Nat} {xs : Nat → Int32} {g : gF} {kb o : Nat} (MX : MachX l G ⟨RL, nm, ds⟩ cL_law tL_18 4 (some .boolean) 1312 600000 7302250 Q1 sz sb Ln xs g) (hL : Ln ≤ 3072) (hkb : kb ≤ gB G) : ∀ (r j : Nat) (wc wm : Wo), r + j = 512 → LI G kb o (100000 * ((j : Nat) : Int)) wc wm → g (860 + 5 * j) (130000 + 1881 * j) (wc ++ wm) 18 [some (vr sb), some (vr kb), some (vr o), some (vi ((6 * j : Nat) : Int))] [] := by
  have M := MX.S.M
  have fin : ∀ (j : Nat) (w : Wo), j ≤ 512 → g (860 + 5 * j) (130000 + 1881 * j) w 1940 [some (vr sb), some (vr kb), some (vr o), some (vi ((6 * j : Nat) : Int))] [] := fun j w hj => by
    refine M.run 1 (pc' := 1941) (lv' := [some (vr sb), some (vr kb), some (vr o), some (vi ((6 * j : Nat) : Int))]) (st' := [vi 1]) rfl ?_
    exact M.zret rfl (Or.inr rfl) (by omega) (by omega) rfl
  have top : ∀ (j : Nat) (w : Wo), j ≤ 512 → (6 * j + 6 ≤ Ln → g (860 + 5 * j) (130000 + 1881 * j) w 27 [some (vr sb), some (vr kb), some (vr o), some (vi ((6 * j : Nat) : Int))] []) → g (860 + 5 * j) (130000 + 1881 * j) w 18 [some (vr sb), some (vr kb), some (vr o), some (vi ((6 * j : Nat) : Int))] [] := fun j w hj hk => by
    refine M.run 2 (pc' := 20) (lv' := [some (vr sb), some (vr kb), some (vr o), some (vi ((6 * j : Nat) : Int))]) (st' := [vr sb, vi ((6 * j : Nat) : Int)]) rfl ?_
    refine MX.slen rfl ?_
    refine M.run 2 (pc' := 24) (lv' := [some (vr sb), some (vr kb), some (vr o), some (vi ((6 * j : Nat) : Int))]) (st' := [vi (((Ln : Nat) : Int) - 6), vi ((6 * j : Nat) : Int)]) rfl ?_
    refine M.icmp_gt (tgt := 1940) rfl (qI (by omega)) (qI (by omega)) rfl (fun _ => fin j w hj) (fun h3 => hk (by omega))
  intro r
  induction r with
  | zero =>
    intro j wc wm hr hI
    exact top j _ (by omega) (fun h => absurd h (by omega))
  | succ r ih =>
    intro j wc wm hr hI
    refine top j _ (by omega) (fun hi => ?_)
    have nxt : ∀ wc' wm' : Wo, LI G kb o (100000 * ((j : Nat) : Int) + 100000) wc' wm' → g (860 + 5 * j + 5) (130000 + 1881 * j + 1881) (wc' ++ wm') 1934 [some (vr sb), some (vr kb), some (vr o), some (vi ((6 * j : Nat) : Int))] [] := fun wc' wm' h => by
      refine M.run 2 (pc' := 18) (lv' := [some (vr sb), some (vr kb), some (vr o), some (vi ((6 * (j + 1) : Nat) : Int))]) (st' := []) rfl ?_
      have h2 := ih (j + 1) wc' wm' (by omega) (by rw [show 100000 * ((j + 1 : Nat) : Int) = 100000 * ((j : Nat) : Int) + 100000 by omega]; exact h)
      rw [show 860 + 5 * (j + 1) = 860 + 5 * j + 5 by omega, show 130000 + 1881 * (j + 1) = 130000 + 1881 * j + 1881 by omega] at h2
      exact h2
    refine M.run 2 (pc' := 29) (lv' := [some (vr sb), some (vr kb), some (vr o), some (vi ((6 * j : Nat) : Int))]) (st' := [vi ((6 * j : Nat) : Int), vr sb]) rfl ?_
    refine MX.sld (6 * j) rfl (by omega) hL ?_
    refine M.run 1 (pc' := 32) (lv' := [some (vr sb), some (vr kb), some (vr o), some (vi ((6 * j : Nat) : Int))]) (st' := [vi 63, vi (xs (6 * j)).toInt]) rfl ?_
    refine M.iand63 rfl ?_
    have hv0 : 0 ≤ (xs (6 * j)).toInt % 64 ∧ (xs (6 * j)).toInt % 64 < 64 := by omega
    generalize (xs (6 * j)).toInt % 64 = v at hv0 ⊢
    by_cases hv : v ≤ 56
    · have hof := pcL_off v.toNat (by omega)
      refine M.tswIn (tgt := pcL v.toNat) rfl (qI (by omega)) (by omega) (by omega) (show _ = some (((pcL v.toNat : Nat) : Int) - 33) from by rw [show (v - 0).toNat = v.toNat by omega]; exact hof) (by omega) ?_
      exact law_all l G v.toNat (by omega) nm ds tL_18 Q1 sz sb Ln xs g kb o _ wc wm _ _ (6 * j) MX hL hi (by omega) hI (by omega) (by omega) hkb nxt
    · refine M.tswOut (tgt := 1934) rfl (qI (by omega)) (Or.inr (by omega)) rfl ?_
      obtain ⟨tl, fx, fx2, X, D, L, tl2, D2, L2, t, u, b0, hC⟩ := hI
      exact M.wid (by omega) (by omega) (nxt wc wm (LI_A hC))
