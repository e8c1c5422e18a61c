/-! one instruction that touches neither heap nor road -/
def inI (z : Int) : Prop := -2147483648 ≤ z ∧ z ≤ 2147483647
def inL (z : Int) : Prop := -9223372036854775808 ≤ z ∧ z ≤ 9223372036854775807
theorem iI_add (a b : Int) : iI a + iI b = iI (a + b) := (Int32.ofInt_add a b).symm
theorem iI_sub (a b : Int) : iI a - iI b = iI (a - b) := (Int32.ofInt_sub a b).symm
theorem iI_mul (a b : Int) : iI a * iI b = iI (a * b) := (Int32.ofInt_mul a b).symm
theorem iI_neg (a : Int) : -iI a = iI (-a) := (Int32.ofInt_neg a).symm
theorem lI_add (a b : Int) : lI a + lI b = lI (a + b) := (Int64.ofInt_add a b).symm
theorem lI_sub (a b : Int) : lI a - lI b = lI (a - b) := (Int64.ofInt_sub a b).symm
theorem lI_mul (a b : Int) : lI a * lI b = lI (a * b) := (Int64.ofInt_mul a b).symm
theorem lI_neg (a : Int) : -lI a = lI (-a) := (Int64.ofInt_neg a).symm
def pstep (i : Instr) (len pc : Nat) (lv : Lo) (st : List AV) : Option (Nat × Lo × List AV) :=
  match i with
  | .iconst n => bif Nat.beq len 1 then some (pc + 1, lv, vi n :: st) else none
  | .bipush n => bif Nat.beq len 2 && (decide (-128 ≤ n) && decide (n < 128)) then some (pc + 2, lv, vi n :: st) else none
  | .sipush n => bif Nat.beq len 3 && (decide (-32768 ≤ n) && decide (n < 32768)) then some (pc + 3, lv, vi n :: st) else none
  | .lconst n => bif Nat.beq len 1 then some (pc + 1, lv, vl (n.val : Nat) :: st) else none
  | .aconst_null => bif Nat.beq len 1 then some (pc + 1, lv, vn :: st) else none
  | .iload_n k => match lv[k.val]? with
    | some (some (.inl z)) => bif Nat.beq len 1 then some (pc + 1, lv, vi z :: st) else none
    | _ => none
  | .iload k => match lv[k]? with
    | some (some (.inl z)) => bif Nat.beq len 2 then some (pc + 2, lv, vi z :: st) else none
    | _ => none
  | .lload_n k => match lv[k.val]? with
    | some (some (.inr (.inl z))) => bif Nat.beq len 1 then some (pc + 1, lv, vl z :: st) else none
    | _ => none
  | .lload k => match lv[k]? with
    | some (some (.inr (.inl z))) => bif Nat.beq len 2 then some (pc + 2, lv, vl z :: st) else none
    | _ => none
  | .aload_n k => match lv[k.val]? with
    | some (some (.inr (.inr r))) => bif Nat.beq len 1 then some (pc + 1, lv, .inr (.inr r) :: st) else none
    | _ => none
  | .aload k => match lv[k]? with
    | some (some (.inr (.inr r))) => bif Nat.beq len 2 then some (pc + 2, lv, .inr (.inr r) :: st) else none
    | _ => none
  | .istore_n k => match st with
    | .inl z :: r => bif Nat.beq len 1 && Nat.blt k.val lv.length then some (pc + 1, sto lv k.val (vi z), r) else none
    | _ => none
  | .istore k => match st with
    | .inl z :: r => bif Nat.beq len 2 && Nat.blt k lv.length then some (pc + 2, sto lv k (vi z), r) else none
    | _ => none
  | .lstore_n k => match st with
    | .inr (.inl z) :: r => bif Nat.beq len 1 && Nat.blt (k.val + 1) lv.length then some (pc + 1, stl lv k.val (vl z), r) else none
    | _ => none
  | .lstore k => match st with
    | .inr (.inl z) :: r => bif Nat.beq len 2 && Nat.blt (k + 1) lv.length then some (pc + 2, stl lv k (vl z), r) else none
    | _ => none
  | .astore_n k => match st with
    | .inr (.inr (some a)) :: r => bif Nat.beq len 1 && Nat.blt k.val lv.length then some (pc + 1, sto lv k.val (vr a), r) else none
    | .inr (.inr none) :: r => bif Nat.beq len 1 && Nat.blt k.val lv.length then some (pc + 1, sto lv k.val vn, r) else none
    | _ => none
  | .astore k => match st with
    | .inr (.inr (some a)) :: r => bif Nat.beq len 2 && Nat.blt k lv.length then some (pc + 2, sto lv k (vr a), r) else none
    | .inr (.inr none) :: r => bif Nat.beq len 2 && Nat.blt k lv.length then some (pc + 2, sto lv k vn, r) else none
    | _ => none
  | .iinc k n => match lv[k]? with
    | some (some (.inl z)) => bif Nat.beq len 3 then some (pc + 3, sto lv k (vi (z + n)), st) else none
    | _ => none
  | .iadd => match st with
    | .inl y :: .inl x :: r => bif Nat.beq len 1 then some (pc + 1, lv, vi (x + y) :: r) else none
    | _ => none
  | .isub => match st with
    | .inl y :: .inl x :: r => bif Nat.beq len 1 then some (pc + 1, lv, vi (x - y) :: r) else none
    | _ => none
  | .imul => match st with
    | .inl y :: .inl x :: r => bif Nat.beq len 1 then some (pc + 1, lv, vi (x * y) :: r) else none
    | _ => none
  | .ineg => match st with
    | .inl x :: r => bif Nat.beq len 1 then some (pc + 1, lv, vi (-x) :: r) else none
    | _ => none
  | .ladd => match st with
    | .inr (.inl y) :: .inr (.inl x) :: r => bif Nat.beq len 1 then some (pc + 1, lv, vl (x + y) :: r) else none
    | _ => none
  | .lsub => match st with
    | .inr (.inl y) :: .inr (.inl x) :: r => bif Nat.beq len 1 then some (pc + 1, lv, vl (x - y) :: r) else none
    | _ => none
  | .lmul => match st with
    | .inr (.inl y) :: .inr (.inl x) :: r => bif Nat.beq len 1 then some (pc + 1, lv, vl (x * y) :: r) else none
    | _ => none
  | .lneg => match st with
    | .inr (.inl x) :: r => bif Nat.beq len 1 then some (pc + 1, lv, vl (-x) :: r) else none
    | _ => none
  | .l2i => match st with
    | .inr (.inl x) :: r => bif Nat.beq len 1 then some (pc + 1, lv, vi x :: r) else none
    | _ => none
  | .dup => match st with
    | x :: r => bif Nat.beq len 1 && !isL x then some (pc + 1, lv, x :: x :: r) else none
    | _ => none
  | .pop => match st with
    | x :: r => bif Nat.beq len 1 && !isL x then some (pc + 1, lv, r) else none
    | _ => none
  | .dup_x1 => match st with
    | x :: y :: r => bif Nat.beq len 1 && (!isL x && !isL y) then some (pc + 1, lv, x :: y :: x :: r) else none
    | _ => none
  | .dup_x2 => match st with
    | x :: y :: z :: r => bif Nat.beq len 1 && (!isL x && (!isL y && !isL z)) then some (pc + 1, lv, x :: y :: z :: x :: r) else none
    | _ => none
  | .dup2 => match st with
    | x :: y :: r => bif Nat.beq len 1 && (!isL x && !isL y) then some (pc + 1, lv, x :: y :: x :: y :: r) else none
    | _ => none
  | .goto off => bif Nat.beq len 3 && decide (0 ≤ (pc : Int) + off) then some (((pc : Int) + off).toNat, lv, st) else none
  | _ => none
/-- that many instructions that touch neither heap nor road -/
def prun (t : Tab) : Nat → Nat → Lo → List AV → Option (Nat × Lo × List AV)
  | 0, pc, lv, st => some (pc, lv, st)
  | n + 1, pc, lv, st => match qlk t pc with
    | none => none
    | some (i, len) => match pstep i len pc lv st with
      | none => none
      | some (pc', lv', st') => prun t n pc' lv' st'
section QPURE
variable {p : Program} {l : Launch} {e : Env} {R : Room} {s : State} {m : MethodId} {args : Array Value} {below : List Frame} {meth : Method} {c : Code} {H : Heap} {locs : List Loc} {cells slots : Nat} {Q : State → Prop}
variable {cc : ByteArray} {pc : Nat} {ls : Array Slot} {nL : Nat} {lv lv' : Lo} {st st' : List AV}
theorem bif_ok {α : Type} {b : Bool} {x y : α} (h : (bif b then some x else none) = some y) : b = true ∧ x = y := by
  cases b with
  | true => exact ⟨rfl, Option.some.inj h⟩
  | false => cases h
theorem iI_b {n : Int} (h1 : -128 ≤ n) (h2 : n < 128) : (Int8.ofInt n).toInt32 = iI n := by
  apply Int32.toInt.inj
  rw [Int8.toInt_toInt32, Int8.toInt_ofInt_of_le (by omega) (by omega)]
  unfold iI
  rw [Int32.toInt_ofInt_of_le (by omega) (by omega)]
theorem iI_s {n : Int} (h1 : -32768 ≤ n) (h2 : n < 32768) : (Int16.ofInt n).toInt32 = iI n := by
  apply Int32.toInt.inj
  rw [Int16.toInt_toInt32, Int16.toInt_ofInt_of_le (by omega) (by omega)]
  unfold iI
  rw [Int32.toInt_ofInt_of_le (by omega) (by omega)]
theorem qand {a b : Bool} (h : (a && b) = true) : a = true ∧ b = true := by rwa [Bool.and_eq_true] at h
theorem qcat1 {v : AV} (h : (!isL v) = true) : (qv v).category = 1 := by
  rw [qv_cat]
  cases hL : isL v with
  | true => rw [hL] at h; cases h
  | false => rfl
theorem Lh_stl {ls ls' : Array Slot} {i : Nat} {v : AV} (h : Lh nL ls lv) (hl : lv_has ls' nL ((i, qv v) :: (qp 0 lv).filter (fun q => !(q.1 == i) && (!(q.1 == i + 1) && !(q.1 + 1 == i && q.2.category == 2))))) (hi : i + 1 < nL) : Lh nL ls' (stl lv i v) := by
  refine ⟨by unfold stl; rw [List.length_set, List.length_set, clr_len]; exact h.1, hl.1, hl.2.1, fun q hq => hl.2.2 q ?_⟩
  obtain ⟨j, u, h1, rfl⟩ := (qp_mem _ 0 q).mp hq
  unfold stl at h1
  by_cases hij2 : i + 1 = j
  · subst hij2
    rw [List.getElem?_set_self (by rw [List.length_set, clr_len, h.1]; exact hi)] at h1
    cases h1
  rw [List.getElem?_set_ne hij2] at h1
  by_cases hij : i = j
  · subst hij
    rw [List.getElem?_set_self (by rw [clr_len, h.1]; omega)] at h1
    cases h1
    simp
  · rw [List.getElem?_set_ne hij] at h1
    obtain ⟨g1, g2⟩ := clr_get h1
    refine List.mem_cons_of_mem _ (List.mem_filter.mpr ⟨(qp_mem lv 0 _).mpr ⟨j, u, g1, rfl⟩, ?_⟩)
    have hc := qv_cat u
    simp only [Nat.zero_add]
    by_cases hL : isL u = true
    · rw [if_pos hL] at hc
      rw [hc]
      have : ¬ j + 1 = i := fun z => g2 ⟨z, hL⟩
      simp [this]
      omega
    · rw [if_neg hL] at hc
      rw [hc]
      simp
      omega
set_option maxHeartbeats 4000000 in
theorem pstep_ok (hx : p.tables.exec = Jvm.exec) (hb : c.code = cc) {i : Instr} {len pc' : Nat} (hd : decode cc pc = .ok (i, len)) (hl : Lh nL ls lv) (hp : pstep i len pc lv st = some (pc', lv', st')) (kk : ∀ ls' : Array Slot, Lh nL ls' lv' → W p l e R s m args below meth c H locs cells slots Q (F0 m pc' ls' (st'.map qv))) : W p l e R s m args below meth c H locs cells slots Q (F0 m pc ls (st.map qv)) := by
  cases i <;> simp only [pstep] at hp <;> first | (cases hp; done) | skip
  case iconst n =>
    obtain ⟨h1, h2⟩ := bif_ok hp
    cases h2
    have h3 := Nat.eq_of_beq_eq_true h1
    subst h3
    exact lv_iconst hx hb hd rfl (kk ls hl)
  case bipush n =>
    obtain ⟨h1, h2⟩ := bif_ok hp
    cases h2
    obtain ⟨ha, hc⟩ := qand h1
    have h3 := Nat.eq_of_beq_eq_true ha
    subst h3
    obtain ⟨g1, g2⟩ := qand hc
    exact lv_bipush hx hb hd (iI_b (of_decide_eq_true g1) (of_decide_eq_true g2)) (kk ls hl)
  case sipush n =>
    obtain ⟨h1, h2⟩ := bif_ok hp
    cases h2
    obtain ⟨ha, hc⟩ := qand h1
    have h3 := Nat.eq_of_beq_eq_true ha
    subst h3
    obtain ⟨g1, g2⟩ := qand hc
    exact lv_sipush hx hb hd (iI_s (of_decide_eq_true g1) (of_decide_eq_true g2)) (kk ls hl)
  case lconst n =>
    obtain ⟨h1, h2⟩ := bif_ok hp
    cases h2
    have h3 := Nat.eq_of_beq_eq_true h1
    subst h3
    exact lv_lconst hx hb hd (Int64.ofInt_eq_ofNat.symm) (kk ls hl)
  case aconst_null =>
    obtain ⟨h1, h2⟩ := bif_ok hp
    cases h2
    have h3 := Nat.eq_of_beq_eq_true h1
    subst h3
    exact lv_null hx hb hd (kk ls hl)
  case iload_n k =>
    split at hp
    · rename_i z hz
      obtain ⟨h1, h2⟩ := bif_ok hp
      cases h2
      have h3 := Nat.eq_of_beq_eq_true h1
      subst h3
      exact lv_iload_n hx hb hd rfl (Lh_at hl hz) (kk ls hl)
    · cases hp
  case iload k =>
    split at hp
    · rename_i z hz
      obtain ⟨h1, h2⟩ := bif_ok hp
      cases h2
      have h3 := Nat.eq_of_beq_eq_true h1
      subst h3
      exact lv_iload hx hb hd (Lh_at hl hz) (kk ls hl)
    · cases hp
  case lload_n k =>
    split at hp
    · rename_i z hz
      obtain ⟨h1, h2⟩ := bif_ok hp
      cases h2
      have h3 := Nat.eq_of_beq_eq_true h1
      subst h3
      exact lv_lload_n hx hb hd rfl (Lh_at hl hz) (kk ls hl)
    · cases hp
  case lload k =>
    split at hp
    · rename_i z hz
      obtain ⟨h1, h2⟩ := bif_ok hp
      cases h2
      have h3 := Nat.eq_of_beq_eq_true h1
      subst h3
      exact lv_lload hx hb hd (Lh_at hl hz) (kk ls hl)
    · cases hp
  case aload_n k =>
    split at hp
    · rename_i z hz
      obtain ⟨h1, h2⟩ := bif_ok hp
      cases h2
      have h3 := Nat.eq_of_beq_eq_true h1
      subst h3
      cases z with
      | none => exact lv_aload_nN hx hb hd rfl (Lh_at hl hz) (kk ls hl)
      | some a => exact lv_aload_n hx hb hd rfl (Lh_at hl hz) (kk ls hl)
    · cases hp
  case aload k =>
    split at hp
    · rename_i z hz
      obtain ⟨h1, h2⟩ := bif_ok hp
      cases h2
      have h3 := Nat.eq_of_beq_eq_true h1
      subst h3
      cases z with
      | none => exact lv_aloadN hx hb hd (Lh_at hl hz) (kk ls hl)
      | some a => exact lv_aload hx hb hd (Lh_at hl hz) (kk ls hl)
    · cases hp
  case istore_n k =>
    split at hp
    · obtain ⟨h1, h2⟩ := bif_ok hp
      cases h2
      obtain ⟨ha, hc⟩ := qand h1
      have h3 := Nat.eq_of_beq_eq_true ha
      subst h3
      have hlt : k.val < nL := by rw [← hl.1]; exact Nat.le_of_ble_eq_true hc
      exact lv_istore_n hx hb hd rfl hl.2 hlt rfl (fun ls' h' => kk ls' (Lh_sto hl h' hlt))
    · cases hp
  case istore k =>
    split at hp
    · obtain ⟨h1, h2⟩ := bif_ok hp
      cases h2
      obtain ⟨ha, hc⟩ := qand h1
      have h3 := Nat.eq_of_beq_eq_true ha
      subst h3
      have hlt : k < nL := by rw [← hl.1]; exact Nat.le_of_ble_eq_true hc
      exact lv_istore hx hb hd hl.2 hlt rfl (fun ls' h' => kk ls' (Lh_sto hl h' hlt))
    · cases hp
  case lstore_n k =>
    split at hp
    · obtain ⟨h1, h2⟩ := bif_ok hp
      cases h2
      obtain ⟨ha, hc⟩ := qand h1
      have h3 := Nat.eq_of_beq_eq_true ha
      subst h3
      have hlt : k.val + 1 < nL := by rw [← hl.1]; exact Nat.le_of_ble_eq_true hc
      exact lv_lstore_n hx hb hd rfl hl.2 hlt rfl (fun ls' h' => kk ls' (Lh_stl hl h' hlt))
    · cases hp
  case lstore k =>
    split at hp
    · obtain ⟨h1, h2⟩ := bif_ok hp
      cases h2
      obtain ⟨ha, hc⟩ := qand h1
      have h3 := Nat.eq_of_beq_eq_true ha
      subst h3
      have hlt : k + 1 < nL := by rw [← hl.1]; exact Nat.le_of_ble_eq_true hc
      exact lv_lstore hx hb hd hl.2 hlt rfl (fun ls' h' => kk ls' (Lh_stl hl h' hlt))
    · cases hp
  case astore_n k =>
    split at hp
    · obtain ⟨h1, h2⟩ := bif_ok hp
      cases h2
      obtain ⟨ha, hc⟩ := qand h1
      have h3 := Nat.eq_of_beq_eq_true ha
      subst h3
      have hlt : k.val < nL := by rw [← hl.1]; exact Nat.le_of_ble_eq_true hc
      exact lv_astore_n hx hb hd rfl hl.2 hlt rfl (fun ls' h' => kk ls' (Lh_sto hl h' hlt))
    · obtain ⟨h1, h2⟩ := bif_ok hp
      cases h2
      obtain ⟨ha, hc⟩ := qand h1
      have h3 := Nat.eq_of_beq_eq_true ha
      subst h3
      have hlt : k.val < nL := by rw [← hl.1]; exact Nat.le_of_ble_eq_true hc
      exact lv_astore_nN hx hb hd rfl hl.2 hlt rfl (fun ls' h' => kk ls' (Lh_sto hl h' hlt))
    · cases hp
  case astore k =>
    split at hp
    · obtain ⟨h1, h2⟩ := bif_ok hp
      cases h2
      obtain ⟨ha, hc⟩ := qand h1
      have h3 := Nat.eq_of_beq_eq_true ha
      subst h3
      have hlt : k < nL := by rw [← hl.1]; exact Nat.le_of_ble_eq_true hc
      exact lv_astore hx hb hd hl.2 hlt rfl (fun ls' h' => kk ls' (Lh_sto hl h' hlt))
    · obtain ⟨h1, h2⟩ := bif_ok hp
      cases h2
      obtain ⟨ha, hc⟩ := qand h1
      have h3 := Nat.eq_of_beq_eq_true ha
      subst h3
      have hlt : k < nL := by rw [← hl.1]; exact Nat.le_of_ble_eq_true hc
      exact lv_astoreN hx hb hd hl.2 hlt rfl (fun ls' h' => kk ls' (Lh_sto hl h' hlt))
    · cases hp
  case iinc k n =>
    split at hp
    · rename_i z hz
      obtain ⟨h1, h2⟩ := bif_ok hp
      cases h2
      have h3 := Nat.eq_of_beq_eq_true h1
      subst h3
      have hlt : k < nL := by rw [← hl.1]; exact (List.getElem?_eq_some_iff.mp hz).1
      obtain ⟨j, hj⟩ := List.getElem?_of_mem ((qp_mem lv 0 (k, qv (vi z))).mpr ⟨k, vi z, hz, by simp⟩)
      exact lv_iinc hx hb hd hl.2 hj (iI_add z n) hlt rfl (fun ls' h' => kk ls' (Lh_sto hl h' hlt))
    · cases hp
  case iadd =>
    split at hp
    · obtain ⟨h1, h2⟩ := bif_ok hp
      cases h2
      have h3 := Nat.eq_of_beq_eq_true h1
      subst h3
      have k2 := kk ls hl
      refine lv_iadd hx hb hd ?_
      rw [iI_add]
      exact k2
    · cases hp
  case isub =>
    split at hp
    · obtain ⟨h1, h2⟩ := bif_ok hp
      cases h2
      have h3 := Nat.eq_of_beq_eq_true h1
      subst h3
      have k2 := kk ls hl
      refine lv_isub hx hb hd ?_
      rw [iI_sub]
      exact k2
    · cases hp
  case imul =>
    split at hp
    · obtain ⟨h1, h2⟩ := bif_ok hp
      cases h2
      have h3 := Nat.eq_of_beq_eq_true h1
      subst h3
      have k2 := kk ls hl
      refine lv_imul hx hb hd ?_
      rw [iI_mul]
      exact k2
    · cases hp
  case ineg =>
    split at hp
    · obtain ⟨h1, h2⟩ := bif_ok hp
      cases h2
      have h3 := Nat.eq_of_beq_eq_true h1
      subst h3
      have k2 := kk ls hl
      refine lv_ineg hx hb hd ?_
      rw [iI_neg]
      exact k2
    · cases hp
  case ladd =>
    split at hp
    · obtain ⟨h1, h2⟩ := bif_ok hp
      cases h2
      have h3 := Nat.eq_of_beq_eq_true h1
      subst h3
      have k2 := kk ls hl
      refine lv_ladd hx hb hd ?_
      rw [lI_add]
      exact k2
    · cases hp
  case lsub =>
    split at hp
    · obtain ⟨h1, h2⟩ := bif_ok hp
      cases h2
      have h3 := Nat.eq_of_beq_eq_true h1
      subst h3
      have k2 := kk ls hl
      refine lv_lsub hx hb hd ?_
      rw [lI_sub]
      exact k2
    · cases hp
  case lmul =>
    split at hp
    · obtain ⟨h1, h2⟩ := bif_ok hp
      cases h2
      have h3 := Nat.eq_of_beq_eq_true h1
      subst h3
      have k2 := kk ls hl
      refine lv_lmul hx hb hd ?_
      rw [lI_mul]
      exact k2
    · cases hp
  case lneg =>
    split at hp
    · obtain ⟨h1, h2⟩ := bif_ok hp
      cases h2
      have h3 := Nat.eq_of_beq_eq_true h1
      subst h3
      have k2 := kk ls hl
      refine lv_lneg hx hb hd ?_
      rw [lI_neg]
      exact k2
    · cases hp
  case l2i =>
    split at hp
    · obtain ⟨h1, h2⟩ := bif_ok hp
      cases h2
      have h3 := Nat.eq_of_beq_eq_true h1
      subst h3
      exact lv_l2i hx hb hd Int64.toInt32_ofInt (kk ls hl)
    · cases hp
  case dup =>
    split at hp
    · obtain ⟨h1, h2⟩ := bif_ok hp
      cases h2
      obtain ⟨ha, hc⟩ := qand h1
      have h3 := Nat.eq_of_beq_eq_true ha
      subst h3
      exact lv_dup hx hb hd (qcat1 hc) (kk ls hl)
    · cases hp
  case pop =>
    split at hp
    · obtain ⟨h1, h2⟩ := bif_ok hp
      cases h2
      obtain ⟨ha, hc⟩ := qand h1
      have h3 := Nat.eq_of_beq_eq_true ha
      subst h3
      exact lv_pop hx hb hd (qcat1 hc) (kk ls hl)
    · cases hp
  case dup_x1 =>
    split at hp
    · obtain ⟨h1, h2⟩ := bif_ok hp
      cases h2
      obtain ⟨ha, hc⟩ := qand h1
      have h3 := Nat.eq_of_beq_eq_true ha
      subst h3
      obtain ⟨g1, g2⟩ := qand hc
      exact lv_dup_x1 hx hb hd (qcat1 g1) (qcat1 g2) (kk ls hl)
    · cases hp
  case dup2 =>
    split at hp
    · obtain ⟨h1, h2⟩ := bif_ok hp
      cases h2
      obtain ⟨ha, hc⟩ := qand h1
      have h3 := Nat.eq_of_beq_eq_true ha
      subst h3
      obtain ⟨g1, g2⟩ := qand hc
      exact lv_dup2_11 hx hb hd (qcat1 g1) (qcat1 g2) (kk ls hl)
    · cases hp
  case dup_x2 =>
    split at hp
    · obtain ⟨h1, h2⟩ := bif_ok hp
      cases h2
      obtain ⟨ha, hc⟩ := qand h1
      have h3 := Nat.eq_of_beq_eq_true ha
      subst h3
      obtain ⟨g1, g0⟩ := qand hc
      obtain ⟨g2, g3⟩ := qand g0
      exact lv_dup_x2 hx hb hd (qcat1 g1) (qcat1 g2) (qcat1 g3) (kk ls hl)
    · cases hp
  case goto off =>
    obtain ⟨h1, h2⟩ := bif_ok hp
    cases h2
    obtain ⟨ha, hc⟩ := qand h1
    have h3 := Nat.eq_of_beq_eq_true ha
    subst h3
    have hz := of_decide_eq_true hc
    exact lv_goto hx hb hd (Int.toNat_of_nonneg hz).symm (kk ls hl)
theorem prun_ok {t : Tab} (hx : p.tables.exec = Jvm.exec) (hb : c.code = cc) (ht : t.all (fun q => decide (decode cc q.1 = .ok q.2)) = true) : ∀ (n : Nat) {pc pc' : Nat} {lv lv' : Lo} {st st' : List AV} {ls : Array Slot}, prun t n pc lv st = some (pc', lv', st') → Lh nL ls lv → (∀ ls' : Array Slot, Lh nL ls' lv' → W p l e R s m args below meth c H locs cells slots Q (F0 m pc' ls' (st'.map qv))) → W p l e R s m args below meth c H locs cells slots Q (F0 m pc ls (st.map qv))
  | 0, _, _, _, _, _, _, ls, hr, hl, kk => by cases hr; exact kk ls hl
  | n + 1, pc, _, lv, _, st, _, ls, hr, hl, kk => by
    unfold prun at hr
    split at hr
    · cases hr
    · rename_i i len hq
      split at hr
      · cases hr
      · rename_i pc1 lv1 st1 hs
        have hdec : decode cc pc = .ok (i, len) := by
          have h1 := List.all_eq_true.mp ht _ (qlk_mem t hq)
          exact of_decide_eq_true h1
        exact pstep_ok hx hb hdec hl hs (fun ls1 h1 => prun_ok hx hb ht n hr h1 kk)
end QPURE
