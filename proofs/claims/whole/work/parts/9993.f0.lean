/-! a contract beside other cells -/
theorem va_D_app {A : Nat → Prop} {a b : va_W} : va_D A (a ++ b) ↔ va_D A a ∧ va_D A b ∧ ∀ p ∈ a, ∀ q ∈ b, p.1 ≠ q.1 := by
  constructor
  · intro h
    have ea : ∀ (i : Nat) (p : Nat × va_E), a[i]? = some p → (a ++ b)[i]? = some p := fun i p hi => by rw [List.getElem?_append_left (List.getElem?_eq_some_iff.mp hi).1]; exact hi
    have eb : ∀ (i : Nat) (p : Nat × va_E), b[i]? = some p → (a ++ b)[a.length + i]? = some p := fun i p hi => by rw [List.getElem?_append_right (by omega), Nat.add_sub_cancel_left]; exact hi
    refine ⟨⟨fun i j p q hi hj e => h.1 i j p q (ea i p hi) (ea j q hj) e, fun i q hi => h.2 i q (ea i q hi)⟩, ⟨fun i j p q hi hj e => by have := h.1 _ _ p q (eb i p hi) (eb j q hj) e; omega, fun i q hi => h.2 _ q (eb i q hi)⟩, fun p hp q hq e => ?_⟩
    obtain ⟨i, hi⟩ := List.getElem?_of_mem hp
    obtain ⟨j, hj⟩ := List.getElem?_of_mem hq
    have h1 := h.1 _ _ p q (ea i p hi) (eb j q hj) e
    have h2 := (List.getElem?_eq_some_iff.mp hi).1
    omega
  · intro ⟨h1, h2, h3⟩
    have key : ∀ (i : Nat) (p : Nat × va_E), (a ++ b)[i]? = some p → (i < a.length ∧ a[i]? = some p) ∨ (a.length ≤ i ∧ b[i - a.length]? = some p) := fun i p hi => by
      by_cases hl : i < a.length
      · rw [List.getElem?_append_left hl] at hi
        exact Or.inl ⟨hl, hi⟩
      · rw [List.getElem?_append_right (by omega)] at hi
        exact Or.inr ⟨by omega, hi⟩
    refine ⟨fun i j p q hi hj e => ?_, fun i q hi => ?_⟩
    · rcases key i p hi with ⟨k1, k2⟩ | ⟨k1, k2⟩ <;> rcases key j q hj with ⟨k3, k4⟩ | ⟨k3, k4⟩
      · exact h1.1 i j p q k2 k4 e
      · exact absurd e (h3 p (List.mem_of_getElem? k2) q (List.mem_of_getElem? k4))
      · exact absurd e.symm (h3 q (List.mem_of_getElem? k4) p (List.mem_of_getElem? k2))
      · have := h2.1 _ _ p q k2 k4 e
        omega
    · rcases key i q hi with ⟨k1, k2⟩ | ⟨k1, k2⟩
      · exact h1.2 i q k2
      · exact h2.2 _ q k2
theorem va_D_swap {A : Nat → Prop} {a b : va_W} (h : va_D A (a ++ b)) : va_D A (b ++ a) := by
  obtain ⟨h1, h2, h3⟩ := va_D_app.mp h
  exact va_D_app.mpr ⟨h2, h1, fun p hp q hq e => h3 q hq p hp e.symm⟩
theorem va_P_l {D : va_G} {cl : List vw_C} {a b : va_W} {H : Heap} (h : va_P D cl (a ++ b) H) : va_P D cl a H := fun k q hk => h k q (by rw [List.getElem?_append_left (List.getElem?_eq_some_iff.mp hk).1]; exact hk)
theorem va_P_r {D : va_G} {cl : List vw_C} {a b : va_W} {H : Heap} (h : va_P D cl (a ++ b) H) : va_P D cl b H := fun k q hk => h (a.length + k) q (by rw [List.getElem?_append_right (by omega), Nat.add_sub_cancel_left]; exact hk)
theorem WU_swap {G : GT} {a b : Wo} {U : State} (h : WU G (a ++ b) U) : WU G (b ++ a) U := by
  obtain ⟨h1, h2, h3⟩ := h
  rw [List.map_append] at h1 h2
  refine ⟨?_, ?_, h3⟩
  · rw [List.map_append]; exact (va_P_r h1).app (va_P_l h1)
  · rw [List.map_append]; exact va_D_swap h2
theorem va_A_l {w1 w2 : Wo} {G : GT} {sz q : Nat} (h : va_A (w1.map (qm G)) sz q) : va_A ((w1 ++ w2).map (qm G)) sz q := by
  rcases h with ⟨k, e, h⟩ | h
  · refine Or.inl ⟨k, e, ?_⟩
    rw [List.map_append, List.getElem?_append_left (List.getElem?_eq_some_iff.mp h).1]
    exact h
  · exact Or.inr h
theorem va_A_r {w1 w2 : Wo} {G : GT} {sz q : Nat} (h : va_A (w2.map (qm G)) sz q) : va_A ((w1 ++ w2).map (qm G)) sz q := by
  rcases h with ⟨k, e, h⟩ | h
  · refine Or.inl ⟨(w1.map (qm G)).length + k, e, ?_⟩
    rw [List.map_append, List.getElem?_append_right (by omega), Nat.add_sub_cancel_left]
    exact h
  · exact Or.inr h
theorem va_A_swap {w1 w2 : Wo} {G : GT} {sz q : Nat} (h : va_A ((w1 ++ w2).map (qm G)) sz q) : va_A ((w2 ++ w1).map (qm G)) sz q := by
  rcases h with ⟨k, e, h⟩ | h
  · rw [List.map_append] at h
    have hm := List.mem_of_getElem? h
    obtain ⟨j, hj⟩ := List.getElem?_of_mem (show (q, e) ∈ (w2.map (qm G)) ++ (w1.map (qm G)) from by rcases List.mem_append.mp hm with h1 | h1; exact List.mem_append_right _ h1; exact List.mem_append_left _ h1)
    exact Or.inl ⟨j, e, by rw [List.map_append]; exact hj⟩
  · exact Or.inr h
theorem Ctr.frL {l : Launch} {G : GT} {y : MethodName} {cc : ByteArray} {maxL : Nat} {ret : Option FieldType} {d mc ms : Nat} {av : List AV} {P : Wo → Prop} {Q : Wo → Option AV → Wo → Prop} (w1 w2 : Wo) (h : Ctr l G y cc maxL ret d mc ms av P Q) : Ctr l G y cc maxL ret d mc ms av (fun w => w = w1 ++ w2 ∧ P w1) (fun w r w' => ∃ w1', Q w1 r w1' ∧ w' = w1' ++ w2) := by
  intro w sz ⟨hw, hP⟩ p e ha hc hk s m args below hf hS hPc hK
  subst hw
  obtain ⟨e0, hsz, hU⟩ := hPc
  obtain ⟨u1, u2, u3⟩ := hU
  rw [List.map_append] at u1 u2
  obtain ⟨d1, d2, d3⟩ := va_D_app.mp u2
  obtain ⟨n, o, a1, a2, a3, ⟨⟨⟨r, w', h4, h5, h6, h6b⟩, h7⟩, L, h8, h9⟩⟩ := h w1 sz hP p e ha hc hk s m args below hf hS ⟨e0, hsz, va_P_l u1, d1, u3⟩ hK
  have hA : ∀ q ∈ w2.map (qm G), ¬ va_A (w1.map (qm G)) sz q.1 := fun q hq z => by
    rcases z with ⟨k, e2, z⟩ | z
    · exact d3 _ (List.mem_of_getElem? z) q hq rfl
    · obtain ⟨k, hk2⟩ := List.getElem?_of_mem hq
      have := ((va_P_r u1) k q hk2).lt
      omega
  have k1 : va_P (gD G) vwCl (w2.map (qm G)) (Jvm.State.heap _) := (va_P_r u1).kept (fun k q hk2 => h7.2 q.1 ((va_P_r u1) k q hk2).lt (hA q (List.mem_of_getElem? hk2)))
  have cross : ∀ p ∈ w'.map (qm G), ∀ q ∈ w2.map (qm G), p.1 ≠ q.1 := fun p hp q hq e2 => by
    obtain ⟨i, hi⟩ := List.getElem?_of_mem hp
    have := h6b.2 i p hi
    rw [e2] at this
    exact hA q hq this
  obtain ⟨g1, g2, g3⟩ := h6
  refine ⟨n, o, a1, a2, a3, ⟨⟨⟨r, w' ++ w2, h4, ⟨w', h5, rfl⟩, ⟨?_, ?_, g3⟩, ?_⟩, h7.1, fun q q1 q2 => h7.2 q q1 (fun z => q2 (va_A_l z))⟩, L, h8, fun q hq => va_A_l (h9 q hq)⟩⟩
  · rw [List.map_append]; exact g1.app k1
  · rw [List.map_append]; exact va_D_app.mpr ⟨g2, d2, cross⟩
  · rw [show (w' ++ w2).map (qm G) = w'.map (qm G) ++ w2.map (qm G) from List.map_append]
    refine va_D_app.mpr ⟨h6b.weaken (fun _ q _ z => va_A_l z), ?_, cross⟩
    exact ⟨d2.1, fun k q hk2 => va_A_r (Or.inl ⟨k, q.2, hk2⟩)⟩
theorem Ctr.frR {l : Launch} {G : GT} {y : MethodName} {cc : ByteArray} {maxL : Nat} {ret : Option FieldType} {d mc ms : Nat} {av : List AV} {P : Wo → Prop} {Q : Wo → Option AV → Wo → Prop} (w1 w2 : Wo) (h : Ctr l G y cc maxL ret d mc ms av P Q) : Ctr l G y cc maxL ret d mc ms av (fun w => w = w2 ++ w1 ∧ P w1) (fun w r w' => ∃ w1', Q w1 r w1' ∧ w' = w2 ++ w1') := by
  intro w sz ⟨hw, hP⟩ p e ha hc hk s m args below hf hS hPc hK
  subst hw
  obtain ⟨e0, hsz, hU⟩ := hPc
  obtain ⟨n, o, a1, a2, a3, ⟨⟨⟨r, w', h4, ⟨w1', h5, e5⟩, h6, h6b⟩, h7⟩, L, h8, h9⟩⟩ := Ctr.frL w1 w2 h (w1 ++ w2) sz ⟨rfl, hP⟩ p e ha hc hk s m args below hf hS ⟨e0, hsz, WU_swap hU⟩ hK
  subst e5
  refine ⟨n, o, a1, a2, a3, ⟨⟨⟨r, w2 ++ w1', h4, ⟨w1', h5, rfl⟩, WU_swap h6, ?_⟩, h7.1, fun q q1 q2 => h7.2 q q1 (fun z => q2 (va_A_swap z))⟩, L, h8, fun q hq => va_A_swap (h9 q hq)⟩⟩
  rw [show (w1' ++ w2).map (qm G) = w1'.map (qm G) ++ w2.map (qm G) from List.map_append] at h6b
  rw [show (w2 ++ w1').map (qm G) = w2.map (qm G) ++ w1'.map (qm G) from List.map_append]
  exact (va_D_swap h6b).weaken (fun _ q _ z => va_A_swap z)
theorem lk_app (a b : Wo) (q : Nat) : lk (a ++ b) q = match lk a q with
    | some x => some x
    | none => lk b q := by
  unfold lk
  rw [List.find?_append]
  cases a.find? (fun p => p.1 == q) <;> rfl
theorem lk_app_l {a b : Wo} {q : Nat} {c : Ce} (h : lk a q = some c) : lk (a ++ b) q = some c := by rw [lk_app, h]
theorem lk_app_r {a b : Wo} {q : Nat} {c : Ce} (h0 : lk a q = none) (h : lk b q = some c) : lk (a ++ b) q = some c := by rw [lk_app, h0]; exact h
