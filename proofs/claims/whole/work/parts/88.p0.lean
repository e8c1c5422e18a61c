/-! what is read is built of the parts that can be: one induction for all that is said of it -/
section QPP
variable {L : List (Int × Int × Int)} {N A : Ex → Prop}
theorem pLoop_P {a b : Int} {f : Nat → Pr} (hf : ∀ (j : Nat) (e : Ex) (k : Nat), f j = .inl (e, k) → N e) (hb : ∀ (x : Int) (e e2 : Ex), (x = a ∨ x = b) → N e → N e2 → N (biE x e e2)) : ∀ (n : Nat) (e0 : Ex) (j : Nat) (e : Ex) (k : Nat), N e0 → pLoop L a b f n e0 j = .inl (e, k) → N e
  | 0, e0, j, e, k, _, h => by unfold pLoop at h; cases h
  | n + 1, e0, j, e, k, h0, h => by
    unfold pLoop at h
    split at h
    · rename_i hx
      split at h
      · rename_i e2 k2 h2
        exact pLoop_P hf hb n _ k2 e k (hb _ _ _ hx h0 (hf _ _ _ h2)) h
      · cases h
    · cases h
      exact h0
theorem pBin_P {a b : Int} {f : Nat → Pr} (hf : ∀ (j : Nat) (e : Ex) (k : Nat), f j = .inl (e, k) → N e) (hb : ∀ (x : Int) (e e2 : Ex), (x = a ∨ x = b) → N e → N e2 → N (biE x e e2)) (j : Nat) (e : Ex) (k : Nat) (h : pBin L a b f j = .inl (e, k)) : N e := by
  unfold pBin at h
  split at h
  · rename_i e2 k2 h2
    exact pLoop_P hf hb 301 e2 k2 e k (hf _ _ _ h2) h
  · cases h
theorem pOne_P {ly : Int} {op : Nat} {fs fo fe : Nat → Pr} (hB : tkB L) (h50 : ∀ v : Int, 0 ≤ v ∧ v ≤ 9999 → N (lfE 50 v)) (hnm : ∀ x : Int, 17 ≤ x ∧ x ≤ 23 → ¬ x = (if ly = 0 then 23 else 22) → N (lfE x 0)) (h60 : ∀ e : Ex, N e → N (unE 60 e)) (h89 : ∀ (x : Int) (e : Ex), x = 8 ∨ x = 9 → N e → N (unE x e))
    (hs : ∀ (j : Nat) (e : Ex) (k : Nat), fs j = .inl (e, k) → N e) (ho : ∀ (j : Nat) (e : Ex) (k : Nat), fo j = .inl (e, k) → N e) (he : ∀ (j : Nat) (e : Ex) (k : Nat), fe j = .inl (e, k) → N e) (j : Nat) (e : Ex) (k : Nat) (h : pOne L ly op fs fo fe j = .inl (e, k)) : N e := by
  unfold pOne at h
  split at h
  · cases h
  split at h
  · rename_i h17
    by_cases hne : (gTk L j).1 = (if ly = 0 then 23 else 22)
    · rw [if_pos hne] at h
      cases h
    · rw [if_neg hne] at h
      cases h
      exact hnm _ h17 hne
  split at h
  · split at h
    · rename_i hv
      cases h
      exact h50 _ ⟨(hB j).2.1.1, hv⟩
    · cases h
  split at h
  · split at h
    · rename_i e2 k2 h2
      split at h
      · cases h
        exact hs _ _ _ h2
      · cases h
    · cases h
  split at h
  · split at h
    · rename_i e2 k2 h2
      cases h
      exact h60 _ (ho _ _ _ h2)
    · cases h
  split at h
  · rename_i h8
    split at h
    · rename_i e2 k2 h2
      cases h
      exact h89 _ _ h8 (ho _ _ _ h2)
    · cases h
  split at h
  · exact he _ _ _ h
  · cases h
theorem pAsk_P {op : Nat} {fs fa : Nat → Pr} (hcp : ∀ (x : Int) (e e2 : Ex), isCp x → N e → N e2 → A (biE x e e2)) (hnt : ∀ e : Ex, A e → A (unE 16 e))
    (hs : ∀ (j : Nat) (e : Ex) (k : Nat), fs j = .inl (e, k) → N e) (ha : ∀ (j : Nat) (e : Ex) (k : Nat), fa j = .inl (e, k) → A e) (j : Nat) (e : Ex) (k : Nat) (h : pAsk L op fs fa j = .inl (e, k)) : A e := by
  unfold pAsk at h
  split at h
  · split at h
    · split at h
      · rename_i e2 k2 h2
        cases h
        exact hnt _ (ha _ _ _ h2)
      · cases h
    · cases h
  · split at h
    · rename_i e2 k2 h2
      split at h
      · rename_i hc
        split at h
        · rename_i e3 k3 h3
          cases h
          exact hcp _ _ _ hc (hs _ _ _ h2) (hs _ _ _ h3)
        · cases h
      · cases h
    · cases h
theorem pCho_P {fe fs : Nat → Pr} (hse : ∀ c x z : Ex, A c → N x → N z → N (seE c x z)) (he : ∀ (j : Nat) (e : Ex) (k : Nat), fe j = .inl (e, k) → A e)
    (hs : ∀ (j : Nat) (e : Ex) (k : Nat), fs j = .inl (e, k) → N e) (j : Nat) (e : Ex) (k : Nat) (h : pCho L fe fs j = .inl (e, k)) : N e := by
  unfold pCho at h
  split at h
  · cases h
  · rename_i c k1 h1
    split at h
    · split at h
      · cases h
      · rename_i x k2 h2
        split at h
        · split at h
          · cases h
          · rename_i z k3 h3
            split at h
            · cases h
              exact hse _ _ _ (he _ _ _ h1) (hs _ _ _ h2) (hs _ _ _ h3)
            · cases h
        · cases h
    · cases h
def PFP (N A : Ex → Prop) (d : PF) : Prop := (∀ (j : Nat) (e : Ex) (k : Nat), d.1 j = .inl (e, k) → N e) ∧ (∀ (j : Nat) (e : Ex) (k : Nat), d.2.1 j = .inl (e, k) → N e) ∧ (∀ (j : Nat) (e : Ex) (k : Nat), d.2.2.1 j = .inl (e, k) → A e) ∧ ∀ (j : Nat) (e : Ex) (k : Nat), d.2.2.2 j = .inl (e, k) → N e
theorem pSt_P {ly : Int} {op : Nat} {d : PF} (hB : tkB L) (h50 : ∀ v : Int, 0 ≤ v ∧ v ≤ 9999 → N (lfE 50 v)) (hnm : ∀ x : Int, 17 ≤ x ∧ x ≤ 23 → ¬ x = (if ly = 0 then 23 else 22) → N (lfE x 0)) (h60 : ∀ e : Ex, N e → N (unE 60 e)) (h89 : ∀ (x : Int) (e : Ex), x = 8 ∨ x = 9 → N e → N (unE x e))
    (h34 : ∀ (x : Int) (e e2 : Ex), 34 ≤ x ∧ x ≤ 37 → N e → N e2 → N (biE x e e2)) (hcp : ∀ (x : Int) (e e2 : Ex), isCp x → N e → N e2 → A (biE x e e2)) (hnt : ∀ e : Ex, A e → A (unE 16 e)) (h14 : ∀ (x : Int) (e e2 : Ex), x = 14 ∨ x = 15 → A e → A e2 → A (biE x e e2)) (hse : ∀ c x z : Ex, A c → N x → N z → N (seE c x z))
    (h : PFP N A d) : PFP N A (pSt L ly op d) := by
  have h1 := pOne_P (L := L) (ly := ly) (op := op) hB h50 hnm h60 h89 h.2.1 h.1 h.2.2.2
  have h2 := pBin_P (L := L) (a := 36) (b := 37) h1 (fun x e e2 hx => h34 x e e2 (by omega))
  have h3 := pBin_P (L := L) (a := 34) (b := 35) h2 (fun x e e2 hx => h34 x e e2 (by omega))
  have h4 := pAsk_P (L := L) (op := op) hcp hnt h3 h.2.2.1
  have h5 := pBin_P (L := L) (N := A) (a := 15) (b := 15) h4 (fun x e e2 hx => h14 x e e2 (by omega))
  have h6 := pBin_P (L := L) (N := A) (a := 14) (b := 14) h5 (fun x e e2 hx => h14 x e e2 (by omega))
  exact ⟨h1, h3, h4, pCho_P (L := L) hse h6 h3⟩
theorem pLv_P {ly : Int} (hB : tkB L) (h50 : ∀ v : Int, 0 ≤ v ∧ v ≤ 9999 → N (lfE 50 v)) (hnm : ∀ x : Int, 17 ≤ x ∧ x ≤ 23 → ¬ x = (if ly = 0 then 23 else 22) → N (lfE x 0)) (h60 : ∀ e : Ex, N e → N (unE 60 e)) (h89 : ∀ (x : Int) (e : Ex), x = 8 ∨ x = 9 → N e → N (unE x e))
    (h34 : ∀ (x : Int) (e e2 : Ex), 34 ≤ x ∧ x ≤ 37 → N e → N e2 → N (biE x e e2)) (hcp : ∀ (x : Int) (e e2 : Ex), isCp x → N e → N e2 → A (biE x e e2)) (hnt : ∀ e : Ex, A e → A (unE 16 e)) (h14 : ∀ (x : Int) (e e2 : Ex), x = 14 ∨ x = 15 → A e → A e2 → A (biE x e e2)) (hse : ∀ c x z : Ex, A c → N x → N z → N (seE c x z)) : ∀ n : Nat, PFP N A (pLv L ly n)
  | 0 => pSt_P hB h50 hnm h60 h89 h34 hcp hnt h14 hse ⟨fun j e k h => by (cases h), fun j e k h => by (cases h), fun j e k h => by (cases h), fun j e k h => by (cases h)⟩
  | n + 1 => pSt_P hB h50 hnm h60 h89 h34 hcp hnt h14 hse (pLv_P hB h50 hnm h60 h89 h34 hcp hnt h14 hse n)
theorem pLv_sz {ly : Int} (hB : tkB L) (n j : Nat) (e : Ex) (k : Nat) (h : (pLv L ly n).2.1 j = .inl (e, k)) : 0 < szE e :=
  (pLv_P (N := fun e => 0 < szE e) (A := fun e => 0 < szE e) (ly := ly) hB (fun _ _ => Nat.one_pos) (fun _ _ _ => Nat.one_pos) (fun _ _ => Nat.succ_pos _) (fun _ _ _ _ => Nat.succ_pos _) (fun _ _ _ _ _ _ => Nat.succ_pos _) (fun _ _ _ _ _ _ => Nat.succ_pos _) (fun _ _ => Nat.succ_pos _) (fun _ _ _ _ _ _ => Nat.succ_pos _) (fun _ _ _ _ _ _ => Nat.succ_pos _) n).2.1 j e k h
end QPP
