theorem nt_z {F F' : Nat → Int} {L S1 S : Int} (h : ∀ j : Nat, (j : Int) < L → j < 80 → F j = 0) (h0 : 0 ≤ L) (e1 : S1 = L) (hs : S = 0 ∨ (S = -1 ∧ 80 ≤ L ∧ L < 120)) (E : ∀ j, F' j = if j = S1.toNat then S else F j) : ∀ j : Nat, (j : Int) < L + 1 → j < 80 → F' j = 0 := by
  intro j hj hj'
  subst e1
  rw [E]
  by_cases c : j = S1.toNat
  · rw [if_pos c]; omega
  · rw [if_neg c]; exact h j (by omega) hj'
theorem nt_g0 {F F1 F2 F3 : Nat → Int} {L a b fk : Int} (h : ∀ j : Nat, (j : Int) < L → j < 80 → F j = 0) (hL : 1507 ≤ L) (e1 : ∀ j, F1 j = if j = (3 : Int).toNat then a else F j) (e2 : ∀ j, F2 j = if j = (4 : Int).toNat then b else F1 j) (e3 : F3 = F2) : ps_G F3 fk ∧ F3 6 = 0 ∧ F3 7 = 0 ∧ F3 (2 : Int).toNat = 0 := by
  subst e3
  have t3 : (3 : Int).toNat = 3 := rfl
  have t4 : (4 : Int).toNat = 4 := rfl
  have k : ∀ j : Nat, j < 80 → j ≠ 3 → j ≠ 4 → F3 j = 0 := fun j h1 h2 h3 => by
    rw [e2, if_neg (by omega), e1, if_neg (by omega)]
    exact h j (by omega) h1
  refine ⟨fun _ => ⟨?_, fun _ => k 1 (by omega) (by omega) (by omega)⟩, k 6 (by omega) (by omega) (by omega), k 7 (by omega) (by omega) (by omega), k 2 (by omega) (by omega) (by omega)⟩
  have : pr_n F3 = 0 := by unfold pr_n; rw [k 1 (by omega) (by omega) (by omega)]; rfl
  rw [this]
  exact pf_G.nil
theorem nt_c {w w' F F' : Nat → Int} {L : Int} (h : ∀ j : Nat, (j : Int) < L → w j = F j) (h0 : 0 ≤ L) (eF : F' = F) (E : ∀ j, w' j = if j = L.toNat then F L.toNat else w j) : ∀ j : Nat, (j : Int) < L + 1 → w' j = F' j := by
  subst eF
  intro j hj
  rw [E]
  by_cases c : j = L.toNat
  · rw [if_pos c, c]
  · rw [if_neg c]; exact h j (by omega)
