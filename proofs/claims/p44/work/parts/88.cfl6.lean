theorem pt_c {C C1 C2 C3 : Nat → Int} {t x y z : Int} (ht : 0 ≤ t) (e1 : ∀ j, C1 j = if j = (3 * t).toNat then x else C j) (e2 : ∀ j, C2 j = if j = (3 * t + 1).toNat then y else C1 j) (e3 : ∀ j, C3 j = if j = (3 * t + 2).toNat then z else C2 j) : (C3 (3 * t.toNat + 0) = x ∧ C3 (3 * t.toNat + 1) = y ∧ C3 (3 * t.toNat + 2) = z) ∧ ∀ v k : Nat, k < 3 → v ≠ t.toNat → C3 (3 * v + k) = C (3 * v + k) := by
  refine ⟨⟨?_, ?_, ?_⟩, fun v k hk hv => ?_⟩
  · rw [e3, if_neg (by omega), e2, if_neg (by omega), e1, if_pos (by omega)]
  · rw [e3, if_neg (by omega), e2, if_pos (by omega)]
  · rw [e3, if_pos (by omega)]
  · rw [e3, if_neg (by omega), e2, if_neg (by omega), e1, if_neg (by omega)]
