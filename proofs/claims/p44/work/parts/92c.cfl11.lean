/-- what keep keeps in mind -/
theorem kp_w {K K1 K2 : Nat → Int} {x : Int} (hx : 0 ≤ x ∧ x ≤ 2) (e : K1 = K) (E : ∀ j, K2 j = if j = x.toNat then 1 else K1 j) : ∀ j : Nat, K2 j = if (0 ≤ x ∧ x ≤ 2) ∧ j = x.toNat then 1 else K j := by
  intro j
  rw [E, e]
  by_cases q : j = x.toNat
  · rw [if_pos q, if_pos ⟨hx, q⟩]
  · rw [if_neg q, if_neg (fun z => q z.2)]
