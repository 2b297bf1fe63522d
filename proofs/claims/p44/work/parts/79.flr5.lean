theorem tu_1 {w w1 w2 : Nat → Int} {i : Nat} {v p q : Int} (E : ∀ j, w1 j = if j = i then v else w j) (hi : i ≠ 0 ∧ i ≠ 1) (h : pr_tu w1 w2 p q) : w2 (1 : Int).toNat = w (1 : Int).toNat ∧ w2 (0 : Int).toNat = w (0 : Int).toNat := by
  obtain ⟨t, u, x, y, h1, h2, h3, h4, h5⟩ := h
  refine ⟨?_, ?_⟩
  · show w2 1 = w 1
    rw [h3.2.1, E, if_neg (by omega)]
  · show w2 0 = w 0
    rw [h3.1, E, if_neg (by omega)]
theorem fs_side {w : Nat → Int} (h : pw_ok w) (hn : 1 ≤ w (1 : Int).toNat) : ∃ p q : Nat, q < p ∧ p < pr_N w ∧ pr_s w p q ∧ (fun j : Nat => (j : Int)) p ≠ (fun j : Nat => (j : Int)) q := by
  have x1 : w (1 : Int).toNat = w 1 := rfl
  rw [x1] at hn
  have g := h.2.good
  have n0 : 0 < pr_n w := by unfold pr_n; omega
  obtain ⟨⟨a1, a2, a3, a4, -, -⟩, a5, -, -⟩ := g.1 0 n0
  have on : ∀ p q : Int, pr_c w 0 0 = p → pr_c w 0 1 = q → p ≠ q → pr_s w p q ∧ pr_s w q p := fun p q hp hq hne => ⟨⟨hne, pr_m_pos.mpr ⟨0, n0, Or.inl hp, Or.inr (Or.inl hq)⟩⟩, ⟨Ne.symm hne, pr_m_pos.mpr ⟨0, n0, Or.inr (Or.inl hq), Or.inl hp⟩⟩⟩
  have e0 : ((pr_c w 0 0).toNat : Int) = pr_c w 0 0 := by omega
  have e1 : ((pr_c w 0 1).toNat : Int) = pr_c w 0 1 := by omega
  rcases (show pr_c w 0 0 < pr_c w 0 1 ∨ pr_c w 0 1 < pr_c w 0 0 by omega) with c | c
  · exact ⟨(pr_c w 0 1).toNat, (pr_c w 0 0).toNat, by omega, by unfold pr_N; omega, by rw [e0, e1]; exact (on _ _ rfl rfl a5).2, by simp only []; omega⟩
  · exact ⟨(pr_c w 0 0).toNat, (pr_c w 0 1).toNat, by omega, by unfold pr_N; omega, by rw [e0, e1]; exact (on _ _ rfl rfl a5).1, by simp only []; omega⟩
