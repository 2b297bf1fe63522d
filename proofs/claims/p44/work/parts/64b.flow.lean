/-! THE ELIMINATION IN THE REFERENCE'S ROWS -/
theorem pi_mul1 {x y : Int} (hx : 0 ≤ x) (hy : 1 ≤ y) : x ≤ y * x := by
  have := Int.mul_le_mul_of_nonneg_right hy hx
  omega
theorem pv_J_divx {y q : Int} (hx : pv_q (y * q)) (hy : pv_q y) (h1 : 0 < y) : pv_J (y * q) / pv_J y = pv_J q := by
  have h2 := pv_J_rep (pv_J (y * q) / pv_J y)
  rw [h2.2]
  congr 1
  rw [Int64.toInt_div, pv_J_toInt hx, pv_J_toInt hy, Int.mul_tdiv_cancel_left _ (by omega)]
  have hb : pv_q q := by
    unfold pv_q at hx ⊢
    by_cases h0 : 0 ≤ q
    · have := pi_mul1 h0 (show 1 ≤ y by omega)
      omega
    · have := pi_mul1 (show 0 ≤ -q by omega) (show 1 ≤ y by omega)
      rw [Int.mul_neg] at this
      omega
  exact Int.bmod_eq_of_le (by have := hb.1; omega) (by have := hb.2; omega)
theorem pe_at {F F' : Nat → Nat → Int} {a i : Nat} {x : Int} (E : ∀ b j, F' b j = if b = a ∧ j = i then x else F b j) : ∀ j, F' a j = if j = i then x else F a j := by
  intro j
  rw [E]
  by_cases h : j = i
  · rw [if_pos ⟨rfl, h⟩, if_pos h]
  · rw [if_neg (fun z => h z.2), if_neg h]
theorem tr_step {f0 f g k : Nat → Int} {x1 x2 L v v' : Int} (r1 : 0 ≤ x1 ∧ x1 ≤ 9) (r2 : 0 ≤ x2 ∧ x2 ≤ 9) (hne : x1 ≠ x2) (rL : 0 ≤ L ∧ L ≤ 9) (hv : v = f (10 * x1 + L).toNat) (hg : ∀ j, g j = if j = (10 * x1 + L).toNat then v' else f j) (hk : ∀ j, k j = if j = (10 * x2 + L).toNat then v else g j) (I0 : ∀ j : Nat, (j : Int) < L → f (10 * x2.toNat + j) = f0 (10 * x1.toNat + j)) (I1 : ∀ j : Nat, L ≤ (j : Int) → j < 10 → f (10 * x1.toNat + j) = f0 (10 * x1.toNat + j)) : (∀ j : Nat, (j : Int) < L + 1 → k (10 * x2.toNat + j) = f0 (10 * x1.toNat + j)) ∧ (∀ j : Nat, L + 1 ≤ (j : Int) → j < 10 → k (10 * x1.toNat + j) = f0 (10 * x1.toNat + j)) := by
  refine ⟨fun j hj => ?_, fun j hj hj' => ?_⟩
  · by_cases e : j = L.toNat
    · rw [hk, if_pos (by omega), hv, ← I1 j (by omega) (by omega), show 10 * x1.toNat + j = (10 * x1 + L).toNat by omega]
    · rw [hk, if_neg (by omega), hg, if_neg (by omega)]
      exact I0 j (by omega)
  · rw [hk, if_neg (by omega), hg, if_neg (by omega)]
    exact I1 j (by omega) hj'
def pq_R (h : pv_H) (a : Nat) : Nat → Nat → Int := fun i j => pv_aJ h a (10 * i + j)
def pq_8 (A : Nat → Nat → Int) (n f k : Nat) (D sg : Int) (R : Nat → Nat → Int) : Prop := sg = 1 ∧ ∃ B : Nat → Nat → Int, pd_H A k B D ∧ pm_M B D k n f ∧ ∀ i j, k ≤ i → i < n → k ≤ j → j < n → (i ≠ f ∨ j = f) → R i j = B i j
def pq_J (A : Nat → Nat → Int) (n f k i j : Nat) (D sg : Int) (R : Nat → Nat → Int) : Prop := sg = 1 ∧ ∃ B B' : Nat → Nat → Int, pd_H A k B D ∧ pm_M B D k n f ∧ (∀ i j, B i j * B k k - B i k * B k j = D * B' i j) ∧ pd_H A (k + 1) B' (B k k) ∧ ∀ r s, k ≤ r → r < n → k ≤ s → s < n → (r ≠ f ∨ s = f) → R r s = if k < r ∧ k < s ∧ (r < i ∨ (r = i ∧ s < j)) then B' r s else B r s
section PQ
variable {A : Nat → Nat → Int} {n f k i j : Nat} {D sg : Int} {R : Nat → Nat → Int}
theorem pq_8.start (h : pm_M A 1 0 n f) : pq_8 A n f 0 1 1 A := ⟨rfl, A, pd_H0 A, h, fun _ _ _ _ _ _ _ => rfl⟩
theorem pq_8.piv (h : pq_8 A n f k D sg R) (hk : k < n) : R k k ≠ 0 := by
  obtain ⟨h1, B, h2, h3, h4⟩ := h
  have := pm_piv h3 hk
  rw [h4 k k (Nat.le_refl _) hk (Nat.le_refl _) hk (by by_cases e : k = f; exact Or.inr e; exact Or.inl e)]
  omega
theorem pq_8.J (h : pq_8 A n f k D sg R) : pq_J A n f k (k + 1) (k + 1) D sg R := by
  obtain ⟨h1, B, h2, h3, h4⟩ := h
  obtain ⟨B', h5, h6⟩ := pd_step (by have := h3.1; omega) h2
  refine ⟨h1, B, B', h2, h3, h5, h6, fun r s a1 a2 a3 a4 a5 => ?_⟩
  rw [if_neg (by omega)]
  exact h4 r s a1 a2 a3 a4 a5
theorem pq_J.row (h : pq_J A n f k i j D sg R) (hj : n ≤ j) : pq_J A n f k (i + 1) (k + 1) D sg R := by
  obtain ⟨h1, B, B', h2, h3, h4, h5, h6⟩ := h
  refine ⟨h1, B, B', h2, h3, h4, h5, fun r s a1 a2 a3 a4 a5 => ?_⟩
  rw [h6 r s a1 a2 a3 a4 a5]
  by_cases c : k < r ∧ k < s ∧ (r < i ∨ (r = i ∧ s < j))
  · rw [if_pos c, if_pos (by omega)]
  · rw [if_neg c, if_neg (by omega)]
theorem pq_J.done (h : pq_J A n f k i j D sg R) (hk : k < n) (hi : n ≤ i) : pq_8 A n f (k + 1) (R k k) sg R := by
  obtain ⟨h1, B, B', h2, h3, h4, h5, h6⟩ := h
  have e : R k k = B k k := by
    rw [h6 k k (Nat.le_refl _) hk (Nat.le_refl _) hk (by by_cases e : k = f; exact Or.inr e; exact Or.inl e), if_neg (by omega)]
  rw [e]
  refine ⟨h1, B', h5, pm_step h3 hk h4, fun r s a1 a2 a3 a4 a5 => ?_⟩
  rw [h6 r s (by omega) a2 (by omega) a4 a5, if_pos (by omega)]
theorem pm_absD {B : Nat → Nat → Int} (h : pm_M B D k n f) (hk : k ≤ 8) {i j : Nat} (hi : pm_in k n f i) (hj : pm_in k n f j) : -387420489 ≤ B i j ∧ B i j ≤ 387420489 := by
  have h1 := pm_abs h hi hj
  have h2 := h.2.1
  have h3 : (9 : Int) ^ k ≤ 9 ^ 8 := by
    have : ∀ k : Nat, k ≤ 8 → (9 : Int) ^ k ≤ 9 ^ 8 := by decide
    exact this k hk
  have h4 : (9 : Int) ^ 8 = 43046721 := by decide
  omega
theorem pm_prod {x y b : Int} (hx : -b ≤ x ∧ x ≤ b) (hy : -b ≤ y ∧ y ≤ b) : -(b * b) ≤ x * y ∧ x * y ≤ b * b := by
  have k : ∀ u v : Int, 0 ≤ u → u ≤ b → 0 ≤ v → v ≤ b → u * v ≤ b * b := fun u v h1 h2 h3 h4 => Int.mul_le_mul h2 h4 h3 (by omega)
  have n : ∀ u v : Int, 0 ≤ u → 0 ≤ v → 0 ≤ u * v := fun u v h1 h2 => Int.mul_nonneg h1 h2
  by_cases h1 : 0 ≤ x <;> by_cases h2 : 0 ≤ y
  · have a1 := k x y h1 hx.2 h2 hy.2
    have a2 := n x y h1 h2
    omega
  · have a1 := k x (-y) h1 hx.2 (by omega) (by omega)
    have a2 := n x (-y) h1 (by omega)
    rw [Int.mul_neg] at a1 a2
    omega
  · have a1 := k (-x) y (by omega) (by omega) h2 hy.2
    have a2 := n (-x) y (by omega) h2
    rw [Int.neg_mul] at a1 a2
    omega
  · have a1 := k (-x) (-y) (by omega) (by omega) (by omega) (by omega)
    have a2 := n (-x) (-y) (by omega) (by omega)
    rw [Int.neg_mul_neg] at a1 a2
    omega
theorem pq_J.cell {R' : Nat → Nat → Int} {z1 z2 z : Int} (h : pq_J A n f k i j D sg R) (hn : n ≤ 10) (hi : k < i) (hi' : i < n) (hj : k < j) (hj' : j < n) (q1 : pv_q z1) (q2 : pv_q z2) (qz : pv_q z) (e1 : pv_J (R i j * R k k) = pv_J z1) (e2 : pv_J (R i k * R k j) = pv_J z2) (e3 : pv_J (z1 - z2) / pv_J D = pv_J z) (hR : ∀ r s, r < n → s < n → R' r s = if r = i ∧ s = j then z else R r s) : pq_J A n f k i (j + 1) D sg R' := by
  obtain ⟨h1, B, B', h2, h3, h4, h5, h6⟩ := h
  have hk : k < n := by omega
  have hD := h3.1
  have hDb := h3.2.1
  have h98 : (9 : Int) ^ k ≤ 9 ^ 8 := by
    have : ∀ k : Nat, k ≤ 8 → (9 : Int) ^ k ≤ 9 ^ 8 := by decide
    exact this k (by omega)
  have h98' : (9 : Int) ^ 8 = 43046721 := by decide
  refine ⟨h1, B, B', h2, h3, h4, h5, fun r s a1 a2 a3 a4 a5 => ?_⟩
  rw [hR r s a2 a4]
  by_cases c : r = i ∧ s = j
  · obtain ⟨c1, c2⟩ := c
    subst c1
    subst c2
    rw [if_pos ⟨rfl, rfl⟩, if_pos (by omega)]
    have t1 : R r s = B r s := by rw [h6 r s a1 a2 a3 a4 a5, if_neg (by omega)]
    have t2 : R k k = B k k := by
      rw [h6 k k (Nat.le_refl _) hk (Nat.le_refl _) hk (by by_cases e : k = f; exact Or.inr e; exact Or.inl e), if_neg (by omega)]
    have t3 : R r k * R k s = B r k * B k s := by
      by_cases hr : r = f
      · -- the replaced column: nothing stands there above its own row
        have hs : s = f := by rcases a5 with a5 | a5; exact absurd hr a5; exact a5
        have hkf : k ≤ f := by omega
        have hc := h3.2.2.2.2.2.2 hkf k (Nat.le_refl _) hk
        rw [if_neg (by omega)] at hc
        have t4 : R k s = 0 := by
          rw [h6 k s (Nat.le_refl _) hk (by omega) a4 (Or.inr hs), if_neg (by omega), hs]
          exact hc
        have t5 : B k s = 0 := by rw [hs]; exact hc
        rw [t4, t5, Int.mul_zero, Int.mul_zero]
      · have t4 : R r k = B r k := by rw [h6 r k a1 a2 (Nat.le_refl _) hk (Or.inl hr), if_neg (by omega)]
        by_cases hkf : k = f
        · have hc := h3.2.2.2.2.2.2 (by omega) r a1 a2
          rw [if_neg hr, ← hkf] at hc
          rw [t4, hc, Int.zero_mul, Int.zero_mul]
        · rw [t4, h6 k s (Nat.le_refl _) hk a3 a4 (Or.inl hkf), if_neg (by omega)]
    rw [t1, t2] at e1
    rw [t3] at e2
    -- how large
    have kk : -387420489 ≤ B k k ∧ B k k ≤ 387420489 := by
      by_cases hkf : k = f
      · have hc := h3.2.2.2.2.2.2 (by omega) k (Nat.le_refl _) hk
        rw [← hkf, if_pos rfl] at hc
        rw [hc]; omega
      · exact pm_absD h3 (by omega) ⟨Nat.le_refl _, hk, hkf⟩ ⟨Nat.le_refl _, hk, hkf⟩
    have col : ∀ i, k ≤ i → i < n → k ≤ f → -387420489 ≤ B i f ∧ B i f ≤ 387420489 := fun i b1 b2 b3 => by
      rw [h3.2.2.2.2.2.2 b3 i b1 b2]
      split <;> omega
    have rs : -387420489 ≤ B r s ∧ B r s ≤ 387420489 := by
      by_cases hs : s = f
      · rw [hs]; exact col r a1 a2 (by omega)
      · have hr : r ≠ f := by rcases a5 with a5 | a5; exact a5; exact absurd a5 hs
        exact pm_absD h3 (by omega) ⟨a1, a2, hr⟩ ⟨a3, a4, hs⟩
    have p2 : -150094635296999121 ≤ B r k * B k s ∧ B r k * B k s ≤ 150094635296999121 := by
      by_cases hr : r = f
      · have hs : s = f := by rcases a5 with a5 | a5; exact absurd hr a5; exact a5
        have hc := h3.2.2.2.2.2.2 (by omega) k (Nat.le_refl _) hk
        rw [if_neg (by omega)] at hc
        rw [hs, hc, Int.mul_zero]; omega
      · by_cases hkf : k = f
        · have hc := h3.2.2.2.2.2.2 (by omega) r a1 a2
          rw [if_neg hr, ← hkf] at hc
          rw [hc, Int.zero_mul]; omega
        · have b1 := pm_absD h3 (by omega) ⟨a1, a2, hr⟩ (show pm_in k n f k from ⟨Nat.le_refl _, hk, hkf⟩)
          by_cases hs : s = f
          · have hc := h3.2.2.2.2.2.2 (by omega) k (Nat.le_refl _) hk
            rw [if_neg hkf] at hc
            rw [hs, hc, Int.mul_zero]; omega
          · have b2 := pm_absD h3 (by omega) (show pm_in k n f k from ⟨Nat.le_refl _, hk, hkf⟩) ⟨a3, a4, hs⟩
            have := pm_prod b1 b2
            omega
    have p1 := pm_prod rs kk
    have w1 : z1 = B r s * B k k := ((pv_J_eq ⟨by omega, by omega⟩ q1).mp e1).symm
    have w2 : z2 = B r k * B k s := ((pv_J_eq ⟨by omega, by omega⟩ q2).mp e2).symm
    have w3 : z1 - z2 = D * B' r s := by rw [w1, w2]; exact h4 r s
    rw [w3, pv_J_divx (by rw [← w3, w1, w2]; exact ⟨by omega, by omega⟩) ⟨by omega, by omega⟩ hD] at e3
    have hq : pv_q (B' r s) := by
      have hh : pv_q (D * B' r s) := by rw [← w3, w1, w2]; exact ⟨by omega, by omega⟩
      unfold pv_q at hh ⊢
      by_cases h0 : 0 ≤ B' r s
      · have := pi_mul1 h0 (show 1 ≤ D by omega)
        omega
      · have := pi_mul1 (show 0 ≤ -B' r s by omega) (show 1 ≤ D by omega)
        rw [Int.mul_neg] at this
        omega
    exact ((pv_J_eq hq qz).mp e3).symm
  · rw [if_neg c, h6 r s a1 a2 a3 a4 a5]
    by_cases c2 : k < r ∧ k < s ∧ (r < i ∨ (r = i ∧ s < j))
    · rw [if_pos c2, if_pos (by omega)]
    · rw [if_neg c2, if_neg (by omega)]
theorem pq_8.fin {z : Int} (h : pq_8 A n f k D sg R) (hD : pv_q D) (hz : pv_q z) (e : pv_J (sg * D) = pv_J z) : z ≠ 0 := by
  obtain ⟨h1, B, h2, h3, h4⟩ := h
  rw [h1, Int.one_mul] at e
  have := (pv_J_eq hD hz).mp e
  have := h3.1
  omega
end PQ
/-! THE NET'S MATRIX -/
def pr_L (w : Nat → Int) (p q : Int) : Int := if p = q then pd_sum (pr_N w) (fun r => if p ≠ (r : Int) ∧ 0 < pr_m w p r then 1 else 0) else if 0 < pr_m w p q then -1 else 0
def pr_pk (w : Nat → Int) (b : Int) (N m : Nat) (v : Nat → Int) : Prop := (∀ j, j < m → 0 ≤ v j ∧ v j < N ∧ v j ≠ b ∧ 0 < pr_m w (v j) (v j)) ∧ (∀ i j, i < j → j < m → v i < v j) ∧ (∀ r : Nat, r < N → (r : Int) ≠ b → 0 < pr_m w r r → ∃ j, j < m ∧ v j = r) ∧ ∀ g : Int → Int, pd_sum m (fun j => g (v j)) = pd_sum N (fun r => if (r : Int) ≠ b ∧ 0 < pr_m w r r then g r else 0)
theorem pr_u_m {w : Nat → Int} {x : Int} : pr_u w x ↔ 0 < pr_m w x x := by
  rw [pr_m_pos]
  exact ⟨fun ⟨t, ht, h⟩ => ⟨t, ht, h, h⟩, fun ⟨t, ht, h⟩ => ⟨t, ht, h.1⟩⟩
theorem pr_pk.zero {w : Nat → Int} {b : Int} {v : Nat → Int} : pr_pk w b 0 0 v := ⟨fun j h => by omega, fun i j _ h => by omega, fun r h => by omega, fun g => rfl⟩
theorem pr_pk.skip {w : Nat → Int} {b : Int} {v : Nat → Int} {N m : Nat} (h : pr_pk w b N m v) (hs : (N : Int) = b ∨ ¬ 0 < pr_m w N N) : pr_pk w b (N + 1) m v := by
  obtain ⟨h1, h2, h3, h4⟩ := h
  refine ⟨fun j hj => ?_, h2, fun r hr hb hm => ?_, fun g => ?_⟩
  · have := h1 j hj; refine ⟨this.1, by omega, this.2.2⟩
  · by_cases e : r = N
    · subst e
      rcases hs with hs | hs
      · exact absurd hs hb
      · exact absurd hm hs
    · exact h3 r (by omega) hb hm
  · rw [h4 g]
    show _ = pd_sum N _ + (if (N : Int) ≠ b ∧ 0 < pr_m w N N then g N else 0)
    have hn : ¬ ((N : Int) ≠ b ∧ 0 < pr_m w N N) := fun z => by
      rcases hs with hs | hs
      · exact z.1 hs
      · exact hs z.2
    rw [if_neg hn, Int.add_zero]
theorem pr_pk.take {w : Nat → Int} {b : Int} {v v' : Nat → Int} {N m : Nat} (h : pr_pk w b N m v) (hb : (N : Int) ≠ b) (hm : 0 < pr_m w N N) (hv : ∀ j, v' j = if j = m then (N : Int) else v j) : pr_pk w b (N + 1) (m + 1) v' := by
  obtain ⟨h1, h2, h3, h4⟩ := h
  have hv1 : ∀ j, j < m → v' j = v j := fun j hj => by rw [hv, if_neg (by omega)]
  have hv2 : v' m = N := by rw [hv, if_pos rfl]
  refine ⟨fun j hj => ?_, fun i j hij hj => ?_, fun r hr hb' hm' => ?_, fun g => ?_⟩
  · by_cases e : j = m
    · subst e; rw [hv2]; exact ⟨by omega, by omega, hb, hm⟩
    · rw [hv1 j (by omega)]
      have := h1 j (by omega)
      exact ⟨this.1, by omega, this.2.2⟩
  · by_cases e : j = m
    · subst e; rw [hv2, hv1 i hij]; exact (h1 i hij).2.1
    · rw [hv1 i (by omega), hv1 j (by omega)]; exact h2 i j hij (by omega)
  · by_cases e : r = N
    · subst e; exact ⟨m, by omega, hv2⟩
    · obtain ⟨j, hj, e2⟩ := h3 r (by omega) hb' hm'
      exact ⟨j, by omega, by rw [hv1 j hj]; exact e2⟩
  · show pd_sum m _ + g (v' m) = pd_sum N _ + (if (N : Int) ≠ b ∧ 0 < pr_m w N N then g N else 0)
    rw [hv2, if_pos (show (N : Int) ≠ b ∧ 0 < pr_m w N N from ⟨hb, hm⟩), pd_sum_congr (g := fun j => g (v j)) (fun j hj => by rw [hv1 j hj]), h4 g]
/-- a flow can be asked for -/
def pr_fl (w : Nat → Int) (a b : Int) : Prop := (∃ set, pr_one w set ∧ ∀ x : Nat, x < 10 → (pb set x = true ↔ pr_u w x)) ∧ (0 ≤ a ∧ a < w 0 ∧ 0 ≤ b ∧ b < w 0 ∧ w 0 ≤ 10) ∧ a ≠ b ∧ pr_u w a ∧ pr_u w b
theorem pr_fl.conn {w : Nat → Int} {a b : Int} (h : pr_fl w a b) {P : Nat → Prop} (hc : pr_cl w P) {x y : Nat} (hx : (x : Int) < w 0) (hy : (y : Int) < w 0) (ux : pr_u w x) (uy : pr_u w y) (hP : P x) : P y := by
  obtain ⟨⟨set, h1, h2⟩, h3, -⟩ := h
  exact h1 P hc x y (by omega) (by omega) hx hy ((h2 x (by omega)).mpr ux) ((h2 y (by omega)).mpr uy) hP
set_option maxHeartbeats 2000000 in
theorem pm_init {w : Nat → Int} {a b : Int} {m : Nat} {v : Nat → Int} {R : Nat → Nat → Int} (hf : pr_fl w a b) (hk : pr_pk w b (pr_N w) m v) (hR : ∀ i j, i < m → j < m → R i j = if v j = a then (if v i = a then 1 else 0) else pr_L w (v i) (v j)) : ∃ f, pm_M R 1 0 m f := by
  obtain ⟨k1, k2, k3, k4⟩ := hk
  have hf' := hf
  obtain ⟨-, ⟨ra, ra', rb, rb', rN⟩, hab, ua, ub⟩ := hf'
  have hN : pr_N w ≤ 10 := by unfold pr_N; omega
  have ea : ((a.toNat : Nat) : Int) = a := by omega
  have eb : ((b.toNat : Nat) : Int) = b := by omega
  obtain ⟨f, hfm, hvf⟩ := k3 a.toNat (by unfold pr_N; omega) (by omega) (by rw [ea]; exact pr_u_m.mp ua)
  rw [ea] at hvf
  have inj : ∀ i j, i < m → j < m → v i = v j → i = j := by
    intro i j hi hj e
    rcases (show i < j ∨ i = j ∨ j < i by omega) with q | q | q
    · have := k2 i j q hj; omega
    · exact q
    · have := k2 j i q hi; omega
  have va : ∀ j, j < m → (v j = a ↔ j = f) := fun j hj => ⟨fun e => inj j f hj hfm (e.trans hvf.symm), fun e => by rw [e]; exact hvf⟩
  have hin : ∀ i, pm_in 0 m f i → i < m ∧ v i ≠ a := fun i hi => ⟨hi.2.1, fun e => hi.2.2 ((va i hi.2.1).mp e)⟩
  have hR1 : ∀ i j, pm_in 0 m f i → pm_in 0 m f j → R i j = pr_L w (v i) (v j) := fun i j hi hj => by
    rw [hR i j (hin i hi).1 (hin j hj).1, if_neg (hin j hj).2]
  -- the sums
  obtain ⟨S, hS⟩ : ∃ S : Int → Nat → Int, S = fun (p : Int) (r : Nat) => if p ≠ (r : Int) ∧ 0 < pr_m w p r then 1 else 0 := ⟨_, rfl⟩
  obtain ⟨T, hT⟩ : ∃ T : Int → Nat → Int, T = fun (p : Int) (r : Nat) => if p ≠ (r : Int) ∧ 0 < pr_m w p r ∧ (r : Int) ≠ a ∧ (r : Int) ≠ b ∧ 0 < pr_m w r r then 1 else 0 := ⟨_, rfl⟩
  have hsum : ∀ i, pm_in 0 m f i → pm_R R 0 m f i = pd_sum (pr_N w) (fun r => S (v i) r - T (v i) r) := by
    intro i hi
    obtain ⟨him, hia⟩ := hin i hi
    have ki := k1 i him
    have e1 : pm_R R 0 m f i = pd_sum m (fun j => (fun x => if x = a then 0 else pr_L w (v i) x) (v j)) := by
      unfold pm_R
      refine pd_sum_congr (fun j hj => ?_)
      by_cases e : j = f
      · rw [if_neg (by omega)]
        simp only [if_pos ((va j hj).mpr e)]
      · rw [if_pos ⟨Nat.zero_le _, e⟩, hR i j him hj]
        have : v j ≠ a := fun z => e ((va j hj).mp z)
        simp only [if_neg this]
    rw [e1, k4 (fun x => if x = a then 0 else pr_L w (v i) x)]
    have e2 : pd_sum (pr_N w) (fun r => if (r : Int) = v i then pd_sum (pr_N w) (S (v i)) else 0) = pd_sum (pr_N w) (S (v i)) := by
      rw [pd_sum_one (a := (v i).toNat) (by unfold pr_N at ki ⊢; omega) (fun r hr hne => by rw [if_neg (by omega)])]
      rw [if_pos (by omega)]
    rw [pd_sum_sub, ← e2, ← pd_sum_sub]
    refine pd_sum_congr (fun r hr => ?_)
    by_cases er : (r : Int) = v i
    · rw [if_pos er, hT]
      have c1 : ((r : Int) ≠ b ∧ 0 < pr_m w r r) := by rw [er]; exact ki.2.2
      simp only []
      rw [if_pos c1, if_neg (by rw [er]; exact hia), if_neg (by intro z; exact z.1 er.symm)]
      unfold pr_L
      rw [if_pos er.symm, hS]
      show _ = pd_sum (pr_N w) (fun r => if v i ≠ (r : Int) ∧ 0 < pr_m w (v i) r then 1 else 0) - 0
      omega
    · rw [if_neg er, hT]
      simp only []
      by_cases c1 : (r : Int) ≠ b ∧ 0 < pr_m w r r
      · rw [if_pos c1]
        by_cases c2 : (r : Int) = a
        · rw [if_pos c2, if_neg (fun z => z.2.2.1 c2)]; rfl
        · rw [if_neg c2]
          unfold pr_L
          rw [if_neg (fun z => er z.symm)]
          by_cases c3 : 0 < pr_m w (v i) r
          · rw [if_pos c3, if_pos ⟨fun z => er z.symm, c3, c2, c1.1, c1.2⟩]; rfl
          · rw [if_neg c3, if_neg (fun z => c3 z.2.1)]; rfl
      · rw [if_neg c1, if_neg (fun z => c1 ⟨z.2.2.2.1, z.2.2.2.2⟩)]; rfl
  have hST : ∀ p r, 0 ≤ S p r - T p r := by
    intro p r
    rw [hS, hT]
    simp only []
    by_cases c : p ≠ (r : Int) ∧ 0 < pr_m w p r ∧ (r : Int) ≠ a ∧ (r : Int) ≠ b ∧ 0 < pr_m w r r
    · rw [if_pos c, if_pos ⟨c.1, c.2.1⟩]; omega
    · rw [if_neg c]; split <;> omega
  have hpos : ∀ i, pm_in 0 m f i → ∀ r : Nat, r < pr_N w → pr_s w (v i) r → ((r : Int) = a ∨ (r : Int) = b) → 0 < pm_R R 0 m f i := by
    intro i hi r hr hs hab'
    rw [hsum i hi]
    have := pd_sum_nn (f := fun r => S (v i) r - T (v i) r) (fun q _ => hST (v i) q) r hr
    have e : S (v i) r - T (v i) r = 1 := by
      rw [hS, hT]
      simp only []
      rw [if_pos (show v i ≠ (r : Int) ∧ 0 < pr_m w (v i) r from hs), if_neg (fun z => by rcases hab' with q | q; exact z.2.2.1 q; exact z.2.2.2.1 q)]
      rfl
    omega
  refine ⟨f, by omega, by decide, fun i j hi hj hne => ?_, fun i hi => ?_, fun i hi => ?_, fun P hP hcl => ?_, fun _ i _ him => ?_⟩
  · rw [hR1 i j hi hj]
    unfold pr_L
    rw [if_neg (fun e => hne (inj i j hi.2.1 hj.2.1 e))]
    split <;> omega
  · rw [hsum i hi]
    have z := pd_sum_le (n := pr_N w) (f := fun _ => 0) (g := fun r => S (v i) r - T (v i) r) (fun r _ => hST (v i) r)
    rw [pd_sum_zero (fun _ _ => rfl)] at z
    exact z
  · rw [hR1 i i hi hi]
    unfold pr_L
    rw [if_pos rfl]
    have ki := k1 i hi.2.1
    have e3 : ∀ n : Nat, pd_sum n (fun _ => (1 : Int)) = n := by
      intro n
      induction n with
      | zero => rfl
      | succ n ih => simp only [pd_sum, ih]; omega
    have z := pd_sum_le (n := pr_N w) (f := fun r => if v i ≠ (r : Int) ∧ 0 < pr_m w (v i) r then (1 : Int) else 0) (g := fun r => 1 + (-1) * (if r = (v i).toNat then 1 else 0)) (fun r _ => by
      by_cases c : r = (v i).toNat
      · rw [if_neg (fun z => z.1 (by omega)), if_pos c]; decide
      · rw [if_neg c]; split <;> omega)
    have e4 : pd_sum (pr_N w) (fun r => if r = (v i).toNat then (1 : Int) else 0) = 1 := by
      rw [pd_sum_one (a := (v i).toNat) (by unfold pr_N at ki ⊢; omega) (fun r hr hne => by rw [if_neg hne]), if_pos rfl]
    rw [pd_sum_add, e3, pd_sum_mul, e4] at z
    omega
  · obtain ⟨i0, hi0, hP0⟩ := hP
    apply Classical.byContradiction
    intro hno
    have hcl2 : pr_cl w (fun x => ∃ i, pm_in 0 m f i ∧ P i ∧ v i = x) := by
      intro p q hp hq hs hPp
      obtain ⟨i, hi, hPi, e⟩ := hPp
      rw [← e] at hs
      by_cases c : (q : Int) = a ∨ (q : Int) = b
      · exact absurd ⟨i, hi, hPi, hpos i hi q hq hs c⟩ hno
      · obtain ⟨j, hj, ej⟩ := k3 q hq (fun z => c (Or.inr z)) (pr_u_m.mp (pr_s_u hs).2)
        have hjn : pm_in 0 m f j := ⟨Nat.zero_le _, hj, fun z => c (Or.inl (by rw [← ej]; exact (va j hj).mpr z))⟩
        refine ⟨j, hjn, hcl i j hi hjn hPi ?_, ej⟩
        rw [hR1 i j hi hjn]
        unfold pr_L
        rw [ej, if_neg hs.1, if_pos hs.2]
        decide
    have ki := k1 i0 hi0.2.1
    have ei : (((v i0).toNat : Nat) : Int) = v i0 := by omega
    obtain ⟨i, hi, -, e⟩ := hf.conn (x := (v i0).toNat) (y := b.toNat) hcl2 (by unfold pr_N at ki; omega) (by omega) (by rw [ei]; exact pr_u_m.mpr ki.2.2.2) (by rw [eb]; exact ub) ⟨i0, hi0, hP0, by omega⟩
    rw [eb] at e
    exact (k1 i hi.2.1).2.2.1 e
  · rw [hR i f him hfm, if_pos hvf]
    by_cases c : i = f
    · rw [if_pos ((va i him).mpr c), if_pos c]
    · rw [if_neg (fun z => c ((va i him).mp z)), if_neg c]
