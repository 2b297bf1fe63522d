/-! THE ELIMINATION OF A NET'S MATRIX: rows whose sums aren't below 0, nothing above 0 beside the diagonal, no part without an end -/
theorem pd_sum_le_one {n a : Nat} {f : Nat → Int} (ha : a < n) (h : ∀ i, i < n → f i ≤ 0) : pd_sum n f ≤ f a := by
  induction n with
  | zero => omega
  | succ n ih =>
    simp only [pd_sum]
    have hn := h n (by omega)
    by_cases e : a = n
    · subst e
      have : pd_sum a f ≤ 0 := by
        by_cases h0 : 0 < a
        · have := h 0 (by omega)
          have z : ∀ m, m ≤ a → pd_sum m f ≤ 0 := by
            intro m
            induction m with
            | zero => intro _; exact Int.le_refl 0
            | succ m im =>
              intro hm
              have := h m (by omega)
              have := im (by omega)
              simp only [pd_sum]
              omega
          exact z a (Nat.le_refl a)
        · have : a = 0 := by omega
          subst this
          exact Int.le_refl 0
      omega
    · have := ih (by omega) (fun i hi => h i (by omega))
      omega
theorem pd_sum_le_two {n a b : Nat} {f : Nat → Int} (ha : a < n) (hb : b < n) (hab : a ≠ b) (h : ∀ i, i < n → i ≠ a → f i ≤ 0) : pd_sum n f ≤ f a + f b := by
  have e : pd_sum n f = pd_sum n (fun i => if i = a then f a else 0) + pd_sum n (fun i => if i = a then 0 else f i) := by
    rw [← pd_sum_add]
    refine pd_sum_congr (fun i hi => ?_)
    by_cases h1 : i = a
    · subst h1; simp only [if_true]; omega
    · simp only [if_neg h1]; omega
  have e1 : pd_sum n (fun i => if i = a then f a else 0) = f a := by
    rw [pd_sum_one (a := a) ha (fun i hi hne => by simp only [if_neg hne])]
    simp only [if_true]
  have e2 := pd_sum_le_one (f := fun i => if i = a then 0 else f i) hb (fun i hi => by
    by_cases h1 : i = a
    · simp only [if_pos h1]; omega
    · simp only [if_neg h1]; exact h i hi h1)
  simp only [if_neg (Ne.symm hab)] at e2
  omega
def pm_in (k n f i : Nat) : Prop := k ≤ i ∧ i < n ∧ i ≠ f
def pm_R (B : Nat → Nat → Int) (k n f i : Nat) : Int := pd_sum n (fun j => if k ≤ j ∧ j ≠ f then B i j else 0)
def pm_M (B : Nat → Nat → Int) (D : Int) (k n f : Nat) : Prop :=
  0 < D ∧ D ≤ 9 ^ k ∧ (∀ i j, pm_in k n f i → pm_in k n f j → i ≠ j → B i j ≤ 0) ∧ (∀ i, pm_in k n f i → 0 ≤ pm_R B k n f i) ∧ (∀ i, pm_in k n f i → B i i ≤ 9 * D) ∧ (∀ P : Nat → Prop, (∃ i, pm_in k n f i ∧ P i) → (∀ i j, pm_in k n f i → pm_in k n f j → P i → B i j ≠ 0 → P j) → ∃ i, pm_in k n f i ∧ P i ∧ 0 < pm_R B k n f i) ∧ (k ≤ f → ∀ i, k ≤ i → i < n → B i f = if i = f then D else 0)
section MM
variable {B B' : Nat → Nat → Int} {D : Int} {k n f : Nat}
theorem pm_R_split {i : Nat} (hk : k < n) (hf : k ≠ f) : pm_R B k n f i = B i k + pm_R B (k + 1) n f i := by
  unfold pm_R
  have e : pd_sum n (fun j => if k ≤ j ∧ j ≠ f then B i j else 0) = pd_sum n (fun j => if j = k then B i k else 0) + pd_sum n (fun j => if k + 1 ≤ j ∧ j ≠ f then B i j else 0) := by
    rw [← pd_sum_add]
    refine pd_sum_congr (fun j hj => ?_)
    by_cases h1 : j = k
    · subst h1
      rw [if_pos ⟨Nat.le_refl _, hf⟩, if_pos rfl, if_neg (by omega)]; omega
    · rw [if_neg h1]
      by_cases h2 : k + 1 ≤ j ∧ j ≠ f
      · rw [if_pos h2, if_pos ⟨by omega, h2.2⟩]; omega
      · rw [if_neg h2, if_neg (fun h => h2 ⟨by omega, h.2⟩)]; omega
  rw [e, pd_sum_one (a := k) hk (fun j hj hne => by simp only [if_neg hne])]
  simp only [if_true]
theorem pm_piv (h : pm_M B D k n f) (hk : k < n) : 0 < B k k := by
  obtain ⟨h1, -, h2, h3, h4, h5, h6⟩ := h
  by_cases hf : k = f
  · subst hf
    rw [h6 (Nat.le_refl _) k (Nat.le_refl _) hk, if_pos rfl]
    exact h1
  · have hin : pm_in k n f k := ⟨Nat.le_refl _, hk, hf⟩
    by_cases hp : 0 < B k k
    · exact hp
    · exfalso
      have hneg : ∀ j, j < n → (if k ≤ j ∧ j ≠ f then B k j else 0) ≤ 0 := by
        intro j hj
        by_cases hc : k ≤ j ∧ j ≠ f
        · rw [if_pos hc]
          by_cases he : j = k
          · subst he; omega
          · exact h2 k j hin ⟨hc.1, hj, hc.2⟩ (Ne.symm he)
        · rw [if_neg hc]; omega
      have hR := h3 k hin
      obtain ⟨i, hi, hPi, hpos⟩ := h5 (fun i => i = k) ⟨k, hin, rfl⟩ (fun i j hi hj hPi hne => by
        subst hPi
        by_cases he : j = i
        · exact he
        · exfalso
          have := pd_sum_le_one (f := fun j => if i ≤ j ∧ j ≠ f then B i j else 0) hj.2.1 hneg
          simp only [if_pos (show i ≤ j ∧ j ≠ f from ⟨hj.1, hj.2.2⟩)] at this
          have h9 := h2 i j hi hj (Ne.symm he)
          unfold pm_R at hR
          omega)
      subst hPi
      have := pd_sum_le_one (f := fun j => if i ≤ j ∧ j ≠ f then B i j else 0) hk hneg
      simp only [if_pos (show i ≤ i ∧ i ≠ f from ⟨Nat.le_refl _, hf⟩)] at this
      unfold pm_R at hpos
      omega
theorem pm_abs (h : pm_M B D k n f) {i j : Nat} (hi : pm_in k n f i) (hj : pm_in k n f j) : -(9 * D) ≤ B i j ∧ B i j ≤ 9 * D := by
  obtain ⟨h1, -, h2, h3, h4, h5, h6⟩ := h
  have hd : 0 ≤ B i i := by
    have hR := h3 i hi
    by_cases hp : 0 ≤ B i i
    · exact hp
    · exfalso
      have := pd_sum_le_one (f := fun j => if k ≤ j ∧ j ≠ f then B i j else 0) hi.2.1 (fun j hj => by
        by_cases hc : k ≤ j ∧ j ≠ f
        · rw [if_pos hc]
          by_cases he : j = i
          · subst he; omega
          · exact h2 i j hi ⟨hc.1, hj, hc.2⟩ (Ne.symm he)
        · rw [if_neg hc]; omega)
      simp only [if_pos (show k ≤ i ∧ i ≠ f from ⟨hi.1, hi.2.2⟩)] at this
      unfold pm_R at hR
      omega
  have hb := h4 i hi
  by_cases he : i = j
  · subst he; omega
  · have hn := h2 i j hi hj he
    have hR := h3 i hi
    have := pd_sum_le_two (f := fun j => if k ≤ j ∧ j ≠ f then B i j else 0) hi.2.1 hj.2.1 he (fun q hq hne => by
      by_cases hc : k ≤ q ∧ q ≠ f
      · rw [if_pos hc]
        exact h2 i q hi ⟨hc.1, hq, hc.2⟩ (Ne.symm hne)
      · rw [if_neg hc]; omega)
    simp only [if_pos (show k ≤ i ∧ i ≠ f from ⟨hi.1, hi.2.2⟩), if_pos (show k ≤ j ∧ j ≠ f from ⟨hj.1, hj.2.2⟩)] at this
    unfold pm_R at hR
    omega
theorem pm_mulnn {x y : Int} (hx : x ≤ 0) (hy : y ≤ 0) : 0 ≤ x * y := by
  have := Int.mul_nonneg (show 0 ≤ -x by omega) (show 0 ≤ -y by omega)
  rw [Int.neg_mul_neg] at this
  exact this
theorem pm_mulnp {x y : Int} (hx : x ≤ 0) (hy : 0 ≤ y) : x * y ≤ 0 := by
  have := Int.mul_nonneg (show 0 ≤ -x by omega) hy
  rw [Int.neg_mul] at this
  omega
theorem pm_pos0 {x y : Int} (hx : 0 < x) (h : 0 ≤ x * y) : 0 ≤ y := by
  by_cases hy : 0 ≤ y
  · exact hy
  · have := Int.mul_lt_mul_of_pos_left (show y < 0 by omega) hx
    rw [Int.mul_zero] at this
    omega
theorem pm_neg0 {x y : Int} (hx : 0 < x) (h : x * y ≤ 0) : y ≤ 0 := by
  have := pm_pos0 (y := -y) hx (by rw [Int.mul_neg]; omega)
  omega
theorem pm_mul0 {x y : Int} (h : x * y = 0) : x = 0 ∨ y = 0 := Int.mul_eq_zero.mp h
theorem pm_step (h : pm_M B D k n f) (hk : k < n) (hB : ∀ i j, B i j * B k k - B i k * B k j = D * B' i j) : pm_M B' (B k k) (k + 1) n f := by
  have hp := pm_piv h hk
  obtain ⟨h1, h1b, h2, h3, h4, h5, h6⟩ := h
  have hD : D ≠ 0 := by omega
  by_cases hf : k = f
  · subst hf
    have e : B k k = D := by rw [h6 (Nat.le_refl _) k (Nat.le_refl _) hk, if_pos rfl]
    have hin : ∀ i, pm_in (k + 1) n k i ↔ pm_in k n k i := fun i => by unfold pm_in; omega
    have hBe : ∀ i j, pm_in k n k i → B' i j = B i j := by
      intro i j hi
      have := hB i j
      rw [e, h6 (Nat.le_refl _) i hi.1 hi.2.1, if_neg hi.2.2, Int.zero_mul, Int.sub_zero, Int.mul_comm] at this
      exact (Int.eq_of_mul_eq_mul_left hD this).symm
    have hRe : ∀ i, pm_in k n k i → pm_R B' (k + 1) n k i = pm_R B k n k i := by
      intro i hi
      unfold pm_R
      refine pd_sum_congr (fun j hj => ?_)
      rw [hBe i j hi]
      by_cases hc : k ≤ j ∧ j ≠ k
      · rw [if_pos hc, if_pos (by omega)]
      · rw [if_neg hc, if_neg (by omega)]
    rw [e]
    refine ⟨h1, ?_, fun i j hi hj hne => ?_, fun i hi => ?_, fun i hi => ?_, fun P hP hcl => ?_, fun hc => by omega⟩
    · rw [Int.pow_succ]; have : (0:Int) ≤ 9 ^ k := by omega
      omega
    · rw [hBe i j ((hin i).mp hi)]; exact h2 i j ((hin i).mp hi) ((hin j).mp hj) hne
    · rw [hRe i ((hin i).mp hi)]; exact h3 i ((hin i).mp hi)
    · rw [hBe i i ((hin i).mp hi)]; exact h4 i ((hin i).mp hi)
    · obtain ⟨i, hi, hPi⟩ := hP
      obtain ⟨i', hi', hPi', hpos⟩ := h5 P ⟨i, (hin i).mp hi, hPi⟩ (fun a b ha hb hPa hne => hcl a b ((hin a).mpr ha) ((hin b).mpr hb) hPa (by rw [hBe a b ha]; exact hne))
      exact ⟨i', (hin i').mpr hi', hPi', by rw [hRe i' hi']; exact hpos⟩
  · have hkin : pm_in k n f k := ⟨Nat.le_refl _, hk, hf⟩
    have up : ∀ i, pm_in (k + 1) n f i → pm_in k n f i ∧ i ≠ k := fun i hi => ⟨⟨by have := hi.1; omega, hi.2⟩, by have := hi.1; omega⟩
    have hR' : ∀ i, D * pm_R B' (k + 1) n f i = B k k * pm_R B k n f i - B i k * pm_R B k n f k := by
      intro i
      have e1 : D * pm_R B' (k + 1) n f i = B k k * pm_R B (k + 1) n f i + (- B i k) * pm_R B (k + 1) n f k := by
        unfold pm_R
        rw [← pd_sum_mul, ← pd_sum_mul, ← pd_sum_mul, ← pd_sum_add]
        refine pd_sum_congr (fun j hj => ?_)
        by_cases hc : k + 1 ≤ j ∧ j ≠ f
        · rw [if_pos hc, if_pos hc, if_pos hc, ← hB]
          grind
        · rw [if_neg hc, if_neg hc, if_neg hc]
          simp
      rw [e1, pm_R_split hk hf, pm_R_split (i := k) hk hf]
      grind
    refine ⟨hp, ?_, fun i j hi hj hne => ?_, fun i hi => ?_, fun i hi => ?_, fun P hP hcl => ?_, fun hc i hi hn => ?_⟩
    · rw [Int.pow_succ]
      have := h4 k hkin
      omega
    · obtain ⟨ui, nk⟩ := up i hi
      obtain ⟨uj, mk⟩ := up j hj
      refine pm_neg0 h1 ?_
      rw [← hB]
      have a1 := pm_mulnp (h2 i j ui uj hne) (Int.le_of_lt hp)
      have a2 := pm_mulnn (h2 i k ui hkin nk) (h2 k j hkin uj (Ne.symm mk))
      omega
    · obtain ⟨ui, nk⟩ := up i hi
      refine pm_pos0 h1 ?_
      rw [hR']
      have a1 := Int.mul_nonneg (Int.le_of_lt hp) (h3 i ui)
      have a2 := pm_mulnp (h2 i k ui hkin nk) (h3 k hkin)
      omega
    · obtain ⟨ui, nk⟩ := up i hi
      have a2 := pm_mulnn (h2 i k ui hkin nk) (h2 k i hkin ui (Ne.symm nk))
      have a3 := hB i i
      have a4 := Int.mul_le_mul_of_nonneg_right (h4 i ui) (Int.le_of_lt hp)
      have : D * B' i i ≤ D * (9 * B k k) := by
        rw [← a3]
        have : 9 * D * B k k = D * (9 * B k k) := by grind
        omega
      exact Int.le_of_mul_le_mul_left this h1
    · obtain ⟨i0, hi0, hP0⟩ := hP
      apply Classical.byContradiction
      intro hno
      have hzero : ∀ i, pm_in (k + 1) n f i → P i → pm_R B k n f i = 0 ∧ (B i k ≠ 0 → pm_R B k n f k = 0) := by
        intro i hi hPi
        obtain ⟨ui, nk⟩ := up i hi
        have hr : pm_R B' (k + 1) n f i ≤ 0 := by
          apply Classical.byContradiction
          intro hq
          exact hno ⟨i, hi, hPi, by omega⟩
        have a1 := Int.mul_nonneg (Int.le_of_lt hp) (h3 i ui)
        have a2 := pm_mulnp (h2 i k ui hkin nk) (h3 k hkin)
        have a3 := hR' i
        have a4 : D * pm_R B' (k + 1) n f i ≤ 0 := by
          have := Int.mul_le_mul_of_nonneg_left hr (Int.le_of_lt h1)
          omega
        have a5 : B k k * pm_R B k n f i = 0 := by omega
        have a6 : B i k * pm_R B k n f k = 0 := by omega
        refine ⟨?_, fun hne => ?_⟩
        · rcases pm_mul0 a5 with h | h
          · omega
          · exact h
        · rcases pm_mul0 a6 with h | h
          · exact absurd h hne
          · exact h
      have hlt : ∀ i j, pm_in (k + 1) n f i → pm_in (k + 1) n f j → i ≠ j → (B i j ≠ 0 ∨ (B i k ≠ 0 ∧ B k j ≠ 0)) → B' i j ≠ 0 := by
        intro i j hi hj hne hc hz
        obtain ⟨ui, nk⟩ := up i hi
        obtain ⟨uj, mk⟩ := up j hj
        have a0 := hB i j
        rw [hz, Int.mul_zero] at a0
        have a1 := pm_mulnp (h2 i j ui uj hne) (Int.le_of_lt hp)
        have a2 := pm_mulnn (h2 i k ui hkin nk) (h2 k j hkin uj (Ne.symm mk))
        have b1 : B i j * B k k = 0 := by omega
        have b2 : B i k * B k j = 0 := by omega
        rcases hc with hc | ⟨hc1, hc2⟩
        · rcases pm_mul0 b1 with h | h
          · exact hc h
          · omega
        · rcases pm_mul0 b2 with h | h
          · exact hc1 h
          · exact hc2 h
      obtain ⟨i, hi, hPi, hpos⟩ := h5 (fun i => (i ≠ k ∧ P i) ∨ (i = k ∧ ∃ j, pm_in (k + 1) n f j ∧ P j ∧ B j k ≠ 0)) ⟨i0, (up i0 hi0).1, Or.inl ⟨(up i0 hi0).2, hP0⟩⟩ (fun i j hi hj hPi hne => by
        have dn : ∀ a, pm_in k n f a → a ≠ k → pm_in (k + 1) n f a := fun a ha hak => ⟨by have := ha.1; omega, ha.2⟩
        rcases hPi with ⟨nk, hPi⟩ | ⟨ek, q, hq, hPq, hqk⟩
        · by_cases hjk : j = k
          · exact Or.inr ⟨hjk, i, dn i hi nk, hPi, by rw [← hjk]; exact hne⟩
          · refine Or.inl ⟨hjk, ?_⟩
            by_cases hij : i = j
            · rw [← hij]; exact hPi
            · exact hcl i j (dn i hi nk) (dn j hj hjk) hPi (hlt i j (dn i hi nk) (dn j hj hjk) hij (Or.inl hne))
        · subst ek
          by_cases hjk : j = i
          · exact Or.inr ⟨hjk, q, hq, hPq, hqk⟩
          · refine Or.inl ⟨hjk, ?_⟩
            by_cases hqj : q = j
            · rw [← hqj]; exact hPq
            · exact hcl q j hq (dn j hj hjk) hPq (hlt q j hq (dn j hj hjk) hqj (Or.inr ⟨hqk, hne⟩)))
      rcases hPi with ⟨nk, hPi⟩ | ⟨ek, q, hq, hPq, hqk⟩
      · have := (hzero i ⟨by have := hi.1; omega, hi.2⟩ hPi).1
        omega
      · have := (hzero q hq hPq).2 hqk
        rw [ek] at hpos
        omega
    · have a0 := hB i f
      rw [h6 (by omega) i (by omega) hn, h6 (by omega) k (Nat.le_refl _) hk, if_neg hf, Int.mul_zero, Int.sub_zero] at a0
      by_cases e : i = f
      · rw [if_pos e] at a0 ⊢
        exact (Int.eq_of_mul_eq_mul_left hD a0).symm
      · rw [if_neg e] at a0 ⊢
        rw [Int.zero_mul] at a0
        rcases pm_mul0 a0.symm with h | h
        · exact absurd h hD
        · exact h
end MM
