/-! shared counts of the class, as shareSides changes them -/
theorem sh_w {S S1 S2 : Nat → Int} {u v d : Int} (hu : 0 ≤ u ∧ u ≤ 9) (hv : 0 ≤ v ∧ v ≤ 9) (e1 : ∀ j, S1 j = if j = (10 * u + v).toNat then S (10 * u + v).toNat + d else S j) (e2 : ∀ j, S2 j = if j = (10 * v + u).toNat then S1 (10 * v + u).toNat + d else S1 j) (p q : Nat) (hp : p < 10) (hq : q < 10) : S2 (10 * p + q) = S (10 * p + q) + d * pf_e u v p q := by
  have e3 : S2 (10 * p + q) = S1 (10 * p + q) + d * (if u = q ∧ v = p then 1 else 0) := by
    rw [e2]
    by_cases h : u = q ∧ v = p
    · rw [if_pos (by omega), if_pos h, show (10 * v + u).toNat = 10 * p + q by omega]; omega
    · rw [if_neg (by omega), if_neg h]; omega
  have e4 : S1 (10 * p + q) = S (10 * p + q) + d * (if u = p ∧ v = q then 1 else 0) := by
    rw [e1]
    by_cases h : u = p ∧ v = q
    · rw [if_pos (by omega), if_pos h, show (10 * u + v).toNat = 10 * p + q by omega]; omega
    · rw [if_neg (by omega), if_neg h]; omega
  rw [e3, e4]
  unfold pf_e
  rw [Int.mul_add]
  omega
def sh_s (c : Nat → Nat → Int) (t : Nat) (k : Int) (p q : Int) : Int := (if 0 < k then pf_e (c t 0) (c t 1) p q else 0) + (if 1 < k then pf_e (c t 1) (c t 2) p q else 0) + (if 2 < k then pf_e (c t 2) (c t 0) p q else 0)
def sh_k (c : Nat → Nat → Int) (t : Nat) (S S' : Nat → Int) (d k : Int) : Prop := ∀ p q : Nat, p < 10 → q < 10 → S' (10 * p + q) = S (10 * p + q) + d * sh_s c t k p q
theorem sh_k.zero {c : Nat → Nat → Int} {t : Nat} {S : Nat → Int} {d : Int} : sh_k c t S S d 0 := by
  intro p q _ _
  unfold sh_s
  rw [if_neg (by omega), if_neg (by omega), if_neg (by omega)]
  simp
theorem pf_e_le {u v p q : Int} : pf_e u v p q ≤ 2 := by unfold pf_e; split <;> split <;> omega
theorem sh_s_b {c : Nat → Nat → Int} {t : Nat} {k p q : Int} : 0 ≤ sh_s c t k p q ∧ sh_s c t k p q ≤ 6 := by
  have a0 := @pf_e_nn (c t 0) (c t 1) p q
  have a1 := @pf_e_nn (c t 1) (c t 2) p q
  have a2 := @pf_e_nn (c t 2) (c t 0) p q
  have b0 := @pf_e_le (c t 0) (c t 1) p q
  have b1 := @pf_e_le (c t 1) (c t 2) p q
  have b2 := @pf_e_le (c t 2) (c t 0) p q
  unfold sh_s
  split <;> split <;> split <;> omega
theorem sh_k.b {c : Nat → Nat → Int} {t : Nat} {S S' : Nat → Int} {d k : Int} (h : sh_k c t S S' d k) (hd : d = 1 ∨ d = -1) (hS : ∀ j : Nat, j < 100 → -1000 ≤ S j ∧ S j ≤ 1000) : ∀ j : Nat, j < 100 → -1006 ≤ S' j ∧ S' j ≤ 1006 := by
  intro j hj
  have e := h (j / 10) (j % 10) (by omega) (by omega)
  rw [show 10 * (j / 10) + j % 10 = j by omega] at e
  have b := @sh_s_b c t k (j / 10 : Nat) (j % 10 : Nat)
  have s := hS j hj
  rw [e]
  rcases hd with r | r <;> rw [r] <;> omega
theorem sh_k.step {c : Nat → Nat → Int} {t : Nat} {S S' S1 S2 : Nat → Int} {d k u v : Int} (h : sh_k c t S S' d k) (hk : 0 ≤ k ∧ k < 3) (hu : 0 ≤ u ∧ u ≤ 9) (hv : 0 ≤ v ∧ v ≤ 9) (eu : u = c t k.toNat) (ev : v = c t ((k + 1) % 3).toNat) (e1 : ∀ j, S1 j = if j = (10 * u + v).toNat then S' (10 * u + v).toNat + d else S' j) (e2 : ∀ j, S2 j = if j = (10 * v + u).toNat then S1 (10 * v + u).toNat + d else S1 j) : sh_k c t S S2 d (k + 1) := by
  intro p q hp hq
  rw [sh_w hu hv e1 e2 p q hp hq, h p q hp hq, eu, ev]
  have : sh_s c t (k + 1) p q = sh_s c t k p q + pf_e (c t k.toNat) (c t ((k + 1) % 3).toNat) p q := by
    unfold sh_s
    rcases (show k = 0 ∨ k = 1 ∨ k = 2 by omega) with r | r | r <;> subst r <;> simp
  rw [this, Int.mul_add]
  omega
theorem sh_k.fin {c : Nat → Nat → Int} {t : Nat} {S S' : Nat → Int} {d : Int} (h : sh_k c t S S' d 3) : ∀ p q : Nat, p < 10 → q < 10 → S' (10 * p + q) = S (10 * p + q) + d * pf_cn c t p q := by
  intro p q hp hq
  rw [h p q hp hq]
  rfl
