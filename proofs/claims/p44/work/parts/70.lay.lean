/-! LAYING in the reference -/
def pl_c (w : Nat → Int) : Nat → Nat → Nat := fun t k => (pr_c w t k).toNat
def pl_s (w : Nat → Int) : Nat → Int := fun t => w (8 + 4 * t + 3)
def pl_a (w : Nat → Int) : Nat → Int := fun p => w (80 + 4 * p)
def pl_b (w lo hi : Nat → Int) : Prop := ∀ c : Nat, (c : Int) < 3 * w (1 : Int).toNat → (0 ≤ lo c ∧ lo c ≤ 360) ∧ (0 ≤ hi c ∧ hi c ≤ 360)
theorem ly_bit {w : Nat → Int} {x1 t k z b : Int} (h1 : 0 ≤ x1 ∧ x1 ≤ 1023) (ht : 0 ≤ t) (hk : 0 ≤ k) (e : z = w (8 + 4 * t + k).toNat) (tt : (b = 1 ∧ pb x1 z.toNat = true) ∨ (b = 0 ∧ pb x1 z.toNat = false)) : (b = 1 ∧ x1.toNat.testBit (pl_c w t.toNat k.toNat) = true) ∨ (b = 0 ∧ x1.toNat.testBit (pl_c w t.toNat k.toNat) = false) := by
  have ec : pl_c w t.toNat k.toNat = z.toNat := by
    unfold pl_c pr_c
    rw [show 8 + 4 * t.toNat + k.toNat = (8 + 4 * t + k).toNat by omega, ← e]
  rw [ec, ← pb_nat h1.1 (by omega)]
  exact tt
theorem ly_i1 {w V : Nat → Int} {x1 t k b : Int} (ht : 0 ≤ t) (hk : 0 ≤ k) (tt : (b = 1 ∧ x1.toNat.testBit (pl_c w t.toNat k.toNat) = true) ∨ (b = 0 ∧ x1.toNat.testBit (pl_c w t.toNat k.toNat) = false)) (hb : b = 1) : V (3 * t + k).toNat = ph_i x1.toNat (pl_c w) V t.toNat k.toNat := by
  rcases tt with q | q
  · unfold ph_i
    rw [if_pos q.2, show 3 * t.toNat + k.toNat = (3 * t + k).toNat by omega]
  · omega
theorem ly_i0 {w V : Nat → Int} {x1 t k b : Int} (tt : (b = 1 ∧ x1.toNat.testBit (pl_c w t.toNat k.toNat) = true) ∨ (b = 0 ∧ x1.toNat.testBit (pl_c w t.toNat k.toNat) = false)) (hb : ¬ b = 1) : 0 = ph_i x1.toNat (pl_c w) V t.toNat k.toNat := by
  rcases tt with q | q
  · exact absurd q.1 hb
  · unfold ph_i
    rw [if_neg (by rw [q.2]; decide)]
theorem ly_o1 {w V : Nat → Int} {x1 t k b : Int} (tt : (b = 1 ∧ x1.toNat.testBit (pl_c w t.toNat k.toNat) = true) ∨ (b = 0 ∧ x1.toNat.testBit (pl_c w t.toNat k.toNat) = false)) (hb : b = 1) : 0 = ph_o x1.toNat (pl_c w) V t.toNat k.toNat := by
  rcases tt with q | q
  · unfold ph_o
    rw [if_pos q.2]
  · omega
theorem ly_o0 {w V : Nat → Int} {x1 t k b : Int} (ht : 0 ≤ t) (hk : 0 ≤ k) (tt : (b = 1 ∧ x1.toNat.testBit (pl_c w t.toNat k.toNat) = true) ∨ (b = 0 ∧ x1.toNat.testBit (pl_c w t.toNat k.toNat) = false)) (hb : ¬ b = 1) : V (3 * t + k).toNat = ph_o x1.toNat (pl_c w) V t.toNat k.toNat := by
  rcases tt with q | q
  · exact absurd q.1 hb
  · unfold ph_o
    rw [if_neg (by rw [q.2]; decide), show 3 * t.toNat + k.toNat = (3 * t + k).toNat by omega]
theorem pd_sum3 {f : Nat → Int} : pd_sum 3 f = f 0 + f 1 + f 2 := by simp [pd_sum]
theorem ly_m {w U L : Nat → Int} {X : Nat} {L4 L5 L6 t s z a : Int} (h4 : L4 = pd_sum L6.toNat (ph_i X (pl_c w) U t.toNat)) (h5 : L5 = pd_sum L6.toNat (ph_o X (pl_c w) L t.toNat)) (h6 : L6 = 3) (ht : 0 ≤ t) (hs : s = w (8 + 4 * t + 3).toNat) (p : z = L4 ∨ z = s - L5) (q : z ≤ L4 ∧ z ≤ s - L5) (ha : a = pd_sum t.toNat (ph_m (pl_c w) (pl_s w) U L X)) : a + z = pd_sum (t + 1).toNat (ph_m (pl_c w) (pl_s w) U L X) := by
  rw [pd_sum_S ht, ha]
  subst h6
  rw [show (3 : Int).toNat = 3 from rfl, pd_sum3] at h4 h5
  have e : pl_s w t.toNat = s := by
    unfold pl_s
    rw [show 8 + 4 * t.toNat + 3 = (8 + 4 * t + 3).toNat by omega, ← hs]
  unfold ph_m
  rw [e]
  omega
theorem ly_l {w U L : Nat → Int} {X : Nat} {L4 L5 L6 t s z a : Int} (h4 : L4 = pd_sum L6.toNat (ph_i X (pl_c w) L t.toNat)) (h5 : L5 = pd_sum L6.toNat (ph_o X (pl_c w) U t.toNat)) (h6 : L6 = 3) (ht : 0 ≤ t) (hs : s = w (8 + 4 * t + 3).toNat) (p : z = L4 ∨ z = s - L5) (q : L4 ≤ z ∧ s - L5 ≤ z) (ha : a = pd_sum t.toNat (ph_l (pl_c w) (pl_s w) U L X)) : a + z = pd_sum (t + 1).toNat (ph_l (pl_c w) (pl_s w) U L X) := by
  rw [pd_sum_S ht, ha]
  subst h6
  rw [show (3 : Int).toNat = 3 from rfl, pd_sum3] at h4 h5
  have e : pl_s w t.toNat = s := by
    unfold pl_s
    rw [show 8 + 4 * t.toNat + 3 = (8 + 4 * t + 3).toNat by omega, ← hs]
  unfold ph_l
  rw [e]
  omega
