/-! LAYING CORNERS: if no set bars it, some number at a corner bars none -/
def ph_i (X : Nat) (c : Nat → Nat → Nat) (V : Nat → Int) (t k : Nat) : Int := if X.testBit (c t k) then V (3 * t + k) else 0
def ph_o (X : Nat) (c : Nat → Nat → Nat) (V : Nat → Int) (t k : Nat) : Int := if X.testBit (c t k) then 0 else V (3 * t + k)
def ph_m (c : Nat → Nat → Nat) (s U L : Nat → Int) (X t : Nat) : Int := min (ph_i X c U t 0 + ph_i X c U t 1 + ph_i X c U t 2) (s t - (ph_o X c L t 0 + ph_o X c L t 1 + ph_o X c L t 2))
def ph_l (c : Nat → Nat → Nat) (s U L : Nat → Int) (X t : Nat) : Int := max (ph_i X c L t 0 + ph_i X c L t 1 + ph_i X c L t 2) (s t - (ph_o X c U t 0 + ph_o X c U t 1 + ph_o X c U t 2))
def ph_a (N : Nat) (a : Nat → Int) (X : Nat) : Int := pd_sum N (fun p => if X.testBit p then a p else 0)
/-- no set of told posts bars it -/
def ph_ok (N told n : Nat) (a : Nat → Int) (c : Nat → Nat → Nat) (s U L : Nat → Int) : Prop := ∀ X, X < 2 ^ N → (∀ p, X.testBit p = true → told.testBit p = true) → pd_sum n (ph_l c s U L X) ≤ ph_a N a X ∧ ph_a N a X ≤ pd_sum n (ph_m c s U L X)
theorem ph_first {P : Int → Prop} : ∀ (d : Nat) {l h : Int}, h - l = d → P h → ∃ v, l ≤ v ∧ v ≤ h ∧ P v ∧ (v = l ∨ ¬ P (v - 1)) := by
  intro d
  induction d with
  | zero => intro l h e hP; exact ⟨h, by omega, by omega, hP, Or.inl (by omega)⟩
  | succ d ih =>
    intro l h e hP
    by_cases hq : P (h - 1)
    · obtain ⟨v, h1, h2, h3, h4⟩ := ih (l := l) (h := h - 1) (by omega) hq
      exact ⟨v, h1, by omega, h3, h4⟩
    · exact ⟨h, by omega, by omega, hP, Or.inr hq⟩
theorem ph_a_or {N : Nat} {a : Nat → Int} {X Y : Nat} : ph_a N a (X ||| Y) + ph_a N a (X &&& Y) = ph_a N a X + ph_a N a Y := by
  unfold ph_a
  rw [← pd_sum_add, ← pd_sum_add]
  refine pd_sum_congr (fun p hp => ?_)
  rw [Nat.testBit_or, Nat.testBit_and]
  cases X.testBit p <;> cases Y.testBit p <;> simp
/-- X without Y -/
def ph_w (X Y : Nat) : Nat := X ^^^ (X &&& Y)
theorem ph_w_bit {X Y p : Nat} : (ph_w X Y).testBit p = (X.testBit p && !Y.testBit p) := by
  unfold ph_w
  rw [Nat.testBit_xor, Nat.testBit_and]
  cases X.testBit p <;> cases Y.testBit p <;> rfl
theorem ph_a_w {N : Nat} {a : Nat → Int} {X Y : Nat} : ph_a N a (ph_w X Y) - ph_a N a (ph_w Y X) = ph_a N a X - ph_a N a Y := by
  have : ph_a N a (ph_w X Y) + ph_a N a Y = ph_a N a X + ph_a N a (ph_w Y X) := by
    unfold ph_a
    rw [← pd_sum_add, ← pd_sum_add]
    refine pd_sum_congr (fun p hp => ?_)
    rw [ph_w_bit, ph_w_bit]
    cases X.testBit p <;> cases Y.testBit p <;> simp
  omega
theorem pd_sum_le {n : Nat} {f g : Nat → Int} (h : ∀ i, i < n → f i ≤ g i) : pd_sum n f ≤ pd_sum n g := by
  induction n with
  | zero => exact Int.le_refl _
  | succ n ih =>
    simp only [pd_sum]
    have := ih (fun i hi => h i (by omega))
    have := h n (by omega)
    omega
/-- one summand changed -/
theorem pd_sum_chg {n a : Nat} {f g : Nat → Int} (ha : a < n) (h : ∀ i, i < n → i ≠ a → f i = g i) : pd_sum n f - f a = pd_sum n g - g a := by
  have e : pd_sum n (fun i => f i + (-1) * g i) = f a + (-1) * g a := pd_sum_one ha (fun i hi hne => by rw [h i hi hne]; omega)
  rw [pd_sum_add, pd_sum_mul] at e
  omega
section HF
variable {N told n : Nat} {a : Nat → Int} {c : Nat → Nat → Nat} {s : Nat → Int} {l h : Int}
/-- by three corners in X, three in Y -/
def ph_m3 (s l h : Int) (x0 x1 x2 : Bool) : Int := min ((if x0 then h else 0) + (if x1 then h else 0) + (if x2 then h else 0)) (s - ((if x0 then 0 else l) + (if x1 then 0 else l) + (if x2 then 0 else l)))
def ph_l3 (s l h : Int) (x0 x1 x2 : Bool) : Int := max ((if x0 then l else 0) + (if x1 then l else 0) + (if x2 then l else 0)) (s - ((if x0 then 0 else h) + (if x1 then 0 else h) + (if x2 then 0 else h)))
theorem ph_m_c {X t : Nat} : ph_m c s (fun _ => h) (fun _ => l) X t = ph_m3 (s t) l h (X.testBit (c t 0)) (X.testBit (c t 1)) (X.testBit (c t 2)) := rfl
theorem ph_l_c {X t : Nat} : ph_l c s (fun _ => h) (fun _ => l) X t = ph_l3 (s t) l h (X.testBit (c t 0)) (X.testBit (c t 1)) (X.testBit (c t 2)) := rfl
theorem ph_t1 {s l h : Int} (hlh : l ≤ h) (hs1 : 3 * l ≤ s) (hs2 : s ≤ 3 * h) (x0 x1 x2 y0 y1 y2 : Bool) : ph_m3 s l h (x0 && !y0) (x1 && !y1) (x2 && !y2) - ph_l3 s l h (y0 && !x0) (y1 && !x1) (y2 && !x2) ≤ ph_m3 s l h x0 x1 x2 - ph_l3 s l h y0 y1 y2 := by
  cases x0 <;> cases x1 <;> cases x2 <;> cases y0 <;> cases y1 <;> cases y2 <;> simp only [ph_m3, ph_l3, Bool.and_true, Bool.and_false, Bool.not_true, Bool.not_false, if_true, if_false, Bool.false_eq_true] <;> omega
theorem ph_t2 {s l h : Int} (hlh : l ≤ h) (hs1 : 3 * l ≤ s) (hs2 : s ≤ 3 * h) (x0 x1 x2 y0 y1 y2 : Bool) : ph_m3 s l h (x0 || y0) (x1 || y1) (x2 || y2) + ph_m3 s l h (x0 && y0) (x1 && y1) (x2 && y2) ≤ ph_m3 s l h x0 x1 x2 + ph_m3 s l h y0 y1 y2 := by
  cases x0 <;> cases x1 <;> cases x2 <;> cases y0 <;> cases y1 <;> cases y2 <;> simp only [ph_m3, Bool.and_true, Bool.and_false, Bool.or_true, Bool.or_false, if_true, if_false, Bool.false_eq_true] <;> omega
theorem ph_t3 {s l h : Int} (hlh : l ≤ h) (hs1 : 3 * l ≤ s) (hs2 : s ≤ 3 * h) (x0 x1 x2 y0 y1 y2 : Bool) : ph_l3 s l h x0 x1 x2 + ph_l3 s l h y0 y1 y2 ≤ ph_l3 s l h (x0 || y0) (x1 || y1) (x2 || y2) + ph_l3 s l h (x0 && y0) (x1 && y1) (x2 && y2) := by
  cases x0 <;> cases x1 <;> cases x2 <;> cases y0 <;> cases y1 <;> cases y2 <;> simp only [ph_l3, Bool.and_true, Bool.and_false, Bool.or_true, Bool.or_false, if_true, if_false, Bool.false_eq_true] <;> omega
/-- the third of the corner: what the others may have at most (A) and at least (Z), in and out of a set; x: the corner's own post, y, z: the others -/
def ph_A (h : Int) (y z : Bool) : Int := (if y then h else 0) + (if z then h else 0)
def ph_Z (l : Int) (y z : Bool) : Int := (if y then 0 else l) + (if z then 0 else l)
/-- LB1 (x in) against UB1 (x in) -/
theorem ph_u11 {s l h : Int} (hlh : l ≤ h) (hs1 : 3 * l ≤ s) (hs2 : s ≤ 3 * h) (y0 z0 y1 z1 : Bool) : ph_m3 s l h false (y0 && !y1) (z0 && !z1) - ph_l3 s l h false (y1 && !y0) (z1 && !z0) ≤ ph_A h y0 z0 - ph_A l y1 z1 := by
  cases y0 <;> cases z0 <;> cases y1 <;> cases z1 <;> simp only [ph_m3, ph_l3, ph_A, Bool.and_true, Bool.and_false, Bool.not_true, Bool.not_false, if_true, if_false, Bool.false_eq_true] <;> omega
/-- LB1 (x in) against UB2 (x out) -/
theorem ph_u12 {s l h : Int} (hlh : l ≤ h) (hs1 : 3 * l ≤ s) (hs2 : s ≤ 3 * h) (y0 z0 y1 z1 : Bool) : ph_m3 s l h true (y0 || y1) (z0 || z1) + ph_m3 s l h false (y0 && y1) (z0 && z1) ≤ ph_A h y0 z0 + s - ph_Z l y1 z1 := by
  cases y0 <;> cases z0 <;> cases y1 <;> cases z1 <;> simp only [ph_m3, ph_A, ph_Z, Bool.and_true, Bool.and_false, Bool.or_true, Bool.or_false, if_true, if_false, Bool.false_eq_true] <;> omega
/-- LB2 (x out) against UB1 (x in) -/
theorem ph_u21 {s l h : Int} (hlh : l ≤ h) (hs1 : 3 * l ≤ s) (hs2 : s ≤ 3 * h) (y0 z0 y1 z1 : Bool) : s - ph_Z h y0 z0 + ph_A l y1 z1 ≤ ph_l3 s l h true (y0 || y1) (z0 || z1) + ph_l3 s l h false (y0 && y1) (z0 && z1) := by
  cases y0 <;> cases z0 <;> cases y1 <;> cases z1 <;> simp only [ph_l3, ph_A, ph_Z, Bool.and_true, Bool.and_false, Bool.or_true, Bool.or_false, if_true, if_false, Bool.false_eq_true] <;> omega
/-- LB2 (x out) against UB2 (x out) -/
theorem ph_u22 {s l h : Int} (hlh : l ≤ h) (hs1 : 3 * l ≤ s) (hs2 : s ≤ 3 * h) (y0 z0 y1 z1 : Bool) : ph_m3 s l h false (y1 && !y0) (z1 && !z0) - ph_l3 s l h false (y0 && !y1) (z0 && !z1) ≤ ph_Z h y0 z0 - ph_Z l y1 z1 := by
  cases y0 <;> cases z0 <;> cases y1 <;> cases z1 <;> simp only [ph_m3, ph_l3, ph_Z, Bool.and_true, Bool.and_false, Bool.not_true, Bool.not_false, if_true, if_false, Bool.false_eq_true] <;> omega
end HF
theorem pd_sum_le_but {n a : Nat} {f g : Nat → Int} (ha : a < n) (h : ∀ i, i < n → i ≠ a → f i ≤ g i) : pd_sum n f - f a ≤ pd_sum n g - g a := by
  have e := pd_sum_chg (f := f) (g := fun i => if i = a then g a else f i) ha (fun i hi hne => by simp only [if_neg hne])
  have e2 := pd_sum_le (f := fun i => if i = a then g a else f i) (g := g) (n := n) (fun i hi => by
    by_cases hc : i = a
    · simp only [if_pos hc, hc]; exact Int.le_refl _
    · simp only [if_neg hc]; exact h i hi hc)
  simp only [if_true] at e
  omega
theorem pd_sum_sub {n : Nat} {f g : Nat → Int} : pd_sum n (fun i => f i - g i) = pd_sum n f - pd_sum n g := by
  induction n with
  | zero => rfl
  | succ n ih => simp only [pd_sum, ih]; omega
def ph_up (q : Nat) (v d : Int) : Nat → Int := fun j => if j = q then v else d
def ph_in (N told X : Nat) : Prop := X < 2 ^ N ∧ ∀ p, X.testBit p = true → told.testBit p = true
theorem ph_in_or {N told X Y : Nat} (hX : ph_in N told X) (hY : ph_in N told Y) : ph_in N told (X ||| Y) := ⟨Nat.or_lt_two_pow hX.1 hY.1, fun p hp => by
  rw [Nat.testBit_or, Bool.or_eq_true] at hp
  rcases hp with hp | hp
  · exact hX.2 p hp
  · exact hY.2 p hp⟩
theorem ph_in_and {N told X Y : Nat} (hX : ph_in N told X) : ph_in N told (X &&& Y) := ⟨Nat.lt_of_le_of_lt Nat.and_le_left hX.1, fun p hp => by
  rw [Nat.testBit_and, Bool.and_eq_true] at hp
  exact hX.2 p hp.1⟩
theorem ph_in_w {N told X Y : Nat} (hX : ph_in N told X) : ph_in N told (ph_w X Y) := ⟨Nat.xor_lt_two_pow hX.1 (Nat.lt_of_le_of_lt Nat.and_le_left hX.1), fun p hp => by
  rw [ph_w_bit, Bool.and_eq_true] at hp
  exact hX.2 p hp.1⟩
section HG
variable {N told n t0 k0 : Nat} {a : Nat → Int} {c : Nat → Nat → Nat} {s : Nat → Int} {l h : Int}
theorem ph_m3_rot {s l h : Int} {x y z : Bool} : ph_m3 s l h x y z = ph_m3 s l h z x y ∧ ph_l3 s l h x y z = ph_l3 s l h z x y := by
  cases x <;> cases y <;> cases z <;> simp only [ph_m3, ph_l3, if_true, if_false, Bool.false_eq_true] <;> first | omega | exact ⟨trivial, trivial⟩ | trivial
theorem ph_m_k {X : Nat} (hk : k0 < 3) : ph_m c s (fun _ => h) (fun _ => l) X t0 = ph_m3 (s t0) l h (X.testBit (c t0 k0)) (X.testBit (c t0 ((k0 + 1) % 3))) (X.testBit (c t0 ((k0 + 2) % 3))) ∧ ph_l c s (fun _ => h) (fun _ => l) X t0 = ph_l3 (s t0) l h (X.testBit (c t0 k0)) (X.testBit (c t0 ((k0 + 1) % 3))) (X.testBit (c t0 ((k0 + 2) % 3))) := by
  rw [ph_m_c, ph_l_c]
  rcases (show k0 = 0 ∨ k0 = 1 ∨ k0 = 2 by omega) with rfl | rfl | rfl
  · exact ⟨rfl, rfl⟩
  · exact ⟨ph_m3_rot.1.trans ph_m3_rot.1, ph_m3_rot.2.trans ph_m3_rot.2⟩
  · exact ⟨ph_m3_rot.1, ph_m3_rot.2⟩
theorem ph_mv {X : Nat} {v : Int} (hk : k0 < 3) : ph_m c s (ph_up (3 * t0 + k0) v h) (ph_up (3 * t0 + k0) v l) X t0 = min ((if X.testBit (c t0 k0) then v else 0) + ph_A h (X.testBit (c t0 ((k0 + 1) % 3))) (X.testBit (c t0 ((k0 + 2) % 3)))) (s t0 - ((if X.testBit (c t0 k0) then 0 else v) + ph_Z l (X.testBit (c t0 ((k0 + 1) % 3))) (X.testBit (c t0 ((k0 + 2) % 3))))) ∧ ph_l c s (ph_up (3 * t0 + k0) v h) (ph_up (3 * t0 + k0) v l) X t0 = max ((if X.testBit (c t0 k0) then v else 0) + ph_A l (X.testBit (c t0 ((k0 + 1) % 3))) (X.testBit (c t0 ((k0 + 2) % 3)))) (s t0 - ((if X.testBit (c t0 k0) then 0 else v) + ph_Z h (X.testBit (c t0 ((k0 + 1) % 3))) (X.testBit (c t0 ((k0 + 2) % 3))))) := by
  rcases (show k0 = 0 ∨ k0 = 1 ∨ k0 = 2 by omega) with rfl | rfl | rfl
  · simp only [ph_m, ph_l, ph_i, ph_o, ph_up, ph_A, ph_Z, show (0 + 1) % 3 = 1 from rfl, show (0 + 2) % 3 = 2 from rfl, if_true, if_neg (show ¬ 3 * t0 + 1 = 3 * t0 + 0 by omega), if_neg (show ¬ 3 * t0 + 2 = 3 * t0 + 0 by omega)]
    cases X.testBit (c t0 0) <;> cases X.testBit (c t0 1) <;> cases X.testBit (c t0 2) <;> simp only [if_true, if_false, Bool.false_eq_true] <;> omega
  · simp only [ph_m, ph_l, ph_i, ph_o, ph_up, ph_A, ph_Z, show (1 + 1) % 3 = 2 from rfl, show (1 + 2) % 3 = 0 from rfl, if_true, if_neg (show ¬ 3 * t0 + 0 = 3 * t0 + 1 by omega), if_neg (show ¬ 3 * t0 + 2 = 3 * t0 + 1 by omega)]
    cases X.testBit (c t0 0) <;> cases X.testBit (c t0 1) <;> cases X.testBit (c t0 2) <;> simp only [if_true, if_false, Bool.false_eq_true] <;> omega
  · simp only [ph_m, ph_l, ph_i, ph_o, ph_up, ph_A, ph_Z, show (2 + 1) % 3 = 0 from rfl, show (2 + 2) % 3 = 1 from rfl, if_true, if_neg (show ¬ 3 * t0 + 0 = 3 * t0 + 2 by omega), if_neg (show ¬ 3 * t0 + 1 = 3 * t0 + 2 by omega)]
    cases X.testBit (c t0 0) <;> cases X.testBit (c t0 1) <;> cases X.testBit (c t0 2) <;> simp only [if_true, if_false, Bool.false_eq_true] <;> omega
theorem ph_mo {X t : Nat} {v : Int} (hk : k0 < 3) (ht : t ≠ t0) : ph_m c s (ph_up (3 * t0 + k0) v h) (ph_up (3 * t0 + k0) v l) X t = ph_m c s (fun _ => h) (fun _ => l) X t ∧ ph_l c s (ph_up (3 * t0 + k0) v h) (ph_up (3 * t0 + k0) v l) X t = ph_l c s (fun _ => h) (fun _ => l) X t := by
  simp only [ph_m, ph_l, ph_i, ph_o, ph_up, if_neg (show ¬ 3 * t + 0 = 3 * t0 + k0 by omega), if_neg (show ¬ 3 * t + 1 = 3 * t0 + k0 by omega), if_neg (show ¬ 3 * t + 2 = 3 * t0 + k0 by omega)]
  exact ⟨trivial, trivial⟩
/-- per third: the sums of every third hold the bounds -/
theorem ph_sums (hok : ph_ok N told n a c s (fun _ => h) (fun _ => l)) {t : Nat} (ht : t < n) : 3 * l ≤ s t ∧ s t ≤ 3 * h := by
  have h0 := hok 0 (Nat.two_pow_pos N) (fun p hp => by simp at hp)
  have e0 : ph_a N a 0 = 0 := pd_sum_zero (fun p _ => by simp)
  have em : ∀ t, ph_m c s (fun _ => h) (fun _ => l) 0 t = min 0 (s t - 3 * l) := fun t => by
    simp only [ph_m, ph_i, ph_o, Nat.zero_testBit, Bool.false_eq_true, if_false]; omega
  have el : ∀ t, ph_l c s (fun _ => h) (fun _ => l) 0 t = max 0 (s t - 3 * h) := fun t => by
    simp only [ph_l, ph_i, ph_o, Nat.zero_testBit, Bool.false_eq_true, if_false]; omega
  rw [e0] at h0
  have h1 := pd_sum_le_one (f := fun t => ph_m c s (fun _ => h) (fun _ => l) 0 t) ht (fun i hi => by rw [em]; omega)
  have h2 := pd_sum_le_one (f := fun t => (-1) * ph_l c s (fun _ => h) (fun _ => l) 0 t) ht (fun i hi => by rw [el]; omega)
  rw [pd_sum_mul] at h2
  have h3 := em t
  have h4 := el t
  have h5 := h0.1
  have h6 := h0.2
  have h7 : pd_sum n (ph_m c s (fun _ => h) (fun _ => l) 0) = pd_sum n (fun t => ph_m c s (fun _ => h) (fun _ => l) 0 t) := rfl
  have h8 : pd_sum n (ph_l c s (fun _ => h) (fun _ => l) 0) = pd_sum n (fun t => ph_l c s (fun _ => h) (fun _ => l) 0 t) := rfl
  omega
set_option maxHeartbeats 4000000 in
theorem ph_main (hok : ph_ok N told n a c s (fun _ => h) (fun _ => l)) (ht : t0 < n) (hk : k0 < 3) : ∃ v, l ≤ v ∧ v ≤ h ∧ ph_ok N told n a c s (ph_up (3 * t0 + k0) v h) (ph_up (3 * t0 + k0) v l) := by
  have hsum : ∀ t, t < n → 3 * l ≤ s t ∧ s t ≤ 3 * h := fun t ht => ph_sums hok ht
  have hlh : l ≤ h := by have := hsum t0 ht; omega
  obtain ⟨hs1, hs2⟩ := hsum t0 ht
  -- names
  obtain ⟨bx, hbx⟩ : ∃ bx : Nat → Bool, bx = fun X => X.testBit (c t0 k0) := ⟨_, rfl⟩
  obtain ⟨by', hby⟩ : ∃ bx : Nat → Bool, bx = fun X => X.testBit (c t0 ((k0 + 1) % 3)) := ⟨_, rfl⟩
  obtain ⟨bz, hbz⟩ : ∃ bx : Nat → Bool, bx = fun X => X.testBit (c t0 ((k0 + 2) % 3)) := ⟨_, rfl⟩
  obtain ⟨fm, hfm⟩ : ∃ fm : Nat → Nat → Int, fm = fun X t => ph_m c s (fun _ => h) (fun _ => l) X t := ⟨_, rfl⟩
  obtain ⟨fl, hfl⟩ : ∃ fl : Nat → Nat → Int, fl = fun X t => ph_l c s (fun _ => h) (fun _ => l) X t := ⟨_, rfl⟩
  have m0 : ∀ X, fm X t0 = ph_m3 (s t0) l h (bx X) (by' X) (bz X) := fun X => by rw [hfm, hbx, hby, hbz]; exact (ph_m_k hk).1
  have l0 : ∀ X, fl X t0 = ph_l3 (s t0) l h (bx X) (by' X) (bz X) := fun X => by rw [hfl, hbx, hby, hbz]; exact (ph_m_k hk).2
  obtain ⟨rm, hrm⟩ : ∃ rm : Nat → Int, rm = fun X => pd_sum n (fm X) - fm X t0 := ⟨_, rfl⟩
  obtain ⟨rl, hrl⟩ : ∃ rl : Nat → Int, rl = fun X => pd_sum n (fl X) - fl X t0 := ⟨_, rfl⟩
  have orig : ∀ X, ph_in N told X → rl X + fl X t0 ≤ ph_a N a X ∧ ph_a N a X ≤ rm X + fm X t0 := by
    intro X hX
    have := hok X hX.1 hX.2
    rw [hrm, hrl]
    have e1 : pd_sum n (fm X) = pd_sum n (ph_m c s (fun _ => h) (fun _ => l) X) := by rw [hfm]
    have e2 : pd_sum n (fl X) = pd_sum n (ph_l c s (fun _ => h) (fun _ => l) X) := by rw [hfl]
    simp only
    omega
  have bor : ∀ X Y, bx (X ||| Y) = (bx X || bx Y) ∧ by' (X ||| Y) = (by' X || by' Y) ∧ bz (X ||| Y) = (bz X || bz Y) := fun X Y => by
    rw [hbx, hby, hbz]; simp only [Nat.testBit_or]; exact ⟨trivial, trivial, trivial⟩
  have band : ∀ X Y, bx (X &&& Y) = (bx X && bx Y) ∧ by' (X &&& Y) = (by' X && by' Y) ∧ bz (X &&& Y) = (bz X && bz Y) := fun X Y => by
    rw [hbx, hby, hbz]; simp only [Nat.testBit_and]; exact ⟨trivial, trivial, trivial⟩
  have bw : ∀ X Y, bx (ph_w X Y) = (bx X && !bx Y) ∧ by' (ph_w X Y) = (by' X && !by' Y) ∧ bz (ph_w X Y) = (bz X && !bz Y) := fun X Y => by
    rw [hbx, hby, hbz]; simp only [ph_w_bit]; exact ⟨trivial, trivial, trivial⟩
  have cw : ∀ X Y, rm (ph_w X Y) - rl (ph_w Y X) ≤ rm X - rl Y := by
    intro X Y
    have := pd_sum_le_but (f := fun t => fm (ph_w X Y) t - fl (ph_w Y X) t) (g := fun t => fm X t - fl Y t) ht (fun t hi _ => by
      have := ph_t1 hlh (hsum t hi).1 (hsum t hi).2 (X.testBit (c t 0)) (X.testBit (c t 1)) (X.testBit (c t 2)) (Y.testBit (c t 0)) (Y.testBit (c t 1)) (Y.testBit (c t 2))
      simp only [hfm, hfl, ph_m_c, ph_l_c, ph_w_bit]
      exact this)
    rw [pd_sum_sub, pd_sum_sub] at this
    rw [hrm, hrl]
    simp only at this ⊢
    omega
  have cm : ∀ X Y, rm (X ||| Y) + rm (X &&& Y) ≤ rm X + rm Y := by
    intro X Y
    have := pd_sum_le_but (f := fun t => fm (X ||| Y) t + fm (X &&& Y) t) (g := fun t => fm X t + fm Y t) ht (fun t hi _ => by
      have := ph_t2 hlh (hsum t hi).1 (hsum t hi).2 (X.testBit (c t 0)) (X.testBit (c t 1)) (X.testBit (c t 2)) (Y.testBit (c t 0)) (Y.testBit (c t 1)) (Y.testBit (c t 2))
      simp only [hfm, ph_m_c, Nat.testBit_or, Nat.testBit_and]
      exact this)
    rw [pd_sum_add, pd_sum_add] at this
    rw [hrm]
    simp only at this ⊢
    omega
  have cl : ∀ X Y, rl X + rl Y ≤ rl (X ||| Y) + rl (X &&& Y) := by
    intro X Y
    have := pd_sum_le_but (g := fun t => fl (X ||| Y) t + fl (X &&& Y) t) (f := fun t => fl X t + fl Y t) ht (fun t hi _ => by
      have := ph_t3 hlh (hsum t hi).1 (hsum t hi).2 (X.testBit (c t 0)) (X.testBit (c t 1)) (X.testBit (c t 2)) (Y.testBit (c t 0)) (Y.testBit (c t 1)) (Y.testBit (c t 2))
      simp only [hfl, ph_l_c, Nat.testBit_or, Nat.testBit_and]
      exact this)
    rw [pd_sum_add, pd_sum_add] at this
    rw [hrl]
    simp only at this ⊢
    omega
  have m3t : ∀ y z, ph_m3 (s t0) l h true y z = min (h + ph_A h y z) (s t0 - ph_Z l y z) := fun y z => by
    simp only [ph_m3, ph_A, ph_Z, if_true]; cases y <;> cases z <;> simp only [if_true, if_false, Bool.false_eq_true] <;> omega
  have m3f : ∀ y z, ph_m3 (s t0) l h false y z = min (ph_A h y z) (s t0 - l - ph_Z l y z) := fun y z => by
    simp only [ph_m3, ph_A, ph_Z, if_false, Bool.false_eq_true]; cases y <;> cases z <;> simp only [if_true, if_false, Bool.false_eq_true] <;> omega
  have l3t : ∀ y z, ph_l3 (s t0) l h true y z = max (l + ph_A l y z) (s t0 - ph_Z h y z) := fun y z => by
    simp only [ph_l3, ph_A, ph_Z, if_true]; cases y <;> cases z <;> simp only [if_true, if_false, Bool.false_eq_true] <;> omega
  have l3f : ∀ y z, ph_l3 (s t0) l h false y z = max (ph_A l y z) (s t0 - h - ph_Z h y z) := fun y z => by
    simp only [ph_l3, ph_A, ph_Z, if_false, Bool.false_eq_true]; cases y <;> cases z <;> simp only [if_true, if_false, Bool.false_eq_true] <;> omega
  obtain ⟨P, hPd⟩ : ∃ P : Int → Prop, P = fun v => ∀ X, ph_in N told X → (bx X = true → ph_a N a X ≤ rm X + v + ph_A h (by' X) (bz X)) ∧ (bx X = false → s t0 - v - ph_Z h (by' X) (bz X) + rl X ≤ ph_a N a X) := ⟨_, rfl⟩
  have hPh : P h := by
    rw [hPd]
    intro X hX
    have o := orig X hX
    rw [m0, l0] at o
    refine ⟨fun hb => ?_, fun hb => ?_⟩
    · rw [hb, m3t] at o; omega
    · rw [hb, l3f] at o; omega
  obtain ⟨v, hv1, hv2, hPv, hv3⟩ := ph_first (P := P) (h - l).toNat (l := l) (h := h) (by omega) hPh
  have hU : ∀ X, ph_in N told X → (bx X = true → rl X + v + ph_A l (by' X) (bz X) ≤ ph_a N a X) ∧ (bx X = false → ph_a N a X ≤ rm X + s t0 - v - ph_Z l (by' X) (bz X)) := by
    intro T hT
    rcases hv3 with hv3 | hv3
    · have o := orig T hT
      rw [m0, l0] at o
      refine ⟨fun hb => ?_, fun hb => ?_⟩
      · rw [hb, l3t] at o; omega
      · rw [hb, m3f] at o; omega
    · rw [hPd] at hv3
      have hv3 : ∃ X, ph_in N told X ∧ ((bx X = true ∧ rm X + v + ph_A h (by' X) (bz X) ≤ ph_a N a X) ∨ (bx X = false ∧ ph_a N a X ≤ s t0 - v - ph_Z h (by' X) (bz X) + rl X)) := by
        apply Classical.byContradiction
        intro hno
        refine hv3 (fun X hX => ⟨fun hb => ?_, fun hb => ?_⟩)
        · apply Classical.byContradiction
          intro hq
          exact hno ⟨X, hX, Or.inl ⟨hb, by omega⟩⟩
        · apply Classical.byContradiction
          intro hq
          exact hno ⟨X, hX, Or.inr ⟨hb, by omega⟩⟩
      obtain ⟨X, hX, hv3⟩ := hv3
      have o1 := orig _ (ph_in_w (Y := T) hX)
      have o2 := orig _ (ph_in_w (Y := X) hT)
      have o3 := orig _ (ph_in_or hX hT)
      have o4 := orig _ (ph_in_and (Y := T) hX)
      rw [m0, l0, (bw _ _).1, (bw _ _).2.1, (bw _ _).2.2] at o1 o2
      rw [m0, l0, (bor _ _).1, (bor _ _).2.1, (bor _ _).2.2] at o3
      rw [m0, l0, (band _ _).1, (band _ _).2.1, (band _ _).2.2] at o4
      have w1 := cw X T
      have w2 := cw T X
      have w3 := cm X T
      have w4 := cl X T
      have a1 := ph_a_or (N := N) (a := a) (X := X) (Y := T)
      have a2 := ph_a_w (N := N) (a := a) (X := X) (Y := T)
      rcases hv3 with ⟨hb, hv3⟩ | ⟨hb, hv3⟩
      · refine ⟨fun hc => ?_, fun hc => ?_⟩
        · rw [hb, hc] at o1 o2
          have u := ph_u11 hlh hs1 hs2 (by' X) (bz X) (by' T) (bz T)
          simp only [Bool.not_true, Bool.and_false] at o1 o2
          omega
        · rw [hb, hc] at o3 o4
          have u := ph_u12 hlh hs1 hs2 (by' X) (bz X) (by' T) (bz T)
          simp only [Bool.or_false, Bool.and_false] at o3 o4
          omega
      · refine ⟨fun hc => ?_, fun hc => ?_⟩
        · rw [hb, hc] at o3 o4
          have u := ph_u21 hlh hs1 hs2 (by' X) (bz X) (by' T) (bz T)
          simp only [Bool.or_true, Bool.and_true] at o3 o4
          omega
        · rw [hb, hc] at o1 o2
          have u := ph_u22 hlh hs1 hs2 (by' X) (bz X) (by' T) (bz T)
          simp only [Bool.not_false, Bool.and_true] at o1 o2
          omega
  rw [hPd] at hPv
  refine ⟨v, hv1, hv2, fun X hX1 hX2 => ?_⟩
  have hX : ph_in N told X := ⟨hX1, hX2⟩
  have o := orig X hX
  have p := hPv X hX
  have u := hU X hX
  have g1 := pd_sum_chg (f := ph_m c s (ph_up (3 * t0 + k0) v h) (ph_up (3 * t0 + k0) v l) X) (g := fm X) ht (fun t hi hne => by rw [hfm]; exact (ph_mo hk hne).1)
  have g2 := pd_sum_chg (f := ph_l c s (ph_up (3 * t0 + k0) v h) (ph_up (3 * t0 + k0) v l) X) (g := fl X) ht (fun t hi hne => by rw [hfl]; exact (ph_mo hk hne).2)
  rw [(ph_mv hk).1] at g1
  rw [(ph_mv hk).2] at g2
  have q1 : rm X = pd_sum n (fm X) - fm X t0 := by rw [hrm]
  have q2 : rl X = pd_sum n (fl X) - fl X t0 := by rw [hrl]
  have hbx' : X.testBit (c t0 k0) = bx X := by rw [hbx]
  have hby' : X.testBit (c t0 ((k0 + 1) % 3)) = by' X := by rw [hby]
  have hbz' : X.testBit (c t0 ((k0 + 2) % 3)) = bz X := by rw [hbz]
  rw [hbx', hby', hbz', ← q1] at g1
  rw [hbx', hby', hbz', ← q2] at g2
  rw [m0, l0] at o
  cases hb : bx X with
  | true =>
    rw [hb, m3t, l3t] at o
    rw [hb] at g1 g2
    simp only [if_true] at g1 g2
    have p1 := p.1 hb
    have u1 := u.1 hb
    omega
  | false =>
    rw [hb, m3f, l3f] at o
    rw [hb] at g1 g2
    simp only [if_false, Bool.false_eq_true] at g1 g2
    have p1 := p.2 hb
    have u1 := u.2 hb
    omega
end HG
