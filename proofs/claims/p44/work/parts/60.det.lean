/-! SUMS AND DETERMINANTS: what is needed to see that the elimination without fractions is exact -/
def pd_sum : Nat → (Nat → Int) → Int
  | 0, _ => 0
  | n + 1, f => pd_sum n f + f n
theorem pd_sum_congr {n : Nat} {f g : Nat → Int} (h : ∀ i, i < n → f i = g i) : pd_sum n f = pd_sum n g := by
  induction n with
  | zero => rfl
  | succ n ih =>
    show pd_sum n f + f n = pd_sum n g + g n
    rw [ih (fun i hi => h i (by omega)), h n (by omega)]
theorem pd_sum_add {n : Nat} {f g : Nat → Int} : pd_sum n (fun i => f i + g i) = pd_sum n f + pd_sum n g := by
  induction n with
  | zero => rfl
  | succ n ih => simp only [pd_sum, ih]; omega
theorem pd_sum_mul {n : Nat} {f : Nat → Int} {x : Int} : pd_sum n (fun i => x * f i) = x * pd_sum n f := by
  induction n with
  | zero => simp [pd_sum]
  | succ n ih => simp only [pd_sum, ih, Int.mul_add]
theorem pd_sum_zero {n : Nat} {f : Nat → Int} (h : ∀ i, i < n → f i = 0) : pd_sum n f = 0 := by
  induction n with
  | zero => rfl
  | succ n ih => simp only [pd_sum]; rw [ih (fun i hi => h i (by omega)), h n (by omega)]; rfl
theorem pd_sum_one {n a : Nat} {f : Nat → Int} (ha : a < n) (h : ∀ i, i < n → i ≠ a → f i = 0) : pd_sum n f = f a := by
  induction n with
  | zero => omega
  | succ n ih =>
    simp only [pd_sum]
    by_cases hn : a = n
    · subst hn
      rw [pd_sum_zero (fun i hi => h i (by omega) (by omega))]; omega
    · rw [ih (by omega) (fun i hi hne => h i (by omega) hne), h n (by omega) (Ne.symm hn)]; omega
theorem pd_sum_two {n a b : Nat} {f : Nat → Int} (hab : a < b) (hb : b < n) (h : ∀ i, i < n → i ≠ a → i ≠ b → f i = 0) : pd_sum n f = f a + f b := by
  induction n with
  | zero => omega
  | succ n ih =>
    simp only [pd_sum]
    by_cases hn : b = n
    · subst hn
      rw [pd_sum_one hab (fun i hi hne => h i (by omega) hne (by omega))]
    · rw [ih (by omega) (fun i hi h1 h2 => h i (by omega) h1 h2), h n (by omega) (by omega) (Ne.symm hn)]; omega
def pd_sg (i : Nat) : Int := if i % 2 = 0 then 1 else -1
theorem pd_sg_succ (i : Nat) : pd_sg (i + 1) = - pd_sg i := by
  unfold pd_sg
  rcases Nat.mod_two_eq_zero_or_one i with h | h
  · rw [if_neg (by omega), if_pos h]
  · rw [if_pos (by omega), if_neg (by omega)]; rfl
def pd_sk (i r : Nat) : Nat := if r < i then r else r + 1
def pd_det : Nat → (Nat → Nat → Int) → Int
  | 0, _ => 1
  | n + 1, A => pd_sum (n + 1) (fun i => pd_sg i * A i 0 * pd_det n (fun r c => A (pd_sk i r) (c + 1)))
theorem pd_det_succ (n : Nat) (A : Nat → Nat → Int) : pd_det (n + 1) A = pd_sum (n + 1) (fun i => pd_sg i * A i 0 * pd_det n (fun r c => A (pd_sk i r) (c + 1))) := rfl
theorem pd_sk_lt {n i r : Nat} (hr : r < n) : pd_sk i r < n + 1 := by unfold pd_sk; split <;> omega
theorem pd_det_congr : ∀ {n : Nat} {A B : Nat → Nat → Int}, (∀ i j, i < n → j < n → A i j = B i j) → pd_det n A = pd_det n B := by
  intro n
  induction n with
  | zero => intro A B h; rfl
  | succ n ih =>
    intro A B h
    rw [pd_det_succ, pd_det_succ]
    refine pd_sum_congr (fun i hi => ?_)
    rw [h i 0 hi (by omega), ih (fun r c hr hc => h _ _ (pd_sk_lt hr) (by omega))]
def pd_rw (A : Nat → Nat → Int) (a : Nat) (v : Nat → Int) : Nat → Nat → Int := fun i j => if i = a then v j else A i j
theorem pd_rw_self (A : Nat → Nat → Int) (a : Nat) : pd_rw A a (A a) = A := by
  funext i j
  unfold pd_rw
  split
  · rename_i h; rw [h]
  · rfl
theorem pd_rw_rw (A : Nat → Nat → Int) (a : Nat) (u v : Nat → Int) : pd_rw (pd_rw A a u) a v = pd_rw A a v := by
  funext i j
  unfold pd_rw
  split <;> rfl
theorem pd_rw_comm (A : Nat → Nat → Int) {a b : Nat} (u v : Nat → Int) (hab : a ≠ b) : pd_rw (pd_rw A a u) b v = pd_rw (pd_rw A b v) a u := by
  funext i j
  unfold pd_rw
  by_cases h1 : i = a
  · rw [if_pos h1, if_neg (by rw [h1]; exact hab), if_pos h1]
  · rw [if_neg h1, if_neg h1]
/-- the place of row a when row i is taken out -/
def pd_pl (i a : Nat) : Nat := if a < i then a else a - 1
theorem pd_rw_minor {A : Nat → Nat → Int} {a i : Nat} {v : Nat → Int} (hi : i ≠ a) : (fun r c => pd_rw A a v (pd_sk i r) (c + 1)) = pd_rw (fun r c => A (pd_sk i r) (c + 1)) (pd_pl i a) (fun c => v (c + 1)) := by
  funext r c
  dsimp only [pd_rw, pd_sk, pd_pl]
  by_cases h1 : r < i
  · rw [if_pos h1]
    by_cases h2 : a < i
    · rw [if_pos h2]
    · rw [if_neg h2, if_neg (by omega), if_neg (by omega)]
  · rw [if_neg h1]
    by_cases h2 : a < i
    · rw [if_pos h2, if_neg (by omega), if_neg (by omega)]
    · rw [if_neg h2]
      by_cases h3 : r + 1 = a
      · rw [if_pos h3, if_pos (by omega)]
      · rw [if_neg h3, if_neg (by omega)]
theorem pd_rw_minor' {A : Nat → Nat → Int} {i : Nat} {v : Nat → Int} : (fun r c => pd_rw A i v (pd_sk i r) (c + 1)) = (fun r c => A (pd_sk i r) (c + 1)) := by
  funext r c
  dsimp only [pd_rw, pd_sk]
  by_cases h1 : r < i
  · rw [if_pos h1, if_neg (by omega)]
  · rw [if_neg h1, if_neg (by omega)]
theorem pd_det_lin : ∀ {n : Nat} {A : Nat → Nat → Int} {a : Nat} {x y : Int} {u v : Nat → Int}, a < n → pd_det n (pd_rw A a (fun j => x * u j + y * v j)) = x * pd_det n (pd_rw A a u) + y * pd_det n (pd_rw A a v) := by
  intro n
  induction n with
  | zero => intro A a x y u v h; omega
  | succ n ih =>
    intro A a x y u v ha
    rw [pd_det_succ, pd_det_succ, pd_det_succ, ← pd_sum_mul, ← pd_sum_mul, ← pd_sum_add]
    refine pd_sum_congr (fun i hi => ?_)
    by_cases h : i = a
    · subst h
      rw [pd_rw_minor', pd_rw_minor', pd_rw_minor']
      simp only [pd_rw, if_true]
      grind
    · rw [pd_rw_minor h, pd_rw_minor h, pd_rw_minor h, ih (by unfold pd_pl; split <;> omega)]
      simp only [pd_rw, if_neg h]
      grind
/-- two rows side by side that are alike -/
theorem pd_det_adj : ∀ {n : Nat} {A : Nat → Nat → Int} {a : Nat}, a + 1 < n → (∀ j, A a j = A (a + 1) j) → pd_det n A = 0 := by
  intro n
  induction n with
  | zero => intro A a h; omega
  | succ n ih =>
    intro A a ha h
    rw [pd_det_succ, pd_sum_two (a := a) (b := a + 1) (by omega) ha]
    · have e : pd_det n (fun r c => A (pd_sk a r) (c + 1)) = pd_det n (fun r c => A (pd_sk (a + 1) r) (c + 1)) := by
        refine pd_det_congr (fun r c hr hc => ?_)
        unfold pd_sk
        by_cases h1 : r < a
        · rw [if_pos h1, if_pos (by omega)]
        · by_cases h2 : r = a
          · subst h2
            rw [if_neg (by omega), if_pos (by omega)]
            exact (h _).symm
          · rw [if_neg h1, if_neg (by omega)]
      rw [e, pd_sg_succ, h 0]
      grind
    · intro i hi h1 h2
      have : pd_det n (fun r c => A (pd_sk i r) (c + 1)) = 0 := by
        by_cases h3 : i < a
        · refine ih (a := a - 1) (by omega) (fun j => ?_)
          unfold pd_sk
          rw [if_neg (by omega), if_neg (by omega), show a - 1 + 1 = a by omega]
          exact h _
        · refine ih (a := a) (by omega) (fun j => ?_)
          unfold pd_sk
          rw [if_pos (by omega), if_pos (by omega)]
          exact h _
      rw [this]
      simp
theorem pd_det_swap {n : Nat} {A : Nat → Nat → Int} {a : Nat} (ha : a + 1 < n) : pd_det n (pd_rw (pd_rw A a (A (a + 1))) (a + 1) (A a)) = - pd_det n A := by
  have hne : a ≠ a + 1 := by omega
  have z : ∀ w : Nat → Int, pd_det n (pd_rw (pd_rw A a w) (a + 1) w) = 0 := fun w => pd_det_adj ha (fun j => by
    unfold pd_rw
    rw [if_neg (by omega), if_pos rfl, if_pos rfl])
  have l2 : ∀ (B : Nat → Nat → Int) (b : Nat) (u v : Nat → Int), b < n → pd_det n (pd_rw B b (fun j => u j + v j)) = pd_det n (pd_rw B b u) + pd_det n (pd_rw B b v) := fun B b u v hb => by
    have := pd_det_lin (A := B) (x := 1) (y := 1) (u := u) (v := v) hb
    simp only [Int.one_mul] at this
    exact this
  have s := z (fun j => A a j + A (a + 1) j)
  rw [l2 _ _ _ _ ha, pd_rw_comm _ _ _ hne, pd_rw_comm _ _ _ hne, l2 _ _ _ _ (by omega), l2 _ _ _ _ (by omega), ← pd_rw_comm _ _ _ hne, ← pd_rw_comm _ _ _ hne, ← pd_rw_comm _ _ _ hne, ← pd_rw_comm _ _ _ hne] at s
  have z1 := z (A a)
  have z2 := z (A (a + 1))
  have e : pd_rw (pd_rw A a (A a)) (a + 1) (A (a + 1)) = A := by rw [pd_rw_self, pd_rw_self]
  rw [e] at s
  omega
/-- two rows that are alike -/
theorem pd_det_eq : ∀ (d : Nat) {n : Nat} {A : Nat → Nat → Int} {a : Nat}, a + 1 + d < n → (∀ j, A a j = A (a + 1 + d) j) → pd_det n A = 0 := by
  intro d
  induction d with
  | zero => intro n A a ha h; exact pd_det_adj ha h
  | succ d ih =>
    intro n A a ha h
    have hs := pd_det_swap (n := n) (A := A) (a := a + 1 + d) (by omega)
    have : pd_det n (pd_rw (pd_rw A (a + 1 + d) (A (a + 1 + d + 1))) (a + 1 + d + 1) (A (a + 1 + d))) = 0 := by
      refine ih (a := a) (by omega) (fun j => ?_)
      unfold pd_rw
      rw [if_neg (by omega), if_neg (by omega), if_neg (by omega), if_pos rfl]
      exact h j
    omega
theorem pd_det_row0 {n : Nat} {A : Nat → Nat → Int} {i : Nat} (hi : 0 < i) (hn : i < n) : pd_det n (pd_rw A i (A 0)) = 0 := by
  refine pd_det_eq (i - 1) (a := 0) (by omega) (fun j => ?_)
  unfold pd_rw
  rw [if_neg (by omega), if_pos (by omega)]
/-- rows 1 .. t done, the others as they were -/
def pd_ch (X : Nat → Nat → Int) (t : Nat) : Nat → Nat → Int := fun i j => if 0 < i ∧ i ≤ t then X 0 0 * X i j - X i 0 * X 0 j else X i j
theorem pd_ch_det {n : Nat} {X : Nat → Nat → Int} : ∀ t, t < n → pd_det n (pd_ch X t) = (X 0 0) ^ t * pd_det n X := by
  intro t
  induction t with
  | zero =>
    intro h
    rw [Int.pow_zero, Int.one_mul]
    refine pd_det_congr (fun i j _ _ => ?_)
    unfold pd_ch
    rw [if_neg (by omega)]
  | succ t ih =>
    intro h
    have e : pd_ch X (t + 1) = pd_rw (pd_ch X t) (t + 1) (fun j => X 0 0 * pd_ch X t (t + 1) j + (- X (t + 1) 0) * pd_ch X t 0 j) := by
      funext i j
      dsimp only [pd_rw, pd_ch]
      by_cases h1 : i = t + 1
      · subst h1
        rw [if_pos (show 0 < t + 1 ∧ t + 1 ≤ t + 1 by omega), if_pos rfl, if_neg (show ¬ (0 < t + 1 ∧ t + 1 ≤ t) by omega), if_neg (show ¬ (0 < 0 ∧ 0 ≤ t) by omega)]
        grind
      · rw [if_neg h1]
        by_cases h2 : 0 < i ∧ i ≤ t
        · rw [if_pos h2, if_pos (by omega)]
        · rw [if_neg h2, if_neg (by omega)]
    rw [e, pd_det_lin h, pd_rw_self, pd_det_row0 (by omega) h, ih (by omega), Int.pow_succ]
    grind
/-- the numbers that one step of the elimination makes -/
def pd_c (X : Nat → Nat → Int) : Nat → Nat → Int := fun i j => X 0 0 * X (i + 1) (j + 1) - X (i + 1) 0 * X 0 (j + 1)
theorem pd_chio {n : Nat} {X : Nat → Nat → Int} : X 0 0 * pd_det n (pd_c X) = (X 0 0) ^ n * pd_det (n + 1) X := by
  rw [← pd_ch_det n (by omega), pd_det_succ, pd_sum_one (a := 0) (by omega)]
  · have e : pd_det n (fun r c => pd_ch X n (pd_sk 0 r) (c + 1)) = pd_det n (pd_c X) := by
      refine pd_det_congr (fun r c hr hc => ?_)
      have hs : pd_sk 0 r = r + 1 := by unfold pd_sk; rw [if_neg (show ¬ r < 0 by omega)]
      dsimp only [pd_ch, pd_c]
      rw [hs, if_pos (show 0 < r + 1 ∧ r + 1 ≤ n by omega)]
    have e2 : pd_ch X n 0 0 = X 0 0 := by
      dsimp only [pd_ch]
      rw [if_neg (show ¬ (0 < 0 ∧ 0 ≤ n) by omega)]
    have e3 : pd_sg 0 = 1 := rfl
    rw [e, e2, e3]
    grind
  · intro i hi h0
    have e2 : pd_ch X n i 0 = 0 := by
      dsimp only [pd_ch]
      rw [if_pos (show 0 < i ∧ i ≤ n by omega)]
      grind
    rw [e2]
    grind
theorem pd_det_smul {x : Int} : ∀ {n : Nat} {A : Nat → Nat → Int}, pd_det n (fun i j => x * A i j) = x ^ n * pd_det n A := by
  intro n
  induction n with
  | zero => intro A; simp [pd_det]
  | succ n ih =>
    intro A
    rw [pd_det_succ, pd_det_succ, ← pd_sum_mul]
    refine pd_sum_congr (fun i hi => ?_)
    rw [ih, Int.pow_succ]
    grind
/-- the first k, then those of I -/
def pd_sel (k : Nat) (I : Nat → Nat) (r : Nat) : Nat := if r < k then r else I (r - k)
def pd_H (A : Nat → Nat → Int) (k : Nat) (B : Nat → Nat → Int) (D : Int) : Prop := ∀ (m : Nat) (I J : Nat → Nat), D * pd_det m (fun r c => B (I r) (J c)) = D ^ m * pd_det (k + m) (fun r c => A (pd_sel k I r) (pd_sel k J c))
theorem pd_H0 (A : Nat → Nat → Int) : pd_H A 0 A 1 := by
  intro m I J
  rw [Int.one_mul, Int.one_pow, Int.one_mul, Nat.zero_add]
  refine pd_det_congr (fun i j _ _ => ?_)
  unfold pd_sel
  rw [if_neg (by omega), if_neg (by omega)]
  rfl
def pd_cons (k : Nat) (I : Nat → Nat) (r : Nat) : Nat := match r with
  | 0 => k
  | r + 1 => I r
theorem pd_det1 (A : Nat → Nat → Int) : pd_det 1 A = A 0 0 := by simp [pd_det, pd_sum, pd_sg]
theorem pd_det2 (A : Nat → Nat → Int) : pd_det 2 A = A 0 0 * A 1 1 - A 1 0 * A 0 1 := by
  simp [pd_det, pd_sum, pd_sg, pd_sk]
  grind
theorem pd_sel_cons {k : Nat} {I : Nat → Nat} : pd_sel k (pd_cons k I) = pd_sel (k + 1) I := by
  funext r
  unfold pd_sel
  by_cases h : r < k
  · rw [if_pos h, if_pos (by omega)]
  · rw [if_neg h]
    by_cases h2 : r = k
    · rw [if_pos (by omega), h2, Nat.sub_self]
      rfl
    · rw [if_neg (by omega), show r - k = (r - (k + 1)) + 1 by omega]
      rfl
/-- the step is exact, and goes on -/
theorem pd_step {A B : Nat → Nat → Int} {k : Nat} {D : Int} (hD : D ≠ 0) (hH : pd_H A k B D) : ∃ B' : Nat → Nat → Int, (∀ i j, B i j * B k k - B i k * B k j = D * B' i j) ∧ pd_H A (k + 1) B' (B k k) := by
  have h2 : ∀ i j, B i j * B k k - B i k * B k j = D * pd_det (k + 2) (fun r c => A (pd_sel k (pd_cons k (fun _ => i)) r) (pd_sel k (pd_cons k (fun _ => j)) c)) := by
    intro i j
    have := hH 2 (pd_cons k (fun _ => i)) (pd_cons k (fun _ => j))
    rw [pd_det2, show D ^ 2 = D * D by rw [Int.pow_succ, Int.pow_one]] at this
    simp only [pd_cons] at this
    rw [Int.mul_assoc] at this
    have := Int.eq_of_mul_eq_mul_left hD this
    rw [← this]
    grind
  refine ⟨_, h2, ?_⟩
  generalize hB' : (fun i j => pd_det (k + 2) (fun r c => A (pd_sel k (pd_cons k (fun _ => i)) r) (pd_sel k (pd_cons k (fun _ => j)) c))) = B' at h2 ⊢
  have h2' : ∀ i j, B i j * B k k - B i k * B k j = D * B' i j := fun i j => by rw [h2 i j, ← hB']
  have key : ∀ (m : Nat) (I J : Nat → Nat), B k k * pd_det m (fun r c => B' (I r) (J c)) = B k k ^ m * pd_det (k + 1 + m) (fun r c => A (pd_sel (k + 1) I r) (pd_sel (k + 1) J c)) := by
    intro m I J
    have c1 := pd_chio (n := m) (X := fun r c => B (pd_cons k I r) (pd_cons k J c))
    have c2 : pd_c (fun r c => B (pd_cons k I r) (pd_cons k J c)) = fun r c => D * B' (I r) (J c) := by
      funext r c
      rw [← h2']
      simp only [pd_c, pd_cons]
      grind
    rw [c2, pd_det_smul] at c1
    have c3 := hH (m + 1) (pd_cons k I) (pd_cons k J)
    rw [pd_sel_cons, pd_sel_cons, show k + (m + 1) = k + 1 + m by omega, Int.pow_succ] at c3
    simp only [pd_cons] at c1
    have hp : D ^ m * D ≠ 0 := Int.mul_ne_zero (Int.pow_ne_zero hD) hD
    refine Int.eq_of_mul_eq_mul_left hp ?_
    have c4 : pd_det (m + 1) (fun r c => B (pd_cons k I r) (pd_cons k J c)) * D = D ^ m * D * pd_det (k + 1 + m) (fun r c => A (pd_sel (k + 1) I r) (pd_sel (k + 1) J c)) := by
      rw [← c3, Int.mul_comm]
    calc D ^ m * D * (B k k * pd_det m (fun r c => B' (I r) (J c)))
        = D * (B k k * (D ^ m * pd_det m (fun r c => B' (I r) (J c)))) := by grind
      _ = D * (B k k ^ m * pd_det (m + 1) (fun r c => B (pd_cons k I r) (pd_cons k J c))) := by rw [c1]; rfl
      _ = B k k ^ m * (pd_det (m + 1) (fun r c => B (pd_cons k I r) (pd_cons k J c)) * D) := by grind
      _ = B k k ^ m * (D ^ m * D * pd_det (k + 1 + m) (fun r c => A (pd_sel (k + 1) I r) (pd_sel (k + 1) J c))) := by rw [c4]
      _ = D ^ m * D * (B k k ^ m * pd_det (k + 1 + m) (fun r c => A (pd_sel (k + 1) I r) (pd_sel (k + 1) J c))) := by grind
  exact key
