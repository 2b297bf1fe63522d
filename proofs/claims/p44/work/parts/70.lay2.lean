theorem tp_0 {w : Nat → Int} : ∀ x : Nat, x < 10 → (pb 0 x = true ↔ ((x : Int) < 0 ∧ w (80 + 4 * x) ≠ -1)) := by
  intro x hx
  rw [pb_0]
  exact ⟨fun h => absurd h (by decide), fun h => by omega⟩
theorem tp_b0 {w : Nat → Int} {L z : Int} (h0 : 0 ≤ L) (e : z = w (80 + 4 * L + 0).toNat) (hz : z = -1) : ∀ x : Nat, x < 10 → (pb 0 x = true ↔ (x = L.toNat ∧ w (80 + 4 * L.toNat) ≠ -1)) := by
  intro x hx
  rw [pb_0]
  refine ⟨fun h => absurd h (by decide), fun h => absurd ?_ h.2⟩
  rw [show 80 + 4 * L.toNat = (80 + 4 * L + 0).toNat by omega, ← e]
  exact hz
theorem tp_b1 {w : Nat → Int} {L z s : Int} (h0 : 0 ≤ L ∧ L ≤ 9) (e : z = w (80 + 4 * L + 0).toNat) (hz : ¬ z = -1) (hs : pv_r s) (es : pv_I 1 <<< (pv_I L &&& 31) = pv_I s) : ∀ x : Nat, x < 10 → (pb s x = true ↔ (x = L.toNat ∧ w (80 + 4 * L.toNat) ≠ -1)) := by
  intro x hx
  rw [pb_shl h0.1 (by omega) hs es (by omega), decide_eq_true_eq]
  refine ⟨fun h => ⟨h, ?_⟩, fun h => h.1⟩
  rw [show 80 + 4 * L.toNat = (80 + 4 * L + 0).toNat by omega, ← e]
  exact hz
theorem tp_step {w : Nat → Int} {L a b z : Int} (h0 : 0 ≤ L) (h : ∀ x : Nat, x < 10 → (pb a x = true ↔ ((x : Int) < L ∧ w (80 + 4 * x) ≠ -1))) {a' : Int} (ea : a' = a) (hb : ∀ x : Nat, x < 10 → (pb b x = true ↔ (x = L.toNat ∧ w (80 + 4 * L.toNat) ≠ -1))) (e : pv_I a' ||| pv_I b = pv_I z) : ∀ x : Nat, x < 10 → (pb z x = true ↔ ((x : Int) < L + 1 ∧ w (80 + 4 * x) ≠ -1)) := by
  subst ea
  intro x hx
  rw [pb_or e, Bool.or_eq_true, h x hx, hb x hx]
  constructor
  · rintro (q | ⟨q1, q2⟩)
    · exact ⟨by omega, q.2⟩
    · subst q1; exact ⟨by omega, q2⟩
  · rintro ⟨q1, q2⟩
    by_cases c : (x : Int) < L
    · exact Or.inl ⟨c, q2⟩
    · have : x = L.toNat := by omega
      subst this
      exact Or.inr ⟨rfl, q2⟩
theorem ag_bit {w : Nat → Int} {x1 p z b : Int} (h1 : 0 ≤ x1 ∧ x1 ≤ 1023) (hp : 0 ≤ p ∧ p ≤ 9) (hb : pv_r b) (e1 : pv_I x1 >>> (pv_I p &&& 31) = pv_I z) (e2 : pv_I z &&& pv_I 1 = pv_I b) : (b = 1 ∧ x1.toNat.testBit p.toNat = true) ∨ (b = 0 ∧ x1.toNat.testBit p.toNat = false) := by
  rw [← pb_nat h1.1 (by omega)]
  exact pb_tst hp.1 (by omega) hb e1 e2
theorem ag_1 {w : Nat → Int} {x1 p z b : Int} (hp : 0 ≤ p) (tt : (b = 1 ∧ x1.toNat.testBit p.toNat = true) ∨ (b = 0 ∧ x1.toNat.testBit p.toNat = false)) (hb : b = 1) (e : z = w (80 + 4 * p + 0).toNat) : z = if x1.toNat.testBit p.toNat then pl_a w p.toNat else 0 := by
  rcases tt with q | q
  · rw [if_pos q.2]
    unfold pl_a
    rw [show 80 + 4 * p.toNat = (80 + 4 * p + 0).toNat by omega]
    exact e
  · omega
theorem ag_0 {w : Nat → Int} {x1 p b : Int} (tt : (b = 1 ∧ x1.toNat.testBit p.toNat = true) ∨ (b = 0 ∧ x1.toNat.testBit p.toNat = false)) (hb : ¬ b = 1) : 0 = if x1.toNat.testBit p.toNat then pl_a w p.toNat else 0 := by
  rcases tt with q | q
  · exact absurd q.1 hb
  · rw [if_neg (by rw [q.2]; decide)]
theorem cl_sub {x y z22 z23 : Int} (hx : 0 ≤ x ∧ x ≤ 1023) (hy : 0 ≤ y ∧ y ≤ 1023) (e22 : pv_I y ^^^ pv_I (-1) = pv_I z22) (e23 : pv_I x &&& pv_I z22 = pv_I z23) (hz : pv_r z23) : (z23 = 0 → ∀ p, x.toNat.testBit p = true → y.toNat.testBit p = true) ∧ (z23 ≠ 0 → ¬ ∀ p, x.toNat.testBit p = true → y.toNat.testBit p = true) := by
  have kb : ∀ p, p < 32 → pb z23 p = (x.toNat.testBit p && !y.toNat.testBit p) := fun p hp => by
    rw [pb_and e23, pb_not e22 hp, pb_nat hx.1 (by omega), pb_nat hy.1 (by omega)]
  refine ⟨fun h p hp => ?_, fun h hs => h ?_⟩
  · by_cases c : p < 32
    · have := kb p c
      rw [h, pb_0, hp] at this
      cases hq : y.toNat.testBit p with
      | true => rfl
      | false => rw [hq] at this; cases this
    · have : x.toNat.testBit p = false := Nat.testBit_lt_two_pow (Nat.lt_of_lt_of_le (show x.toNat < 2 ^ 32 by omega) (Nat.pow_le_pow_right (by omega) (by omega)))
      rw [this] at hp; cases hp
  · refine pb_ext hz ⟨by omega, by omega⟩ (fun p hp => ?_)
    rw [kb p hp, pb_0]
    cases hq : x.toNat.testBit p with
    | false => rfl
    | true => rw [hs p hq]; rfl
def pl_t (w : Nat → Int) (T : Nat) : Prop := T < 1024 ∧ ∀ x : Nat, x < 10 → (T.testBit x = true ↔ ((x : Int) < w (0 : Int).toNat ∧ w (80 + 4 * x) ≠ -1))
def pl_ok (w hi lo : Nat → Int) (T : Nat) : Prop := ph_ok (pr_N w) T (pr_n w) (pl_a w) (pl_c w) (pl_s w) hi lo
def pl_B (w hi lo : Nat → Int) (X : Nat) : Prop := pd_sum (pr_n w) (ph_l (pl_c w) (pl_s w) hi lo X) ≤ ph_a (pr_N w) (pl_a w) X ∧ ph_a (pr_N w) (pl_a w) X ≤ pd_sum (pr_n w) (ph_m (pl_c w) (pl_s w) hi lo X)
theorem pl_t.of {w : Nat → Int} {z : Int} (hz : 0 ≤ z ∧ z ≤ 1023) (h : ∀ x : Nat, x < 10 → (pb z x = true ↔ ((x : Int) < w (0 : Int).toNat ∧ w (80 + 4 * x) ≠ -1))) : pl_t w z.toNat := ⟨by omega, fun x hx => by rw [← pb_nat hz.1 (by omega)]; exact h x hx⟩
theorem pl_t.ok {w hi lo : Nat → Int} {T T' : Nat} (hN : w (0 : Int).toNat ≤ 10) (h : pl_t w T) (h' : pl_t w T') (ho : pl_ok w hi lo T) : pl_ok w hi lo T' := by
  intro X hX hs
  refine ho X hX (fun p hp => ?_)
  have hp10 : p < 10 := by
    apply Classical.byContradiction
    intro hc
    have : X.testBit p = false := Nat.testBit_lt_two_pow (Nat.lt_of_lt_of_le hX (Nat.pow_le_pow_right (by omega) (by unfold pr_N; have e : w (0 : Int).toNat = w 0 := rfl; omega)))
    rw [this] at hp; cases hp
  exact (h.2 p hp10).mpr ((h'.2 p hp10).mp (hs p hp))
theorem pl_ok.congr {w hi lo hi' lo' : Nat → Int} {T : Nat} (h : pl_ok w hi lo T) (hh : ∀ c : Nat, (c : Int) < 3 * w (1 : Int).toNat → lo' c = lo c ∧ hi' c = hi c) : pl_ok w hi' lo' T := by
  intro X hX hs
  have := h X hX hs
  have e0 : w (1 : Int).toNat = w 1 := rfl
  have e : ∀ t, t < pr_n w → ph_l (pl_c w) (pl_s w) hi' lo' X t = ph_l (pl_c w) (pl_s w) hi lo X t ∧ ph_m (pl_c w) (pl_s w) hi' lo' X t = ph_m (pl_c w) (pl_s w) hi lo X t := fun t ht => by
    unfold pr_n at ht
    have a0 := hh (3 * t + 0) (by omega)
    have a1 := hh (3 * t + 1) (by omega)
    have a2 := hh (3 * t + 2) (by omega)
    unfold ph_l ph_m ph_i ph_o
    rw [a0.1, a0.2, a1.1, a1.2, a2.1, a2.2]
    exact ⟨rfl, rfl⟩
  rw [pd_sum_congr (fun t ht => (e t ht).1), pd_sum_congr (fun t ht => (e t ht).2)]
  exact this
theorem cl_no {w hi lo : Nat → Int} {x y z22 z23 b s : Int} (hx : 0 ≤ x ∧ x ≤ 1023) (hy : 0 ≤ y ∧ y ≤ 1023) (e22 : pv_I y ^^^ pv_I (-1) = pv_I z22) (e23 : pv_I x &&& pv_I z22 = pv_I z23) (hz : pv_r z23) (h0 : z23 = 0) (hb : (b = 0 ∧ pl_B w hi lo x.toNat) ∨ (b ≠ 0 ∧ ¬ pl_B w hi lo x.toNat)) (hb0 : ¬ b = 0) (hs : pv_r s) (hw : 0 ≤ w (0 : Int).toNat ∧ w (0 : Int).toNat ≤ 10) (es : pv_I 1 <<< (pv_I (w (0 : Int).toNat) &&& 31) = pv_I s) (hlt : x < s) : ¬ pl_ok w hi lo y.toNat := by
  intro hok
  rcases hb with q | q
  · exact hb0 q.1
  · refine q.2 (hok x.toNat ?_ ((cl_sub hx hy e22 e23 hz).1 h0))
    have e := pv_shl1 hw.1 (by omega) hs es
    show x.toNat < 2 ^ (w 0).toNat
    have e0 : w (0 : Int).toNat = w 0 := rfl
    rw [e0] at e
    omega
theorem cl_yes {w hi lo : Nat → Int} {y s L : Int} (h : ∀ X : Nat, (X : Int) < L → (∀ p, X.testBit p = true → y.toNat.testBit p = true) → pl_B w hi lo X) (hs : pv_r s) (hw : 0 ≤ w (0 : Int).toNat ∧ w (0 : Int).toNat ≤ 10) (es : pv_I 1 <<< (pv_I (w (0 : Int).toNat) &&& 31) = pv_I s) (hL : s ≤ L) : pl_ok w hi lo y.toNat := by
  intro X hX hsub
  refine h X ?_ hsub
  have e := pv_shl1 hw.1 (by omega) hs es
  have hX' : X < 2 ^ (w 0).toNat := hX
  have e0 : w (0 : Int).toNat = w 0 := rfl
  rw [e0] at e
  omega
theorem cl_step {w hi lo : Nat → Int} {x y : Int} (h : ∀ X : Nat, (X : Int) < x → (∀ p, X.testBit p = true → y.toNat.testBit p = true) → pl_B w hi lo X) (hx : 0 ≤ x) (hn : (∀ p, x.toNat.testBit p = true → y.toNat.testBit p = true) → pl_B w hi lo x.toNat) : ∀ X : Nat, (X : Int) < x + 1 → (∀ p, X.testBit p = true → y.toNat.testBit p = true) → pl_B w hi lo X := by
  intro X hX hs
  by_cases c : (X : Int) < x
  · exact h X c hs
  · have : X = x.toNat := by omega
    subst this
    exact hn hs
theorem fb_step {w lo hi lo' hi' : Nat → Int} {L a b : Int} (h : ∀ c : Nat, (c : Int) < L → lo c = w (3 : Int).toNat ∧ hi c = w (4 : Int).toNat) (h0 : 0 ≤ L) (ea : a = w (3 : Int).toNat) (eb : b = w (4 : Int).toNat) (el : ∀ j, lo' j = if j = L.toNat then a else lo j) (eh : ∀ j, hi' j = if j = L.toNat then b else hi j) : ∀ c : Nat, (c : Int) < L + 1 → lo' c = w (3 : Int).toNat ∧ hi' c = w (4 : Int).toNat := by
  intro c hc
  rw [el, eh]
  by_cases q : c = L.toNat
  · rw [if_pos q, if_pos q]; exact ⟨ea, eb⟩
  · rw [if_neg q, if_neg q]; exact h c (by omega)
theorem tne {τ : Nat → Option Nat} {a b t u : Nat} (ha : τ a = some t) (hb : τ b = some u) (h : t ≠ u) : a ≠ b := fun e => by
  rw [e, hb] at ha
  exact h (Option.some.inj ha).symm
