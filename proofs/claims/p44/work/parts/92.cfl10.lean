/-! READING in the class: the draft -/
def nd (h : pv_H) (ρ : Nat → Nat → Nat) (n : Nat) : Prop := pf_sh (nk_n h n) (nk_c h ρ n) (pv_aI h (ρ n 12)) ∧ pf_G (pv_fI h n 0) (nk_n h n) (nk_c h ρ n) ∧ pv_fI h n 14 = 0 ∧ pv_fI h n 15 = 0
theorem nd.k {h : pv_H} {ρ : Nat → Nat → Nat} {n : Nat} (d : nd h ρ n) : nk_k h ρ n := by
  refine ⟨⟨d.1, ?_⟩, fun i hi => by have := d.2.2.2; omega⟩
  rw [d.2.2.1]
  exact pf_ch.zero d.2.1
theorem nd.fr {τ : Nat → Option Nat} {ρ : Nat → Nat → Nat} {h h' : pv_H} {E : List Nat} {n : Nat} (d : nd h ρ n) (hT : pv_Ty τ ρ h) (hn : τ n = some 2) (F : pv_Fr τ E h h') (hE : E.all (fun q => decide (q ≠ 128 ∧ q ≠ 129 ∧ q ≠ 142 ∧ q ≠ 143 ∧ q ≠ 1343 ∧ q ≠ 1791 ∧ q ≠ 1855)) = true) : nd h' ρ n := by
  have no : ∀ q, q = 128 ∨ q = 129 ∨ q = 142 ∨ q = 143 ∨ q = 1343 ∨ q = 1791 ∨ q = 1855 → q ∉ E := fun q hq hc => by
    have := List.all_eq_true.mp hE _ hc
    rw [decide_eq_true_eq] at this
    omega
  unfold nd nk_n nk_c at *
  rw [((F n 2 hn).1 0 (no _ (by omega))).1, ((F n 2 hn).1 1 (no _ (by omega))).1, ((F n 2 hn).1 14 (no _ (by omega))).1, ((F n 2 hn).1 15 (no _ (by omega))).1, F.aeq (hT.net hn).1.1 (no _ (by omega)), F.aeq (hT.net hn).2.2.2.1 (no _ (by omega))]
  exact d
theorem nd_clear {h : pv_H} {ρ : Nat → Nat → Nat} {n : Nat} (h1 : pv_fI h n 1 = 0) (h2 : pv_fI h n 14 = 0) (h3 : pv_fI h n 15 = 0) (hs : ∀ j : Nat, j < 100 → pv_aI h (ρ n 12) j = 0) : nd h ρ n := by
  have e : nk_n h n = 0 := by unfold nk_n; rw [h1]; rfl
  refine ⟨?_, ?_, h2, h3⟩
  · rw [e]
    intro p q hp hq
    exact hs _ (by omega)
  · rw [e]
    exact ⟨fun t ht => by omega, fun t u ht => by omega⟩
theorem nd_begin {h h' : pv_H} {ρ : Nat → Nat → Nat} {n : Nat} (d : nd h ρ n) (h0 : pv_fI h n 1 = 0) (f1 : pv_fI h' n 1 = pv_fI h n 1) (f2 : pv_fI h' n 14 = pv_fI h n 14) (f3 : pv_fI h' n 15 = pv_fI h n 15) (a1 : pv_aI h' (ρ n 12) = pv_aI h (ρ n 12)) : nd h' ρ n := by
  obtain ⟨d1, d2, d3, d4⟩ := d
  have e : nk_n h n = 0 := by unfold nk_n; rw [h0]; rfl
  refine nd_clear (by rw [f1, h0]) (by rw [f2, d3]) (by rw [f3, d4]) (fun j hj => ?_)
  rw [a1]
  have := d1 (j / 10) (j % 10) (by omega) (by omega)
  rw [e, show 10 * (j / 10) + j % 10 = j by omega] at this
  exact this
theorem fl_s {F F' : Nat → Int} {L v : Int} (h0 : 0 ≤ L) (h : ∀ j : Nat, (j : Int) < L → F j = v) (E : ∀ j, F' j = if j = L.toNat then v else F j) : ∀ j : Nat, (j : Int) < L + 1 → F' j = v := by
  intro j hj
  rw [E]
  by_cases q : j = L.toNat
  · rw [if_pos q]
  · rw [if_neg q]; exact h j (by omega)
/-- a third that has all three posts has their bits -/
theorem tk_no {c : Nat → Nat → Int} {t : Nat} {x1 x2 x3 p b : Int} (u : c t 0 ≠ c t 1 ∧ c t 0 ≠ c t 2 ∧ c t 1 ≠ c t 2) (hx : x1 ≠ x2 ∧ x1 ≠ x3 ∧ x2 ≠ x3) (hp : ∀ x : Nat, x < 32 → (pb p x = true ↔ pf_has c t x)) (hb : ∀ x : Nat, x < 32 → (pb b x = true ↔ (x1 = x ∨ x2 = x ∨ x3 = x))) (rp : pv_r p) (rb : pv_r b) (hne : p ≠ b) : ¬ (pf_has c t x1 ∧ pf_has c t x2 ∧ pf_has c t x3) := by
  intro hc
  apply hne
  refine pb_ext rp rb (fun x hx => ?_)
  have k : pb p x = true ↔ pb b x = true := by
    rw [hp x hx, hb x hx]
    unfold pf_has at hc ⊢
    omega
  cases hq : pb b x with
  | false =>
    cases hr : pb p x with
    | false => rfl
    | true => rw [k.mp hr] at hq; cases hq
  | true => exact k.mpr hq
theorem tk_s {c : Nat → Nat → Int} {L x1 x2 x3 : Int} (h0 : 0 ≤ L) (h : ∀ t : Nat, (t : Int) < L → ¬ (pf_has c t x1 ∧ pf_has c t x2 ∧ pf_has c t x3)) (hn : ¬ (pf_has c L.toNat x1 ∧ pf_has c L.toNat x2 ∧ pf_has c L.toNat x3)) : ∀ t : Nat, (t : Int) < L + 1 → ¬ (pf_has c t x1 ∧ pf_has c t x2 ∧ pf_has c t x3) := by
  intro t ht
  by_cases q : (t : Int) < L
  · exact h t q
  · rw [show t = L.toNat by omega]; exact hn
/-- a third more -/
theorem rs_end {h h' : pv_H} {ρ : Nat → Nat → Nat} {n : Nat} {x1 x2 x3 : Int} (d : nd h ρ n) (h0 : 0 ≤ pv_fI h n 1) (hx : x1 ≠ x2 ∧ x1 ≠ x3 ∧ x2 ≠ x3) (r1 : 0 ≤ x1 ∧ x1 < pv_fI h n 0) (r2 : 0 ≤ x2 ∧ x2 < pv_fI h n 0) (r3 : 0 ≤ x3 ∧ x3 < pv_fI h n 0) (no : ∀ t : Nat, (t : Int) < pv_fI h n 1 → ¬ (pf_has (nk_c h ρ n) t x1 ∧ pf_has (nk_c h ρ n) t x2 ∧ pf_has (nk_c h ρ n) t x3))
    (k1 : (nk_c h' ρ n (pv_fI h n 1).toNat 0 = x1 ∧ nk_c h' ρ n (pv_fI h n 1).toNat 1 = x2 ∧ nk_c h' ρ n (pv_fI h n 1).toNat 2 = x3) ∧ ∀ v k : Nat, k < 3 → v ≠ (pv_fI h n 1).toNat → nk_c h' ρ n v k = nk_c h ρ n v k)
    (e1 : ∀ p q : Nat, p < 10 → q < 10 → pv_aI h' (ρ n 12) (10 * p + q) = pv_aI h (ρ n 12) (10 * p + q) + pf_cn (nk_c h' ρ n) (pv_fI h n 1).toNat p q) (f0 : pv_fI h' n 0 = pv_fI h n 0) (f1 : pv_fI h' n 1 = pv_fI h n 1 + 1) (f2 : pv_fI h' n 14 = pv_fI h n 14) (f3 : pv_fI h' n 15 = pv_fI h n 15) : nd h' ρ n := by
  obtain ⟨d1, d2, d3, d4⟩ := d
  have en : nk_n h' n = nk_n h n + 1 := by unfold nk_n; rw [f1]; omega
  have em : (pv_fI h n 1).toNat = nk_n h n := rfl
  rw [em] at k1 e1
  have no2 : ∀ t : Nat, t < nk_n h n → ¬ (pf_has (nk_c h ρ n) t x1 ∧ pf_has (nk_c h ρ n) t x2 ∧ pf_has (nk_c h ρ n) t x3) := fun t ht => no t (by unfold nk_n at ht; omega)
  rw [nd, f0, f2, f3, en]
  generalize nk_c h' ρ n = c' at *
  generalize nk_c h ρ n = c at *
  generalize nk_n h n = m at *
  have old : ∀ v, v < m → c' v 0 = c v 0 ∧ c' v 1 = c v 1 ∧ c' v 2 = c v 2 := fun v hv => ⟨k1.2 v 0 (by omega) (by omega), k1.2 v 1 (by omega) (by omega), k1.2 v 2 (by omega) (by omega)⟩
  refine ⟨fun p q hp hq => ?_, ⟨fun t ht => ?_, fun t u ht hu hne => ?_⟩, d3, d4⟩
  · rw [e1 p q hp hq, d1 p q hp hq, show pd_sum (m + 1) (fun t => pf_cn c' t p q) = pd_sum m (fun t => pf_cn c' t p q) + pf_cn c' m p q from rfl]
    rw [pd_sum_congr (f := fun t => pf_cn c' t p q) (g := fun t => pf_cn c t p q) (fun t ht => pf_cn_c (fun k hk => k1.2 t k hk (by omega)))]
  · by_cases e : t = m
    · subst e
      rw [k1.1.1, k1.1.2.1, k1.1.2.2]
      exact ⟨⟨r1.1, r1.2, r2.1, r2.2, r3.1, r3.2⟩, hx.1, hx.2.1, hx.2.2⟩
    · obtain ⟨o0, o1, o2⟩ := old t (by omega)
      rw [o0, o1, o2]
      exact d2.1 t (by omega)
  · by_cases e : t = m
    · by_cases e2 : u = m
      · omega
      · obtain ⟨o0, o1, o2⟩ := old u (by omega)
        have gu := (d2.1 u (by omega)).2
        intro hc
        unfold pf_has at hc
        rw [e, k1.1.1, k1.1.2.1, k1.1.2.2, o0, o1, o2] at hc
        refine no2 u (by omega) ?_
        unfold pf_has
        omega
    · obtain ⟨o0, o1, o2⟩ := old t (by omega)
      unfold pf_has
      rw [o0, o1, o2]
      by_cases e2 : u = m
      · rw [e2, k1.1.1, k1.1.2.1, k1.1.2.2]
        exact no2 t (by omega)
      · obtain ⟨w0, w1, w2⟩ := old u (by omega)
        rw [w0, w1, w2]
        exact d2.2 t u (by omega) (by omega) hne
def tp_S (ρ : Nat → Nat → Nat) (a : Nat) (x : Nat) : Bool := x == a || x == ρ a 4 || nk_S ρ (ρ a 3) x
theorem tp_S_t {ρ : Nat → Nat → Nat} {a x : Nat} : tp_S ρ a x = true ↔ x = a ∨ x = ρ a 4 ∨ nk_S ρ (ρ a 3) x = true := by
  unfold tp_S
  simp only [Bool.or_eq_true, beq_iff_eq, or_assoc]
theorem tp_k {k : Nat} {t' z : Int} {q : Nat × List (Nat × Int × Int)} (hq : pv_tyO 1 = some q) (h : q.2[k]? = some (4, t', z)) : k = 3 ∨ k = 4 := by
  cases hq
  rcases Nat.lt_or_ge k 11 with r | r
  · have : k = 0 ∨ k = 1 ∨ k = 2 ∨ k = 5 ∨ k = 6 ∨ k = 7 ∨ k = 8 ∨ k = 9 ∨ k = 10 ∨ (k = 3 ∨ k = 4) := by omega
    rcases this with r | r | r | r | r | r | r | r | r | r
    all_goals first | exact r | (subst r; exact absurd h (by simp))
  · rw [List.getElem?_eq_none (by exact r)] at h
    cases h
theorem tp_S_clo {τ : Nat → Option Nat} {ρ : Nat → Nat → Nat} {h : pv_H} {a : Nat} (hT : pv_Ty τ ρ h) (ha : τ a = some 1) : pv_clo τ ρ (tp_S ρ a) := by
  have n3 : τ (ρ a 3) = some 2 := hT.rf (t' := 2) ha rfl rfl
  have n4 : τ (ρ a 4) = some 30 := hT.rf (t' := 30) ha rfl rfl
  intro x t hx ht
  rcases tp_S_t.mp hx with r | r | r
  · subst r
    cases ha.symm.trans ht
    refine ⟨fun q k t' z hq hk => ?_, fun q hq => (by cases hq)⟩
    rw [tp_S_t]
    rcases tp_k hq hk with r | r
    · subst r; exact Or.inr (Or.inr (nk_S_t.mpr (Or.inl rfl)))
    · subst r; exact Or.inr (Or.inl rfl)
  · subst r
    cases n4.symm.trans ht
    exact ⟨fun q k t' z hq => (by cases hq), fun q hq => (by cases hq; exact Or.inl rfl)⟩
  · obtain ⟨c1, c2⟩ := nk_S_clo hT n3 x t r ht
    exact ⟨fun q k t' z hq hk => tp_S_t.mpr (Or.inr (Or.inr (c1 q k t' z hq hk))), c2⟩
theorem tp_S_no {τ : Nat → Option Nat} {ρ : Nat → Nat → Nat} {h : pv_H} {a b : Nat} (hT : pv_Ty τ ρ h) (hi : nk_inj τ ρ) (ha : τ a = some 1) (hb : τ b = some 2) (hne : b ≠ ρ a 3) : tp_S ρ a b = false ∧ tp_S ρ a (ρ b 5) = false ∧ tp_S ρ a (ρ b 12) = false ∧ tp_S ρ a (ρ b 13) = false := by
  have n3 : τ (ρ a 3) = some 2 := hT.rf (t' := 2) ha rfl rfl
  have n4 : τ (ρ a 4) = some 30 := hT.rf (t' := 30) ha rfl rfl
  obtain ⟨⟨m5, m6, m7, m8, m9⟩, m10, m11, m12, m13⟩ := hT.net hb
  obtain ⟨s1, s2, s3, s4⟩ := nk_S_no hT hi n3 hb hne
  have key : ∀ x t, τ x = some t → t ≠ 1 → t ≠ 30 → nk_S ρ (ρ a 3) x = false → tp_S ρ a x = false := by
    intro x t hx k1 k2 k3
    rw [← Bool.not_eq_true, tp_S_t]
    rintro (r | r | r)
    · subst r; cases hx.symm.trans ha; omega
    · subst r; cases hx.symm.trans n4; omega
    · rw [k3] at r; cases r
  exact ⟨key _ 2 hb (by omega) (by omega) s1, key _ 20 m5 (by omega) (by omega) s2, key _ 27 m12 (by omega) (by omega) s3, key _ 28 m13 (by omega) (by omega) s4⟩
/-- before a third is put -/
def rs_P (h : pv_H) (ρ : Nat → Nat → Nat) (n : Nat) (x1 x2 x3 : Int) : Prop := nd h ρ n ∧ pv_fI h n 1 ≤ 17 ∧ (x1 < pv_fI h n 0 ∧ x2 < pv_fI h n 0 ∧ x3 < pv_fI h n 0) ∧ ∀ t : Nat, (t : Int) < pv_fI h n 1 → ¬ (pf_has (nk_c h ρ n) t x1 ∧ pf_has (nk_c h ρ n) t x2 ∧ pf_has (nk_c h ρ n) t x3)
theorem rs_P.fr {τ : Nat → Option Nat} {ρ : Nat → Nat → Nat} {h h' : pv_H} {E : List Nat} {n : Nat} {x1 x2 x3 : Int} (d : rs_P h ρ n x1 x2 x3) (hT : pv_Ty τ ρ h) (hn : τ n = some 2) (F : pv_Fr τ E h h') (hE : E.all (fun q => decide (q ≠ 128 ∧ q ≠ 129 ∧ q ≠ 142 ∧ q ≠ 143 ∧ q ≠ 1343 ∧ q ≠ 1791 ∧ q ≠ 1855)) = true) : rs_P h' ρ n x1 x2 x3 := by
  have no : ∀ q, q = 128 ∨ q = 129 ∨ q = 142 ∨ q = 143 ∨ q = 1343 ∨ q = 1791 ∨ q = 1855 → q ∉ E := fun q hq hc => by
    have := List.all_eq_true.mp hE _ hc
    rw [decide_eq_true_eq] at this
    omega
  obtain ⟨d0, d1⟩ := d
  refine ⟨d0.fr hT hn F hE, ?_⟩
  unfold nk_c at *
  rw [((F n 2 hn).1 0 (no _ (by omega))).1, ((F n 2 hn).1 1 (no _ (by omega))).1, F.aeq (hT.net hn).1.1 (no _ (by omega))]
  exact d1
