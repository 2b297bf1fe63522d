/-! FLIPS in the reference -/
theorem pd_sum_3 {n a b c : Nat} {f : Nat → Int} (h : ∀ i, i < n → 0 ≤ f i) (ha : a < n) (hb : b < n) (hc : c < n) (hab : a ≠ b) (hac : a ≠ c) (hbc : b ≠ c) : f a + f b + f c ≤ pd_sum n f := by
  have e : pd_sum n f = pd_sum n (fun i => if i = a then f a else 0) + (pd_sum n (fun i => if i = b then f b else 0) + (pd_sum n (fun i => if i = c then f c else 0) + pd_sum n (fun i => if i = a ∨ i = b ∨ i = c then 0 else f i))) := by
    rw [← pd_sum_add, ← pd_sum_add, ← pd_sum_add]
    refine pd_sum_congr (fun i hi => ?_)
    by_cases h1 : i = a
    · subst h1; rw [if_pos rfl, if_neg hab, if_neg hac, if_pos (Or.inl rfl)]; omega
    · by_cases h2 : i = b
      · subst h2; rw [if_neg h1, if_pos rfl, if_neg hbc, if_pos (Or.inr (Or.inl rfl))]; omega
      · by_cases h3 : i = c
        · subst h3; rw [if_neg h1, if_neg h2, if_pos rfl, if_pos (Or.inr (Or.inr rfl))]; omega
        · rw [if_neg h1, if_neg h2, if_neg h3, if_neg (by omega)]; omega
  have o : ∀ a, a < n → pd_sum n (fun i => if i = a then f a else 0) = f a := fun a ha => by
    rw [pd_sum_one (a := a) ha (fun i hi hne => by rw [if_neg hne]), if_pos rfl]
  have z := pd_sum_le (n := n) (f := fun _ => 0) (g := fun i => if i = a ∨ i = b ∨ i = c then 0 else f i) (fun i hi => by
    by_cases q : i = a ∨ i = b ∨ i = c
    · rw [if_pos q]; omega
    · rw [if_neg q]; exact h i hi)
  rw [pd_sum_zero (fun _ _ => rfl)] at z
  rw [e, o a ha, o b hb, o c hc]
  omega
/-- the third corner, as a sum -/
def pf_by (c : Nat → Nat → Int) (t : Nat) (p q : Int) : Int := c t 0 + c t 1 + c t 2 - p - q
theorem pf_by_has {N : Int} {n : Nat} {c : Nat → Nat → Int} {t : Nat} {p q : Int} (g : pf_G N n c) (ht : t < n) (h : pf_on c t p q) (hne : p ≠ q) : pf_has c t (pf_by c t p q) ∧ pf_by c t p q ≠ p ∧ pf_by c t p q ≠ q := by
  have gt := (g.1 t ht).2
  unfold pf_by
  rcases h.1 with h1 | h1 | h1 <;> rcases h.2 with h2 | h2 | h2
  · exact absurd (h1.symm.trans h2) hne
  · exact ⟨Or.inr (Or.inr (by omega)), by omega, by omega⟩
  · exact ⟨Or.inr (Or.inl (by omega)), by omega, by omega⟩
  · exact ⟨Or.inr (Or.inr (by omega)), by omega, by omega⟩
  · exact absurd (h1.symm.trans h2) hne
  · exact ⟨Or.inl (by omega), by omega, by omega⟩
  · exact ⟨Or.inr (Or.inl (by omega)), by omega, by omega⟩
  · exact ⟨Or.inl (by omega), by omega, by omega⟩
  · exact absurd (h1.symm.trans h2) hne
/-- two thirds on a side have unlike third corners -/
theorem pf_by_ne {N : Int} {n : Nat} {c : Nat → Nat → Int} {t u : Nat} {p q : Int} (g : pf_G N n c) (ht : t < n) (hu : u < n) (htu : t ≠ u) (h : pf_on c t p q) (h' : pf_on c u p q) (hne : p ≠ q) : pf_by c t p q ≠ pf_by c u p q := by
  intro e
  obtain ⟨b1, b2, b3⟩ := pf_by_has g ht h hne
  obtain ⟨d1, d2, d3⟩ := pf_by_has g hu h' hne
  refine g.2 t u ht hu htu ?_
  have gu := (g.1 u hu).2
  have key : ∀ k, (c u 0 = k ∨ c u 1 = k ∨ c u 2 = k) → k = p ∨ k = q ∨ k = pf_by c u p q := by
    intro k hk
    by_cases k1 : k = p
    · exact Or.inl k1
    · by_cases k2 : k = q
      · exact Or.inr (Or.inl k2)
      · exact Or.inr (Or.inr (pf_third h'.1 h'.2 hk d1 hne k1 k2 d2 d3))
  have fin : ∀ k, (c u 0 = k ∨ c u 1 = k ∨ c u 2 = k) → pf_has c t k := by
    intro k hk
    rcases key k hk with r | r | r
    · rw [r]; exact h.1
    · rw [r]; exact h.2
    · rw [r, ← e]; exact b1
  exact ⟨fin _ (Or.inl rfl), fin _ (Or.inr (Or.inl rfl)), fin _ (Or.inr (Or.inr rfl))⟩
def pf_mk (c : Nat → Nat → Int) (t u : Nat) (a b x y : Int) : Nat → Nat → Int := fun v k => if v = t then (match k with | 0 => a | 1 => x | _ => y) else if v = u then (match k with | 0 => b | 1 => x | _ => y) else c v k
/-- what makes a flip -/
theorem pf_F.mk {N : Int} {n : Nat} {c c' : Nat → Nat → Int} {t u : Nat} {a b : Int} (g : pf_G N n c) (htu : t < u) (hu : u < n) (hab : a < b) (h : pf_on c t a b) (h' : pf_on c u a b) (hs : ∀ v, v < n → ¬ pf_on c v (pf_by c t a b) (pf_by c u a b)) (h1 : c' t 0 = a ∧ c' t 1 = min (pf_by c t a b) (pf_by c u a b) ∧ c' t 2 = max (pf_by c t a b) (pf_by c u a b)) (h2 : c' u 0 = b ∧ c' u 1 = min (pf_by c t a b) (pf_by c u a b) ∧ c' u 2 = max (pf_by c t a b) (pf_by c u a b)) (h3 : ∀ v k, v < n → k < 3 → v ≠ t → v ≠ u → c' v k = c v k) : pf_F n c c' a b t u (min (pf_by c t a b) (pf_by c u a b)) (max (pf_by c t a b) (pf_by c u a b)) := by
  obtain ⟨b1, b2, b3⟩ := pf_by_has g (by omega) h (by omega)
  obtain ⟨d1, d2, d3⟩ := pf_by_has g hu h' (by omega)
  have bn := pf_by_ne g (by omega) hu (by omega) h h' (by omega)
  refine ⟨⟨htu, hu, hab, by omega⟩, ⟨h, h'⟩, ?_, by omega, ?_, h1, h2, h3⟩
  · rcases Int.le_total (pf_by c t a b) (pf_by c u a b) with q | q
    · left; rw [Int.min_eq_left q, Int.max_eq_right q]; exact ⟨b1, d1⟩
    · right; rw [Int.min_eq_right q, Int.max_eq_left q]; exact ⟨b1, d1⟩
  · intro v hv hc
    rcases Int.le_total (pf_by c t a b) (pf_by c u a b) with q | q
    · rw [Int.min_eq_left q, Int.max_eq_right q] at hc; exact hs v hv hc
    · rw [Int.min_eq_right q, Int.max_eq_left q] at hc; exact hs v hv ⟨hc.2, hc.1⟩
/-- a side that may be flipped: two thirds have it, and their third corners aren't a side -/
def pr_ff (w : Nat → Int) (p q : Int) : Prop := p ≠ q ∧ ∃ t u : Nat, t < u ∧ u < pr_n w ∧ pf_on (pr_c w) t p q ∧ pf_on (pr_c w) u p q ∧ (∀ v, v < pr_n w → pf_on (pr_c w) v p q → v = t ∨ v = u) ∧ ∀ v, v < pr_n w → ¬ pf_on (pr_c w) v (pf_by (pr_c w) t p q) (pf_by (pr_c w) u p q)
theorem pf_by_sy {c : Nat → Nat → Int} {t : Nat} {p q : Int} : pf_by c t p q = pf_by c t q p := by unfold pf_by; omega
theorem pr_ff.sy {w : Nat → Int} {p q : Int} (h : pr_ff w p q) : pr_ff w q p := by
  obtain ⟨h0, t, u, h1, h2, h3, h4, h5, h6⟩ := h
  refine ⟨Ne.symm h0, t, u, h1, h2, ⟨h3.2, h3.1⟩, ⟨h4.2, h4.1⟩, fun v hv hc => h5 v hv ⟨hc.2, hc.1⟩, ?_⟩
  rw [pf_by_sy (p := q), pf_by_sy (p := q)]
  exact h6
theorem pr_ff.mm {w : Nat → Int} {p q : Int} (h : pr_ff w p q) : pr_ff w (min p q) (max p q) := by
  rcases Int.le_total p q with r | r
  · rw [Int.min_eq_left r, Int.max_eq_right r]; exact h
  · rw [Int.min_eq_right r, Int.max_eq_left r]; exact h.sy
theorem pr_ff.ex {w : Nat → Int} {p q : Int} (h : pr_ff w p q) : ∃ t, t < pr_n w ∧ pf_on (pr_c w) t p q := by
  obtain ⟨h0, t, u, h1, h2, h3, h4, h5, h6⟩ := h
  exact ⟨t, by omega, h3⟩
theorem mf_ff {w : Nat → Int} {p q t u a b : Int} (g : pf_G 10 (pr_n w) (pr_c w)) (hm : pr_m w p q = 2) (hne : p ≠ q) (rt : 0 ≤ t ∧ t < w (1 : Int).toNat) (ht : pf_on (pr_c w) t.toNat p q) (hmin : ∀ v, v < t.toNat → ¬ pf_on (pr_c w) v p q) (hu : (u = -1 ∧ ∀ v, v < pr_n w → (v : Int) ≠ t → ¬ pf_on (pr_c w) v p q) ∨ (0 ≤ u ∧ u < w (1 : Int).toNat ∧ u ≠ t ∧ pf_on (pr_c w) u.toNat p q)) (ea : a = pf_by (pr_c w) t.toNat p q) (eb : 0 ≤ u → b = pf_by (pr_c w) u.toNat p q) (hs : ¬ pr_s w a b) : pr_ff w p q := by
  have e0 : w (1 : Int).toNat = w 1 := rfl
  have hn : (pr_n w : Int) = w 1 := by unfold pr_n; omega
  have htn : t.toNat < pr_n w := by unfold pr_n; omega
  have hu' : 0 ≤ u ∧ u < w 1 ∧ u ≠ t ∧ pf_on (pr_c w) u.toNat p q := by
    rcases hu with ⟨h1, h2⟩ | h1
    · exfalso
      have e1 : pr_m w p q = pf_i (pr_c w) t.toNat p q := pd_sum_one htn (fun v hv hvt => by
        rcases @pf_i_on (pr_c w) v p q with ⟨q1, q2⟩ | ⟨q1, q2⟩
        · exact absurd q2 (h2 v hv (by omega))
        · exact q1)
      have := @pf_i_nn (pr_c w) t.toNat p q
      omega
    · rw [e0] at h1; exact h1
  have hun : u.toNat < pr_n w := by unfold pr_n; omega
  have htu : t.toNat < u.toNat := by
    apply Classical.byContradiction
    intro hc
    exact hmin u.toNat (by omega) hu'.2.2.2
  refine ⟨hne, t.toNat, u.toNat, htu, hun, ht, hu'.2.2.2, fun v hv hc => ?_, ?_⟩
  · apply Classical.byContradiction
    intro hno
    have i1 : ∀ v, pf_on (pr_c w) v p q → pf_i (pr_c w) v p q = 1 := fun v hv => by
      rcases @pf_i_on (pr_c w) v p q with ⟨q1, q2⟩ | ⟨q1, q2⟩
      · exact q1
      · exact absurd hv q2
    have s3 := pd_sum_3 (n := pr_n w) (f := fun v => pf_i (pr_c w) v p q) (fun _ _ => pf_i_nn.1) htn hun hv (by omega) (by omega) (by omega)
    simp only [i1 _ ht, i1 _ hu'.2.2.2, i1 _ hc] at s3
    have : pr_m w p q = pd_sum (pr_n w) (fun v => pf_i (pr_c w) v p q) := rfl
    omega
  · rw [← ea, ← eb hu'.1]
    have hab : a ≠ b := by
      rw [ea, eb hu'.1]
      exact pf_by_ne g htn hun (by omega) ht hu'.2.2.2 hne
    intro v hv hc
    exact hs ⟨hab, pr_m_pos.mpr ⟨v, hv, hc⟩⟩
theorem lz_n {w : Nat → Int} {L p q : Int} (h : ∃ t, L.toNat ≤ t ∧ t < pr_n w ∧ pf_on (pr_c w) t p q) : L < w (1 : Int).toNat := by
  obtain ⟨t, h1, h2, h3⟩ := h
  unfold pr_n at h2
  show L < w 1
  omega
theorem lz_s {w : Nat → Int} {L p q : Int} (h0 : 0 ≤ L) (h : ∃ t, L.toNat ≤ t ∧ t < pr_n w ∧ pf_on (pr_c w) t p q) (hn : ¬ pf_on (pr_c w) L.toNat p q) : ∃ t, (L + 1).toNat ≤ t ∧ t < pr_n w ∧ pf_on (pr_c w) t p q := by
  obtain ⟨t, h1, h2, h3⟩ := h
  refine ⟨t, ?_, h2, h3⟩
  have : t ≠ L.toNat := fun e => hn (e ▸ h3)
  omega
theorem lz_a {w : Nat → Int} {L p q : Int} (h0 : 0 ≤ L) (h : ∀ t, t < L.toNat → ¬ pf_on (pr_c w) t p q) (hn : ¬ pf_on (pr_c w) L.toNat p q) : ∀ t, t < (L + 1).toNat → ¬ pf_on (pr_c w) t p q := by
  intro t ht
  by_cases c : t < L.toNat
  · exact h t c
  · have : t = L.toNat := by omega
    rw [this]; exact hn
theorem ot_skip {w : Nat → Int} {L f p q b : Int} (h0 : 0 ≤ L) (h : (f = -1 ∧ ∀ v, v < L.toNat → (v : Int) ≠ b → ¬ pf_on (pr_c w) v p q) ∨ (0 ≤ f ∧ f < L ∧ f ≠ b ∧ pf_on (pr_c w) f.toNat p q)) (hn : L = b ∨ ¬ pf_on (pr_c w) L.toNat p q) : (f = -1 ∧ ∀ v, v < (L + 1).toNat → (v : Int) ≠ b → ¬ pf_on (pr_c w) v p q) ∨ (0 ≤ f ∧ f < L + 1 ∧ f ≠ b ∧ pf_on (pr_c w) f.toNat p q) := by
  rcases h with ⟨h1, h2⟩ | h1
  · refine Or.inl ⟨h1, fun v hv hb => ?_⟩
    by_cases c : v < L.toNat
    · exact h2 v c hb
    · have : v = L.toNat := by omega
      rcases hn with hn | hn
      · exact absurd (by omega) hb
      · rw [this]; exact hn
  · exact Or.inr ⟨h1.1, by omega, h1.2.2⟩
theorem mf_rg {w : Nat → Int} {p q : Int} (g : pf_G 10 (pr_n w) (pr_c w)) (h : ∃ t, t < pr_n w ∧ pf_on (pr_c w) t p q) : 0 ≤ p ∧ p ≤ 9 ∧ 0 ≤ q ∧ q ≤ 9 := by
  obtain ⟨t, h1, h2⟩ := h
  have a := h2.1.rg (g.1 t h1).1
  have b := h2.2.rg (g.1 t h1).1
  omega
theorem mf_u {w : Nat → Int} {p q t u : Int} (g : pf_G 10 (pr_n w) (pr_c w)) (hm : pr_m w p q = 2) (rt : 0 ≤ t ∧ t < w (1 : Int).toNat) (ht : pf_on (pr_c w) t.toNat p q) (hu : (u = -1 ∧ ∀ v, v < pr_n w → (v : Int) ≠ t → ¬ pf_on (pr_c w) v p q) ∨ (0 ≤ u ∧ u < w (1 : Int).toNat ∧ u ≠ t ∧ pf_on (pr_c w) u.toNat p q)) : 0 ≤ u := by
  rcases hu with ⟨h1, h2⟩ | h1
  · exfalso
    have e0 : w (1 : Int).toNat = w 1 := rfl
    have e1 : pr_m w p q = pf_i (pr_c w) t.toNat p q := pd_sum_one (by unfold pr_n; omega) (fun v hv hvt => by
      rcases @pf_i_on (pr_c w) v p q with ⟨q1, q2⟩ | ⟨q1, q2⟩
      · exact absurd q2 (h2 v hv (by omega))
      · exact q1)
    have := @pf_i_nn (pr_c w) t.toNat p q
    omega
  · exact h1.1
