theorem mo_ex {w : Nat → Int} {p q a b : Int} (h : ∃ t, t < pr_n w ∧ pf_on (pr_c w) t p q) (ha : a = p ∨ a = q) (la : a ≤ p ∧ a ≤ q) (hb : b = p ∨ b = q) (lb : p ≤ b ∧ q ≤ b) : ∃ t, t < pr_n w ∧ pf_on (pr_c w) t a b := by
  obtain ⟨t, h1, h2⟩ := h
  refine ⟨t, h1, ?_⟩
  rcases ha with rfl | rfl <;> rcases hb with rfl | rfl
  · exact ⟨h2.1, h2.1⟩
  · exact h2
  · exact ⟨h2.2, h2.1⟩
  · exact ⟨h2.2, h2.2⟩
theorem mo_m {w : Nat → Int} {p q a b : Int} (h : pr_m w p q = 2) (ha : a = p ∨ a = q) (la : a ≤ p ∧ a ≤ q) (hb : b = p ∨ b = q) (lb : p ≤ b ∧ q ≤ b) : pr_m w a b = 2 := by
  rcases Int.le_total p q with r | r
  · rw [show a = p by omega, show b = q by omega]; exact h
  · rw [show a = q by omega, show b = p by omega, pr_m_sy]; exact h
theorem tu_mm {p q a b : Int} (ha : a = p ∨ a = q) (la : a ≤ p ∧ a ≤ q) (hb : b = p ∨ b = q) (lb : p ≤ b ∧ q ≤ b) : a = min p q ∧ b = max p q := by omega
/-- what is known of a side that is turned -/
def tu_f (w : Nat → Int) (a b t u c d : Int) : Prop := a < b ∧ (0 ≤ t ∧ t < u ∧ u < w (1 : Int).toNat) ∧ pf_on (pr_c w) t.toNat a b ∧ pf_on (pr_c w) u.toNat a b ∧ (∀ v, v < pr_n w → pf_on (pr_c w) v a b → v = t.toNat ∨ v = u.toNat) ∧ c = min (pf_by (pr_c w) t.toNat a b) (pf_by (pr_c w) u.toNat a b) ∧ d = max (pf_by (pr_c w) t.toNat a b) (pf_by (pr_c w) u.toNat a b) ∧ (∀ v, v < pr_n w → ¬ pf_on (pr_c w) v (pf_by (pr_c w) t.toNat a b) (pf_by (pr_c w) u.toNat a b))
theorem tu_ff {w : Nat → Int} {p q a b : Int} (h : pr_ff w p q) (ha : a = p ∨ a = q) (la : a ≤ p ∧ a ≤ q) (hb : b = p ∨ b = q) (lb : p ≤ b ∧ q ≤ b) : pr_ff w a b ∧ a < b := by
  have e := tu_mm ha la hb lb
  have h0 := h.1
  have := h.mm
  rw [← e.1, ← e.2] at this
  exact ⟨this, by omega⟩
theorem tu_u {w : Nat → Int} {a b t u : Int} (h : pr_ff w a b) (hu : (u = -1 ∧ ∀ v, v < pr_n w → (v : Int) ≠ t → ¬ pf_on (pr_c w) v a b) ∨ (0 ≤ u ∧ u < w (1 : Int).toNat ∧ u ≠ t ∧ pf_on (pr_c w) u.toNat a b)) : 0 ≤ u := by
  rcases hu with ⟨h1, h2⟩ | h1
  · obtain ⟨h0, t', u', q1, q2, q3, q4, q5, q6⟩ := h
    exfalso
    by_cases c : (t' : Int) = t
    · exact h2 u' q2 (by omega) q4
    · exact h2 t' (by omega) c q3
  · exact h1.1
theorem tu_facts {w : Nat → Int} {a b t u x y c d : Int} (h : pr_ff w a b) (hab : a < b) (rt : 0 ≤ t ∧ t < w (1 : Int).toNat) (ht : pf_on (pr_c w) t.toNat a b) (hmin : ∀ v, v < t.toNat → ¬ pf_on (pr_c w) v a b) (hu : (u = -1 ∧ ∀ v, v < pr_n w → (v : Int) ≠ t → ¬ pf_on (pr_c w) v a b) ∨ (0 ≤ u ∧ u < w (1 : Int).toNat ∧ u ≠ t ∧ pf_on (pr_c w) u.toNat a b)) (ex : x = pf_by (pr_c w) t.toNat a b) (ey : y = pf_by (pr_c w) u.toNat a b) (hc : c = x ∨ c = y) (lc : c ≤ x ∧ c ≤ y) (hd : d = x ∨ d = y) (ld : x ≤ d ∧ y ≤ d) : tu_f w a b t u c d := by
  have hu0 := tu_u h hu
  have hu1 : 0 ≤ u ∧ u < w (1 : Int).toNat ∧ u ≠ t ∧ pf_on (pr_c w) u.toNat a b := by
    rcases hu with q | q
    · omega
    · exact q
  have e0 : w (1 : Int).toNat = w 1 := rfl
  obtain ⟨h0, t', u', q1, q2, q3, q4, q5, q6⟩ := h
  have et : t.toNat = t' := by
    rcases q5 t.toNat (by unfold pr_n; omega) ht with z | z
    · exact z
    · exfalso; exact hmin t' (by omega) q3
  have eu : u.toNat = u' := by
    rcases q5 u.toNat (by unfold pr_n; omega) hu1.2.2.2 with z | z
    · exfalso; omega
    · exact z
  refine ⟨hab, ⟨rt.1, by omega, hu1.2.1⟩, ht, hu1.2.2.2, ?_, by omega, by omega, ?_⟩
  · rw [et, eu]; exact q5
  · rw [et, eu]; exact q6
theorem tu_f.rg {w : Nat → Int} {a b t u c d : Int} (g : pf_G 10 (pr_n w) (pr_c w)) (h : tu_f w a b t u c d) : 0 ≤ c ∧ c ≤ 9 ∧ 0 ≤ d ∧ d ≤ 9 := by
  obtain ⟨h1, h2, h3, h4, h5, h6, h7, h8⟩ := h
  have e0 : w (1 : Int).toNat = w 1 := rfl
  have a1 := (pf_by_has g (by unfold pr_n; omega) h3 (by omega)).1.rg (g.1 t.toNat (by unfold pr_n; omega)).1
  have a2 := (pf_by_has g (by unfold pr_n; omega) h4 (by omega)).1.rg (g.1 u.toNat (by unfold pr_n; omega)).1
  omega
def tu_l (w w3 : Nat → Int) (a b t u k i : Int) : Prop := (∀ j : Nat, j < 220 → w3 j = w j) ∧ w3 k.toNat = 10 * a + b ∧ w3 (k + 2).toNat = t ∧ w3 (k + 3).toNat = u ∧ (∀ q : Nat, (q : Int) < i → w3 (k + 4 + q).toNat = w (8 + 4 * t + q).toNat ∧ w3 (k + 8 + q).toNat = w (8 + 4 * u + q).toNat) ∧ ∀ j : Nat, 220 ≤ j → ((j : Int) < k ∨ k + 13 ≤ (j : Int)) → w3 j = w j
theorem tu_l.start {w w1 w2 w3 w4 : Nat → Int} {a b t u k v1 v2 : Int} (hk : 220 ≤ k) (e1 : ∀ j, w1 j = if j = k.toNat then v1 else w j) (ev : v1 = 10 * a + b) (e2 : ∀ j, w2 j = if j = (k + 1).toNat then v2 else w1 j) (e3 : ∀ j, w3 j = if j = (k + 2).toNat then t else w2 j) (e4 : ∀ j, w4 j = if j = (k + 3).toNat then u else w3 j) : tu_l w w4 a b t u k 0 := by
  refine ⟨fun j hj => ?_, ?_, ?_, ?_, fun q hq => by omega, fun j hj hc => ?_⟩
  · rw [e4, if_neg (by omega), e3, if_neg (by omega), e2, if_neg (by omega), e1, if_neg (by omega)]
  · rw [e4, if_neg (by omega), e3, if_neg (by omega), e2, if_neg (by omega), e1, if_pos rfl, ev]
  · rw [e4, if_neg (by omega), e3, if_pos rfl]
  · rw [e4, if_pos rfl]
  · rw [e4, if_neg (by omega), e3, if_neg (by omega), e2, if_neg (by omega), e1, if_neg (by omega)]
theorem tu_l.step {w w3 w4 w5 : Nat → Int} {a b t u k i z1 z2 : Int} (h : tu_l w w3 a b t u k i) (hk : 220 ≤ k) (hi : 0 ≤ i ∧ i ≤ 3) (ht : 0 ≤ t ∧ t ≤ 17) (hu : 0 ≤ u ∧ u ≤ 17) (ez1 : z1 = w3 (8 + 4 * t + i).toNat) (e4 : ∀ j, w4 j = if j = (k + 4 + i).toNat then z1 else w3 j) (ez2 : z2 = w4 (8 + 4 * u + i).toNat) (e5 : ∀ j, w5 j = if j = (k + 8 + i).toNat then z2 else w4 j) : tu_l w w5 a b t u k (i + 1) := by
  obtain ⟨h1, h2, h3, h4, h5, h6⟩ := h
  have l4 : ∀ j : Nat, j < 220 → w4 j = w j := fun j hj => by rw [e4, if_neg (by omega), h1 j hj]
  refine ⟨fun j hj => ?_, ?_, ?_, ?_, fun q hq => ?_, fun j hj hc => ?_⟩
  · rw [e5, if_neg (by omega), l4 j hj]
  · rw [e5, if_neg (by omega), e4, if_neg (by omega), h2]
  · rw [e5, if_neg (by omega), e4, if_neg (by omega), h3]
  · rw [e5, if_neg (by omega), e4, if_neg (by omega), h4]
  · by_cases c : (q : Int) = i
    · rw [c]
      refine ⟨?_, ?_⟩
      · rw [e5, if_neg (by omega), e4, if_pos rfl, ez1, h1 _ (by omega)]
      · rw [e5, if_pos rfl, ez2, l4 _ (by omega)]
    · have := h5 q (by omega)
      refine ⟨?_, ?_⟩
      · rw [e5, if_neg (by omega), e4, if_neg (by omega), this.1]
      · rw [e5, if_neg (by omega), e4, if_neg (by omega), this.2]
  · rw [e5, if_neg (by omega), e4, if_neg (by omega), h6 j hj hc]
/-- a side turned: the new world beside the old -/
def pr_tu (w w' : Nat → Int) (p q : Int) : Prop := ∃ t u : Nat, ∃ x y : Int, pf_F (pr_n w) (pr_c w) (pr_c w') (min p q) (max p q) t u x y ∧ (∀ v, v < pr_n w → pf_on (pr_c w) v (min p q) (max p q) → v = t ∨ v = u) ∧ (w' 0 = w 0 ∧ w' 1 = w 1 ∧ w' 6 = w 6 + 1 ∧ w' 7 = w 7) ∧ (w' (220 + 13 * (w 6).toNat) = 10 * min p q + max p q ∧ w' (220 + 13 * (w 6).toNat + 2) = t ∧ w' (220 + 13 * (w 6).toNat + 3) = u ∧ ∀ i, i < 3 → w' (220 + 13 * (w 6).toNat + 4 + i) = pr_c w t i ∧ w' (220 + 13 * (w 6).toNat + 8 + i) = pr_c w u i) ∧ ∀ j, 220 ≤ j → (j < 220 + 13 * (w 6).toNat ∨ 220 + 13 * (w 6).toNat + 13 ≤ j) → w' j = w j
theorem tu_end {w w3 w4 w5 w6 w7 w8 w9 : Nat → Int} {p q a b t u c d k i s1 s2 v n6 : Int} (g : pf_G 10 (pr_n w) (pr_c w)) (hw : 0 ≤ w (1 : Int).toNat ∧ w (1 : Int).toNat ≤ 18) (h6 : 0 ≤ w (6 : Int).toNat) (eab : a = min p q ∧ b = max p q) (hf : tu_f w a b t u c d) (hl : tu_l w w3 a b t u k i) (hi : 3 ≤ i) (ek : k = 220 + 13 * w (6 : Int).toNat) (e4 : ∀ j, w4 j = if j = (k + 12).toNat then v else w3 j)
    (e5 : ∀ j, w5 j = if j = (8 + 4 * t + 3).toNat then s1 else if j = (8 + 4 * t + 2).toNat then d else if j = (8 + 4 * t + 1).toNat then c else if j = (8 + 4 * t).toNat then a else w4 j) (e6 : ∀ j, w6 j = if j = (8 + 4 * u + 3).toNat then s2 else if j = (8 + 4 * u + 2).toNat then d else if j = (8 + 4 * u + 1).toNat then c else if j = (8 + 4 * u).toNat then b else w5 j)
    (e7 : ∀ j : Nat, j < 120 ∨ 220 ≤ j → w7 j = w6 j) (e8 : ∀ j : Nat, j < 120 ∨ 220 ≤ j → w8 j = w7 j) (e9 : ∀ j, w9 j = if j = (6 : Int).toNat then n6 else w8 j) (en : n6 = w (6 : Int).toNat + 1) : pr_tu w w9 p q := by
  obtain ⟨f1, f2, f3, f4, f5, f6, f7, f8⟩ := hf
  obtain ⟨l1, l2, l3, l4, l5, l6⟩ := hl
  have x1 : w (1 : Int).toNat = w 1 := rfl
  have x6 : w (6 : Int).toNat = w 6 := rfl
  have y6 : (6 : Int).toNat = 6 := rfl
  rw [x1] at hw f2
  rw [x6] at h6 ek en
  have hk : k.toNat = 220 + 13 * (w 6).toNat := by omega
  -- far from the thirds
  have far : ∀ j : Nat, j ≠ 6 → (j < 8 ∨ (80 ≤ j ∧ j < 120) ∨ 220 ≤ j) → w9 j = w4 j := by
    intro j hj hc
    rw [e9, if_neg (by omega), e8 j (by omega), e7 j (by omega), e6, if_neg (by omega), if_neg (by omega), if_neg (by omega), if_neg (by omega), e5, if_neg (by omega), if_neg (by omega), if_neg (by omega), if_neg (by omega)]
  have low : ∀ j : Nat, j < 220 → w4 j = w j := fun j hj => by rw [e4, if_neg (by omega), l1 j hj]
  have w9w : ∀ j : Nat, 8 ≤ j → j < 80 → w9 j = w6 j := fun j h1 h2 => by rw [e9, if_neg (by omega), e8 j (by omega), e7 j (by omega)]
  have ct : pr_c w9 t.toNat 0 = a ∧ pr_c w9 t.toNat 1 = c ∧ pr_c w9 t.toNat 2 = d := by
    unfold pr_c
    refine ⟨?_, ?_, ?_⟩
    · rw [w9w _ (by omega) (by omega), e6, if_neg (by omega), if_neg (by omega), if_neg (by omega), if_neg (by omega), e5, if_neg (by omega), if_neg (by omega), if_neg (by omega), if_pos (by omega)]
    · rw [w9w _ (by omega) (by omega), e6, if_neg (by omega), if_neg (by omega), if_neg (by omega), if_neg (by omega), e5, if_neg (by omega), if_neg (by omega), if_pos (by omega)]
    · rw [w9w _ (by omega) (by omega), e6, if_neg (by omega), if_neg (by omega), if_neg (by omega), if_neg (by omega), e5, if_neg (by omega), if_pos (by omega)]
  have cu : pr_c w9 u.toNat 0 = b ∧ pr_c w9 u.toNat 1 = c ∧ pr_c w9 u.toNat 2 = d := by
    unfold pr_c
    refine ⟨?_, ?_, ?_⟩
    · rw [w9w _ (by omega) (by omega), e6, if_neg (by omega), if_neg (by omega), if_neg (by omega), if_pos (by omega)]
    · rw [w9w _ (by omega) (by omega), e6, if_neg (by omega), if_neg (by omega), if_pos (by omega)]
    · rw [w9w _ (by omega) (by omega), e6, if_neg (by omega), if_pos (by omega)]
  have co : ∀ v k, v < pr_n w → k < 3 → v ≠ t.toNat → v ≠ u.toNat → pr_c w9 v k = pr_c w v k := by
    intro v k hv hk' n1 n2
    unfold pr_n at hv
    unfold pr_c
    rw [w9w _ (by omega) (by omega), e6, if_neg (by omega), if_neg (by omega), if_neg (by omega), if_neg (by omega), e5, if_neg (by omega), if_neg (by omega), if_neg (by omega), if_neg (by omega), low _ (by omega)]
  have nn : u.toNat < pr_n w := by unfold pr_n; omega
  refine ⟨t.toNat, u.toNat, c, d, ?_, ?_, ⟨?_, ?_, ?_, ?_⟩, ⟨?_, ?_, ?_, fun q hq => ?_⟩, fun j hj hc => ?_⟩
  · rw [← eab.1, ← eab.2, f6, f7]
    exact pf_F.mk g (by omega) nn f1 f3 f4 f8 ⟨ct.1, ct.2.1.trans f6, ct.2.2.trans f7⟩ ⟨cu.1, cu.2.1.trans f6, cu.2.2.trans f7⟩ co
  · rw [← eab.1, ← eab.2]; exact f5
  · rw [far 0 (by omega) (by omega), low 0 (by omega)]
  · rw [far 1 (by omega) (by omega), low 1 (by omega)]
  · rw [e9, if_pos y6.symm, en]
  · rw [far 7 (by omega) (by omega), low 7 (by omega)]
  · rw [far _ (by omega) (by omega), e4, if_neg (by omega), ← hk, l2, eab.1, eab.2]
  · rw [far _ (by omega) (by omega), e4, if_neg (by omega), show 220 + 13 * (w 6).toNat + 2 = (k + 2).toNat by omega, l3]; omega
  · rw [far _ (by omega) (by omega), e4, if_neg (by omega), show 220 + 13 * (w 6).toNat + 3 = (k + 3).toNat by omega, l4]; omega
  · have z := l5 q (by omega)
    refine ⟨?_, ?_⟩
    · rw [far _ (by omega) (by omega), e4, if_neg (by omega), show 220 + 13 * (w 6).toNat + 4 + q = (k + 4 + q).toNat by omega, z.1]
      unfold pr_c
      rw [show (8 + 4 * t + q).toNat = 8 + 4 * t.toNat + q by omega]
    · rw [far _ (by omega) (by omega), e4, if_neg (by omega), show 220 + 13 * (w 6).toNat + 8 + q = (k + 8 + q).toNat by omega, z.2]
      unfold pr_c
      rw [show (8 + 4 * u + q).toNat = 8 + 4 * u.toNat + q by omega]
  · rw [far j (by omega) (by omega), e4, if_neg (by omega), l6 j hj (by omega)]
theorem pd_sum_b {n a b : Nat} {f : Nat → Int} (hab : a < b) (hb : b < n) (h : ∀ i, i < n → i ≠ a → i ≠ b → f i = 0) (ha1 : f a = 1) (hb1 : f b = 1) : pd_sum n f = 2 := by
  rw [pd_sum_two hab hb h, ha1, hb1]; rfl
theorem pr_ff.m {w : Nat → Int} {p q : Int} (h : pr_ff w p q) : pr_m w p q = 2 := by
  obtain ⟨h0, t, u, h1, h2, h3, h4, h5, h6⟩ := h
  have i1 : ∀ v, pf_on (pr_c w) v p q → pf_i (pr_c w) v p q = 1 := fun v hv => by
    rcases @pf_i_on (pr_c w) v p q with ⟨q1, q2⟩ | ⟨q1, q2⟩
    · exact q1
    · exact absurd hv q2
  refine pd_sum_b h1 h2 (fun v hv n1 n2 => ?_) (i1 t h3) (i1 u h4)
  rcases @pf_i_on (pr_c w) v p q with ⟨q1, q2⟩ | ⟨q1, q2⟩
  · rcases h5 v hv q2 with z | z
    · exact absurd z n1
    · exact absurd z n2
  · exact q1
theorem mf_no {w : Nat → Int} {p q t u a b : Int} (h : pr_ff w p q) (rt : 0 ≤ t ∧ t < w (1 : Int).toNat) (ht : pf_on (pr_c w) t.toNat p q) (hmin : ∀ v, v < t.toNat → ¬ pf_on (pr_c w) v p q) (hu : (u = -1 ∧ ∀ v, v < pr_n w → (v : Int) ≠ t → ¬ pf_on (pr_c w) v p q) ∨ (0 ≤ u ∧ u < w (1 : Int).toNat ∧ u ≠ t ∧ pf_on (pr_c w) u.toNat p q)) (ea : a = pf_by (pr_c w) t.toNat p q) (eb : b = pf_by (pr_c w) u.toNat p q) : ¬ pr_s w a b := by
  intro hs
  obtain ⟨v, hv, hc⟩ := pr_m_pos.mp hs.2
  have hu0 := tu_u h hu
  have hu1 : 0 ≤ u ∧ u < w (1 : Int).toNat ∧ u ≠ t ∧ pf_on (pr_c w) u.toNat p q := by
    rcases hu with q | q
    · omega
    · exact q
  have e0 : w (1 : Int).toNat = w 1 := rfl
  obtain ⟨h0, t', u', q1, q2, q3, q4, q5, q6⟩ := h
  have et : t.toNat = t' := by
    rcases q5 t.toNat (by unfold pr_n; omega) ht with z | z
    · exact z
    · exfalso; exact hmin t' (by omega) q3
  have eu : u.toNat = u' := by
    rcases q5 u.toNat (by unfold pr_n; omega) hu1.2.2.2 with z | z
    · exfalso; omega
    · exact z
  rw [ea, eb, et, eu] at hc
  exact q6 v hv hc
