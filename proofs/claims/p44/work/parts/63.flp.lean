/-! FLIPS: thirds by their corners, a flip, and the row of flips behind a net -/
def pf_has (c : Nat → Nat → Int) (t : Nat) (p : Int) : Prop := c t 0 = p ∨ c t 1 = p ∨ c t 2 = p
def pf_on (c : Nat → Nat → Int) (t : Nat) (p q : Int) : Prop := pf_has c t p ∧ pf_has c t q
def pf_q (n : Nat) (c c' : Nat → Nat → Int) : Prop := ∀ t k, t < n → k < 3 → c t k = c' t k
def pf_G (N : Int) (n : Nat) (c : Nat → Nat → Int) : Prop := (∀ t, t < n → (0 ≤ c t 0 ∧ c t 0 < N ∧ 0 ≤ c t 1 ∧ c t 1 < N ∧ 0 ≤ c t 2 ∧ c t 2 < N) ∧ c t 0 ≠ c t 1 ∧ c t 0 ≠ c t 2 ∧ c t 1 ≠ c t 2) ∧ ∀ t u, t < n → u < n → t ≠ u → ¬ (pf_has c t (c u 0) ∧ pf_has c t (c u 1) ∧ pf_has c t (c u 2))
def pf_F (n : Nat) (c c' : Nat → Nat → Int) (a b : Int) (t u : Nat) (x y : Int) : Prop :=
  (t < u ∧ u < n ∧ a < b ∧ x < y) ∧ (pf_on c t a b ∧ pf_on c u a b) ∧ ((pf_has c t x ∧ pf_has c u y) ∨ (pf_has c t y ∧ pf_has c u x)) ∧ (x ≠ a ∧ x ≠ b ∧ y ≠ a ∧ y ≠ b) ∧ (∀ v, v < n → ¬ pf_on c v x y) ∧ (c' t 0 = a ∧ c' t 1 = x ∧ c' t 2 = y) ∧ (c' u 0 = b ∧ c' u 1 = x ∧ c' u 2 = y) ∧ ∀ v k, v < n → k < 3 → v ≠ t → v ≠ u → c' v k = c v k
theorem pf_q.has {n : Nat} {c c' : Nat → Nat → Int} (h : pf_q n c c') {t : Nat} (ht : t < n) {p : Int} : pf_has c t p ↔ pf_has c' t p := by
  unfold pf_has
  rw [h t 0 ht (by omega), h t 1 ht (by omega), h t 2 ht (by omega)]
theorem pf_q.on {n : Nat} {c c' : Nat → Nat → Int} (h : pf_q n c c') {t : Nat} (ht : t < n) {p q : Int} : pf_on c t p q ↔ pf_on c' t p q := by
  unfold pf_on
  rw [h.has ht, h.has ht]
theorem pf_q.rf {n : Nat} {c : Nat → Nat → Int} : pf_q n c c := fun _ _ _ _ => rfl
theorem pf_q.sy {n : Nat} {c c' : Nat → Nat → Int} (h : pf_q n c c') : pf_q n c' c := fun t k ht hk => (h t k ht hk).symm
theorem pf_q.tr {n : Nat} {c c' c'' : Nat → Nat → Int} (h : pf_q n c c') (h' : pf_q n c' c'') : pf_q n c c'' := fun t k ht hk => (h t k ht hk).trans (h' t k ht hk)
theorem pf_G.q {N : Int} {n : Nat} {c c' : Nat → Nat → Int} (g : pf_G N n c) (h : pf_q n c c') : pf_G N n c' := by
  refine ⟨fun t ht => ?_, fun t u ht hu hne => ?_⟩
  · rw [← h t 0 ht (by omega), ← h t 1 ht (by omega), ← h t 2 ht (by omega)]
    exact g.1 t ht
  · rw [← h u 0 hu (by omega), ← h u 1 hu (by omega), ← h u 2 hu (by omega), ← h.has ht, ← h.has ht, ← h.has ht]
    exact g.2 t u ht hu hne
theorem pf_F.q {n : Nat} {c c' d : Nat → Nat → Int} {a b x y : Int} {t u : Nat} (h : pf_F n c c' a b t u x y) (hq : pf_q n c d) : pf_F n d c' a b t u x y := by
  obtain ⟨⟨h1, h2, h3, h4⟩, ⟨h5, h6⟩, h7, h8, h9, h10, h11, h12⟩ := h
  have ht : t < n := by omega
  refine ⟨⟨h1, h2, h3, h4⟩, ⟨(hq.on ht).mp h5, (hq.on h2).mp h6⟩, ?_, h8, fun v hv hc => h9 v hv ((hq.on hv).mpr hc), h10, h11, fun v k hv hk e1 e2 => (h12 v k hv hk e1 e2).trans (hq v k hv hk)⟩
  rw [← hq.has ht, ← hq.has h2, ← hq.has ht, ← hq.has h2]
  exact h7
/-- three unlike numbers among three: each is one of them -/
theorem pf_three {p q r a x y : Int} (h1 : p ≠ q) (h2 : p ≠ r) (h3 : q ≠ r) (hp : a = p ∨ x = p ∨ y = p) (hq : a = q ∨ x = q ∨ y = q) (hr : a = r ∨ x = r ∨ y = r) : (p = x ∨ q = x ∨ r = x) ∧ (p = y ∨ q = y ∨ r = y) := by
  rcases hp with rfl | rfl | rfl <;> rcases hq with rfl | rfl | rfl <;> rcases hr with rfl | rfl | rfl <;> first | exact absurd rfl h1 | exact absurd rfl h2 | exact absurd rfl h3 | simp
theorem pf_has.rg {N : Int} {c : Nat → Nat → Int} {t : Nat} {p : Int} (h : pf_has c t p) (g : 0 ≤ c t 0 ∧ c t 0 < N ∧ 0 ≤ c t 1 ∧ c t 1 < N ∧ 0 ≤ c t 2 ∧ c t 2 < N) : 0 ≤ p ∧ p < N := by
  obtain ⟨g1, g2, g3, g4, g5, g6⟩ := g
  rcases h with h | h | h <;> rw [← h] <;> exact ⟨by assumption, by assumption⟩
/-- the third corner is one -/
theorem pf_third {c : Nat → Nat → Int} {t : Nat} {a b x y : Int} (ha : pf_has c t a) (hb : pf_has c t b) (hx : pf_has c t x) (hy : pf_has c t y) (hab : a ≠ b) (h1 : x ≠ a) (h2 : x ≠ b) (h3 : y ≠ a) (h4 : y ≠ b) : x = y := by
  unfold pf_has at ha hb hx hy
  generalize c t 0 = c0 at *
  generalize c t 1 = c1 at *
  generalize c t 2 = c2 at *
  rcases ha with rfl | rfl | rfl <;> rcases hb with rfl | rfl | rfl <;> first | exact absurd rfl hab | (rcases hx with rfl | rfl | rfl <;> first | exact absurd rfl h1 | exact absurd rfl h2 | (rcases hy with rfl | rfl | rfl <;> first | exact absurd rfl h3 | exact absurd rfl h4 | rfl))
theorem pf_F.good {N : Int} {n : Nat} {c c' : Nat → Nat → Int} {a b x y : Int} {t u : Nat} (h : pf_F n c c' a b t u x y) (g : pf_G N n c) : pf_G N n c' := by
  obtain ⟨⟨h1, h2, h3, h4⟩, ⟨h5, h6⟩, h7, h8, h9, h10, h11, h12⟩ := h
  have ht : t < n := by omega
  have gt := g.1 t ht
  have gu := g.1 u h2
  obtain ⟨ra, rb⟩ := h5.1.rg gt.1
  obtain ⟨rc, rd⟩ := h5.2.rg gt.1
  have rxy : (0 ≤ x ∧ x < N) ∧ (0 ≤ y ∧ y < N) := by
    rcases h7 with h7 | h7
    · exact ⟨h7.1.rg gt.1, h7.2.rg gu.1⟩
    · exact ⟨h7.2.rg gu.1, h7.1.rg gt.1⟩
  obtain ⟨⟨rx, rx'⟩, ry, ry'⟩ := rxy
  obtain ⟨n1, n2, n3, n4⟩ := h8
  have cv : ∀ v, v < n → v ≠ t → v ≠ u → c' v 0 = c v 0 ∧ c' v 1 = c v 1 ∧ c' v 2 = c v 2 := fun v hv e1 e2 => ⟨h12 v 0 hv (by omega) e1 e2, h12 v 1 hv (by omega) e1 e2, h12 v 2 hv (by omega) e1 e2⟩
  refine ⟨fun v hv => ?_, fun v w hv hw hne => ?_⟩
  · by_cases e1 : v = t
    · subst e1; rw [h10.1, h10.2.1, h10.2.2]; exact ⟨⟨ra, rb, rx, rx', ry, ry'⟩, Ne.symm n1, Ne.symm n3, Int.ne_of_lt h4⟩
    · by_cases e2 : v = u
      · subst e2; rw [h11.1, h11.2.1, h11.2.2]; exact ⟨⟨rc, rd, rx, rx', ry, ry'⟩, Ne.symm n2, Ne.symm n4, Int.ne_of_lt h4⟩
      · obtain ⟨k0, k1, k2⟩ := cv v hv e1 e2
        rw [k0, k1, k2]
        exact g.1 v hv
  · intro hc
    have dw := g.1 w hw
    by_cases e1 : v = t ∨ v = u
    · by_cases f1 : w = t ∨ w = u
      · rcases e1 with e1 | e1 <;> rcases f1 with f1 | f1
        · omega
        · subst e1; subst f1
          unfold pf_has at hc
          rw [h10.1, h10.2.1, h10.2.2, h11.1] at hc
          rcases hc.1 with z | z | z
          · exact Int.ne_of_lt h3 z
          · exact n2 z
          · exact n4 z
        · subst e1; subst f1
          unfold pf_has at hc
          rw [h11.1, h11.2.1, h11.2.2, h10.1] at hc
          rcases hc.1 with z | z | z
          · exact Int.ne_of_gt h3 z
          · exact n1 z
          · exact n3 z
        · omega
      · obtain ⟨k0, k1, k2⟩ := cv w hw (fun e => f1 (Or.inl e)) (fun e => f1 (Or.inr e))
        refine h9 w hw ?_
        rw [k0, k1, k2] at hc
        unfold pf_has at hc
        unfold pf_on pf_has
        rcases e1 with e1 | e1
        · subst e1
          rw [h10.1, h10.2.1, h10.2.2] at hc
          exact pf_three dw.2.1 dw.2.2.1 dw.2.2.2 hc.1 hc.2.1 hc.2.2
        · subst e1
          rw [h11.1, h11.2.1, h11.2.2] at hc
          exact pf_three dw.2.1 dw.2.2.1 dw.2.2.2 hc.1 hc.2.1 hc.2.2
    · obtain ⟨k0, k1, k2⟩ := cv v hv (fun e => e1 (Or.inl e)) (fun e => e1 (Or.inr e))
      by_cases f1 : w = t ∨ w = u
      · refine h9 v hv ?_
        unfold pf_has at hc
        rw [k0, k1, k2] at hc
        unfold pf_on pf_has
        rcases f1 with f1 | f1
        · subst f1
          rw [h10.1, h10.2.1, h10.2.2] at hc
          exact ⟨hc.2.1, hc.2.2⟩
        · subst f1
          rw [h11.1, h11.2.1, h11.2.2] at hc
          exact ⟨hc.2.1, hc.2.2⟩
      · obtain ⟨l0, l1, l2⟩ := cv w hw (fun e => f1 (Or.inl e)) (fun e => f1 (Or.inr e))
        refine g.2 v w hv hw hne ?_
        unfold pf_has at hc ⊢
        rw [k0, k1, k2, l0, l1, l2] at hc
        exact hc
/-- no two ways to flip a side that two thirds have -/
theorem pf_F.det {N : Int} {n : Nat} {c c' d' : Nat → Nat → Int} {a b x y x2 y2 : Int} {t u t2 u2 : Nat} (g : pf_G N n c) (h : pf_F n c c' a b t u x y) (ho : ∀ v, v < n → pf_on c v a b → v = t ∨ v = u) (h' : pf_F n c d' a b t2 u2 x2 y2) : t = t2 ∧ u = u2 ∧ x = x2 ∧ y = y2 ∧ pf_q n c' d' := by
  obtain ⟨⟨h1, h2, h3, h4⟩, ⟨h5, h6⟩, h7, h8, h9, h10, h11, h12⟩ := h
  obtain ⟨⟨i1, i2, i3, i4⟩, ⟨i5, i6⟩, i7, i8, i9, i10, i11, i12⟩ := h'
  have ht2 : t2 < n := by omega
  have o1 := ho t2 ht2 i5
  have o2 := ho u2 i2 i6
  have et : t = t2 := by omega
  have eu : u = u2 := by omega
  subst et
  subst eu
  have gt := g.1 t (by omega)
  have gu := g.1 u h2
  have hab : a ≠ b := Int.ne_of_lt h3
  obtain ⟨n1, n2, n3, n4⟩ := h8
  obtain ⟨m1, m2, m3, m4⟩ := i8
  have exy : x = x2 ∧ y = y2 := by
    rcases h7 with h7 | h7 <;> rcases i7 with i7 | i7
    · exact ⟨pf_third h5.1 h5.2 h7.1 i7.1 hab n1 n2 m1 m2, pf_third h6.1 h6.2 h7.2 i7.2 hab n3 n4 m3 m4⟩
    · have z1 := pf_third h5.1 h5.2 h7.1 i7.1 hab n1 n2 m3 m4
      have z2 := pf_third h6.1 h6.2 h7.2 i7.2 hab n3 n4 m1 m2
      clear h12 i12 h9 i9
      omega
    · have z1 := pf_third h5.1 h5.2 h7.1 i7.1 hab n3 n4 m1 m2
      have z2 := pf_third h6.1 h6.2 h7.2 i7.2 hab n1 n2 m3 m4
      clear h12 i12 h9 i9
      omega
    · exact ⟨pf_third h6.1 h6.2 h7.2 i7.2 hab n1 n2 m1 m2, pf_third h5.1 h5.2 h7.1 i7.1 hab n3 n4 m3 m4⟩
  refine ⟨rfl, rfl, exy.1, exy.2, fun v k hv hk => ?_⟩
  by_cases e1 : v = t
  · subst e1
    rcases (show k = 0 ∨ k = 1 ∨ k = 2 by omega) with rfl | rfl | rfl
    · rw [h10.1, i10.1]
    · rw [h10.2.1, i10.2.1, exy.1]
    · rw [h10.2.2, i10.2.2, exy.2]
  · by_cases e2 : v = u
    · subst e2
      rcases (show k = 0 ∨ k = 1 ∨ k = 2 by omega) with rfl | rfl | rfl
      · rw [h11.1, i11.1]
      · rw [h11.2.1, i11.2.1, exy.1]
      · rw [h11.2.2, i11.2.2, exy.2]
    · rw [h12 v k hv hk e1 e2, i12 v k hv hk e1 e2]
/-- the row of flips: d done, T in all; pa, pb: their sides; of those done: the thirds, with their corners as they were. o: whether only two thirds have a flipped side -/
def pf_ch (o : Prop) (N : Int) (n d T : Nat) (c : Nat → Nat → Int) (pa pb rt ru : Nat → Int) (ro rv : Nat → Nat → Int) : Prop := d ≤ T ∧ ∃ G : Nat → Nat → Nat → Int, pf_q n c (G d) ∧ (∀ i, i ≤ T → pf_G N n (G i)) ∧ ∀ i, i < T → ∃ t u x y, pf_F n (G i) (G (i + 1)) (pa i) (pb i) t u x y ∧ (o → ∀ v, v < n → pf_on (G i) v (pa i) (pb i) → v = t ∨ v = u) ∧ (i < d → rt i = t ∧ ru i = u ∧ ∀ k, k < 3 → ro i k = G i t k ∧ rv i k = G i u k)
section FC
variable {o : Prop} {N : Int} {n d T : Nat} {c c' : Nat → Nat → Int} {pa pb rt ru : Nat → Int} {ro rv : Nat → Nat → Int} {pa' pb' rt' ru' : Nat → Int} {ro' rv' : Nat → Nat → Int}
theorem pf_ch.zero (g : pf_G N n c) : pf_ch o N n 0 0 c pa pb rt ru ro rv := ⟨Nat.le_refl _, fun _ => c, pf_q.rf, fun _ _ => g, fun i hi => by omega⟩
theorem pf_ch.good (h : pf_ch o N n d T c pa pb rt ru ro rv) : pf_G N n c := by
  obtain ⟨h0, G, h1, h2, h3⟩ := h
  exact (h2 d h0).q h1.sy
theorem pf_ch.congr (h : pf_ch o N n d T c pa pb rt ru ro rv) (hc : pf_q n c c') (hp : ∀ i, i < T → pa' i = pa i ∧ pb' i = pb i) (hr : ∀ i, i < d → rt' i = rt i ∧ ru' i = ru i ∧ ∀ k, k < 3 → ro' i k = ro i k ∧ rv' i k = rv i k) : pf_ch o N n d T c' pa' pb' rt' ru' ro' rv' := by
  obtain ⟨h0, G, h1, h2, h3⟩ := h
  refine ⟨h0, G, hc.sy.tr h1, h2, fun i hi => ?_⟩
  obtain ⟨t, u, x, y, k1, k2, k3⟩ := h3 i hi
  refine ⟨t, u, x, y, ?_, ?_, fun hid => ?_⟩
  · rw [(hp i hi).1, (hp i hi).2]; exact k1
  · rw [(hp i hi).1, (hp i hi).2]; exact k2
  · obtain ⟨r1, r2, r3⟩ := hr i hid
    obtain ⟨q1, q2, q3⟩ := k3 hid
    exact ⟨r1.trans q1, r2.trans q2, fun k hk => ⟨((r3 k hk).1).trans (q3 k hk).1, ((r3 k hk).2).trans (q3 k hk).2⟩⟩
theorem pf_ch.less (h : pf_ch o N n d T c pa pb rt ru ro rv) : pf_ch o N n d d c pa pb rt ru ro rv := by
  obtain ⟨h0, G, h1, h2, h3⟩ := h
  exact ⟨Nat.le_refl _, G, h1, fun i hi => h2 i (by omega), fun i hi => h3 i (by omega)⟩
theorem pf_ch.none (h : pf_ch o N n d T c pa pb rt ru ro rv) : pf_ch o N n 0 0 c pa' pb' rt' ru' ro' rv' := pf_ch.zero h.good
theorem pf_ch.flip {a b x y : Int} {t u : Nat} (h : pf_ch o N n d T c pa pb rt ru ro rv) (hF : pf_F n c c' a b t u x y) (ho : o → ∀ v, v < n → pf_on c v a b → v = t ∨ v = u) (hp : ∀ i, i < d → pa' i = pa i ∧ pb' i = pb i) (hr : ∀ i, i < d → rt' i = rt i ∧ ru' i = ru i ∧ ∀ k, k < 3 → ro' i k = ro i k ∧ rv' i k = rv i k) (ha : pa' d = a) (hb : pb' d = b) (ht : rt' d = t) (hu : ru' d = u) (hk : ∀ k, k < 3 → ro' d k = c t k ∧ rv' d k = c u k) : pf_ch o N n (d + 1) (d + 1) c' pa' pb' rt' ru' ro' rv' := by
  have gc := h.good
  obtain ⟨h0, G, h1, h2, h3⟩ := h
  have htu : t < n ∧ u < n := by have := hF.1; omega
  refine ⟨Nat.le_refl _, fun i => if i ≤ d then G i else c', ?_, fun i hi => ?_, fun i hi => ?_⟩
  · simp only [if_neg (show ¬ d + 1 ≤ d by omega)]
    exact pf_q.rf
  · by_cases e : i ≤ d
    · simp only [if_pos e]; exact h2 i (by omega)
    · simp only [if_neg e]; exact hF.good gc
  · by_cases e : i = d
    · subst e
      simp only [if_pos (Nat.le_refl i), if_neg (show ¬ i + 1 ≤ i by omega)]
      refine ⟨t, u, x, y, ?_, fun z v hv => ?_, fun _ => ⟨ht, hu, fun k hk' => ?_⟩⟩
      · rw [ha, hb]; exact hF.q h1
      · rw [ha, hb]
        intro hc
        exact ho z v hv ((h1.on hv).mpr hc)
      · rw [← h1 t k htu.1 hk', ← h1 u k htu.2 hk']
        exact hk k hk'
    · simp only [if_pos (show i ≤ d by omega), if_pos (show i + 1 ≤ d by omega)]
      obtain ⟨t, u, x, y, k1, k2, k3⟩ := h3 i (by omega)
      refine ⟨t, u, x, y, ?_, ?_, fun _ => ?_⟩
      · rw [(hp i (by omega)).1, (hp i (by omega)).2]; exact k1
      · rw [(hp i (by omega)).1, (hp i (by omega)).2]; exact k2
      · obtain ⟨r1, r2, r3⟩ := hr i (by omega)
        obtain ⟨q1, q2, q3⟩ := k3 (by omega)
        exact ⟨r1.trans q1, r2.trans q2, fun k hk => ⟨((r3 k hk).1).trans (q3 k hk).1, ((r3 k hk).2).trans (q3 k hk).2⟩⟩
theorem pf_ch.undo (h : pf_ch o N n (d + 1) T c pa pb rt ru ro rv) : ∃ t u : Nat, rt d = t ∧ ru d = u ∧ t < u ∧ u < n ∧ (∀ c' : Nat → Nat → Int, (∀ k, k < 3 → c' t k = ro d k ∧ c' u k = rv d k) → (∀ v k, v < n → k < 3 → v ≠ t → v ≠ u → c' v k = c v k) → pf_ch o N n d T c' pa pb rt ru ro rv) := by
  obtain ⟨h0, G, h1, h2, h3⟩ := h
  obtain ⟨t, u, x, y, k1, k2, k3⟩ := h3 d (by omega)
  obtain ⟨q1, q2, q3⟩ := k3 (by omega)
  refine ⟨t, u, q1, q2, k1.1.1, k1.1.2.1, fun c' hc hv => ⟨by omega, G, fun v k hvn hk => ?_, h2, fun i hi => ?_⟩⟩
  · by_cases e1 : v = t
    · subst e1; rw [(hc k hk).1, (q3 k hk).1]
    · by_cases e2 : v = u
      · subst e2; rw [(hc k hk).2, (q3 k hk).2]
      · rw [hv v k hvn hk e1 e2, h1 v k hvn hk, k1.2.2.2.2.2.2.2 v k hvn hk e1 e2]
  · obtain ⟨t, u, x, y, k1, k2, k3⟩ := h3 i hi
    exact ⟨t, u, x, y, k1, k2, fun hid => k3 (by omega)⟩
theorem pf_ch.redo (h : pf_ch o N n d T c pa pb rt ru ro rv) (hd : d < T) : ∃ (t u : Nat) (x y : Int) (e : Nat → Nat → Int), pf_F n c e (pa d) (pb d) t u x y ∧ (o → ∀ v, v < n → pf_on c v (pa d) (pb d) → v = t ∨ v = u) := by
  obtain ⟨h0, G, h1, h2, h3⟩ := h
  obtain ⟨t, u, x, y, k1, k2, k3⟩ := h3 d hd
  exact ⟨t, u, x, y, _, k1.q h1.sy, fun z v hv hc => k2 z v hv ((h1.on hv).mp hc)⟩
theorem pf_ch.again {x y : Int} {t u : Nat} (hoo : o) (h : pf_ch o N n d T c pa pb rt ru ro rv) (hd : d < T) (hF : pf_F n c c' (pa d) (pb d) t u x y) (hp : ∀ i, i < T → pa' i = pa i ∧ pb' i = pb i) (hr : ∀ i, i < d → rt' i = rt i ∧ ru' i = ru i ∧ ∀ k, k < 3 → ro' i k = ro i k ∧ rv' i k = rv i k) (ht : rt' d = t) (hu : ru' d = u) (hk : ∀ k, k < 3 → ro' d k = c t k ∧ rv' d k = c u k) : pf_ch o N n (d + 1) T c' pa' pb' rt' ru' ro' rv' := by
  have gc := h.good
  obtain ⟨h0, G, h1, h2, h3⟩ := h
  have htu : t < n ∧ u < n := by have := hF.1; omega
  refine ⟨by omega, G, ?_, h2, fun i hi => ?_⟩
  · obtain ⟨t2, u2, x2, y2, k1, k2, k3⟩ := h3 d hd
    exact (pf_F.det gc (k1.q h1.sy) (fun v hv hc => k2 hoo v hv ((h1.on hv).mp hc)) hF).2.2.2.2.sy
  · obtain ⟨t2, u2, x2, y2, k1, k2, k3⟩ := h3 i hi
    refine ⟨t2, u2, x2, y2, ?_, ?_, fun hid => ?_⟩
    · rw [(hp i hi).1, (hp i hi).2]; exact k1
    · rw [(hp i hi).1, (hp i hi).2]; exact k2
    · by_cases e : i = d
      · subst e
        obtain ⟨e1, e2, -, -, -⟩ := pf_F.det gc (k1.q h1.sy) (fun v hv hc => k2 hoo v hv ((h1.on hv).mp hc)) hF
        subst e1
        subst e2
        refine ⟨ht, hu, fun k hk' => ?_⟩
        rw [← h1 t2 k htu.1 hk', ← h1 u2 k htu.2 hk']
        exact hk k hk'
      · obtain ⟨r1, r2, r3⟩ := hr i (by omega)
        obtain ⟨q1, q2, q3⟩ := k3 (by omega)
        exact ⟨r1.trans q1, r2.trans q2, fun k hk => ⟨((r3 k hk).1).trans (q3 k hk).1, ((r3 k hk).2).trans (q3 k hk).2⟩⟩
end FC
/-! how many thirds share a side, as the class counts them -/
def pf_e (u v p q : Int) : Int := (if u = p ∧ v = q then 1 else 0) + (if u = q ∧ v = p then 1 else 0)
def pf_cn (c : Nat → Nat → Int) (t : Nat) (p q : Int) : Int := pf_e (c t 0) (c t 1) p q + pf_e (c t 1) (c t 2) p q + pf_e (c t 2) (c t 0) p q
theorem pf_e_nn {u v p q : Int} : 0 ≤ pf_e u v p q := by unfold pf_e; split <;> split <;> omega
theorem pf_cn_nn {c : Nat → Nat → Int} {t : Nat} {p q : Int} : 0 ≤ pf_cn c t p q := by
  unfold pf_cn
  have := @pf_e_nn (c t 0) (c t 1) p q
  have := @pf_e_nn (c t 1) (c t 2) p q
  have := @pf_e_nn (c t 2) (c t 0) p q
  omega
theorem pf_e_1 {u v p q : Int} (h1 : u = p) (h2 : v = q) : 1 ≤ pf_e u v p q := by
  unfold pf_e
  rw [if_pos ⟨h1, h2⟩]
  split <;> omega
theorem pf_e_2 {u v p q : Int} (h1 : u = q) (h2 : v = p) : 1 ≤ pf_e u v p q := by
  unfold pf_e
  rw [if_pos (show u = q ∧ v = p from ⟨h1, h2⟩)]
  split <;> omega
theorem pf_cn_on {c : Nat → Nat → Int} {t : Nat} {p q : Int} (h : pf_on c t p q) (hne : p ≠ q) : 1 ≤ pf_cn c t p q := by
  have e0 := @pf_e_nn (c t 0) (c t 1) p q
  have e1 := @pf_e_nn (c t 1) (c t 2) p q
  have e2 := @pf_e_nn (c t 2) (c t 0) p q
  unfold pf_cn
  rcases h.1 with h1 | h1 | h1 <;> rcases h.2 with h2 | h2 | h2
  · exact absurd (h1.symm.trans h2) hne
  · have := pf_e_1 h1 h2; omega
  · have := pf_e_2 h2 h1; omega
  · have := pf_e_2 h2 h1; omega
  · exact absurd (h1.symm.trans h2) hne
  · have := pf_e_1 h1 h2; omega
  · have := pf_e_1 h1 h2; omega
  · have := pf_e_2 h2 h1; omega
  · exact absurd (h1.symm.trans h2) hne
theorem pd_sum_nn {n : Nat} {f : Nat → Int} (h : ∀ i, i < n → 0 ≤ f i) : ∀ a, a < n → f a ≤ pd_sum n f := by
  intro a ha
  have := pd_sum_le_one (f := fun i => (-1) * f i) ha (fun i hi => by have := h i hi; omega)
  rw [pd_sum_mul] at this
  omega
def pf_sh (n : Nat) (c : Nat → Nat → Int) (S : Nat → Int) : Prop := ∀ p q : Nat, p < 10 → q < 10 → S (10 * p + q) = pd_sum n (fun t => pf_cn c t p q)
theorem pf_sh.no {n : Nat} {c : Nat → Nat → Int} {S : Nat → Int} (h : pf_sh n c S) {p q : Nat} (hp : p < 10) (hq : q < 10) (hne : p ≠ q) (hS : S (10 * p + q) ≤ 0) : ∀ t, t < n → ¬ pf_on c t p q := by
  intro t ht hc
  have h1 := h p q hp hq
  have h2 := pd_sum_nn (n := n) (f := fun t => pf_cn c t p q) (fun _ _ => pf_cn_nn) t ht
  have h3 := pf_cn_on hc (by omega)
  omega
