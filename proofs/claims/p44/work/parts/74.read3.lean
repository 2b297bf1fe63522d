def pt_s (F F' : Nat → Int) : Prop := F' 1 = F 1 ∧ F' 6 = F 6 ∧ F' 7 = F 7 ∧ (∀ j, 8 ≤ j → j < 80 → F' j = F j) ∧ F' 0 = F 0 ∧ F' 2 = F 2
theorem pt_s.eq {F F' : Nat → Int} (e : F' = F) : pt_s F F' := by subst e; exact ⟨rfl, rfl, rfl, fun _ _ _ => rfl, rfl, rfl⟩
theorem pt_s.tr {F F' F'' : Nat → Int} (h : pt_s F F') (h' : pt_s F' F'') : pt_s F F'' := ⟨h'.1.trans h.1, h'.2.1.trans h.2.1, h'.2.2.1.trans h.2.2.1, fun j a b => (h'.2.2.2.1 j a b).trans (h.2.2.2.1 j a b), h'.2.2.2.2.1.trans h.2.2.2.2.1, h'.2.2.2.2.2.trans h.2.2.2.2.2⟩
theorem pt_s.wr' {F F' F'' : Nat → Int} {i : Nat} {v : Int} (h : pt_s F F') (E : ∀ j, F'' j = if j = i then v else F' j) (hi : i ≠ 0 ∧ i ≠ 1 ∧ i ≠ 2 ∧ i ≠ 6 ∧ i ≠ 7 ∧ (i < 8 ∨ 80 ≤ i)) : pt_s F F'' := h.tr ⟨by rw [E, if_neg (by omega)], by rw [E, if_neg (by omega)], by rw [E, if_neg (by omega)], fun j a b => by rw [E, if_neg (by omega)], by rw [E, if_neg (by omega)], by rw [E, if_neg (by omega)]⟩
def ps_T (F F' : Nat → Int) (fk fk' : Int) : Prop := (fk' = 0 → fk = 0) ∧ (ps_G F fk → ps_G F' fk') ∧ F' 6 = F 6 ∧ F' 7 = F 7
theorem pt_s.G {F F' : Nat → Int} (h : pt_s F F') (hn : F (1 : Int).toNat ≤ 18) (g : pf_G (F 0) (pr_n F) (pr_c F) ∧ (F 2 = 0 → F 1 = 0)) : pf_G (F' 0) (pr_n F') (pr_c F') ∧ (F' 2 = 0 → F' 1 = 0) := by
  have e : pr_n F' = pr_n F := by unfold pr_n; rw [h.1]
  have e1 : F (1 : Int).toNat = F 1 := rfl
  rw [e, h.2.2.2.2.1, h.2.2.2.2.2, h.1]
  refine ⟨g.1.q (fun t k ht hk => ?_), g.2⟩
  unfold pr_n at ht
  unfold pr_c
  exact (h.2.2.2.1 _ (by omega) (by omega)).symm
theorem ps_T.of {F F' : Nat → Int} {fk fk' : Int} (h : pt_s F F') (hn : F (1 : Int).toNat ≤ 18) (hk : fk' = 0 → fk = 0) : ps_T F F' fk fk' := ⟨hk, fun g e => h.G hn (g (hk e)), h.2.1, h.2.2.1⟩
theorem ps_T.tr {F F' F'' : Nat → Int} {fk fk' fk'' : Int} (h : ps_T F F' fk fk') (h' : ps_T F' F'' fk' fk'') : ps_T F F'' fk fk'' := ⟨fun e => h.1 (h'.1 e), fun g => h'.2.1 (h.2.1 g), h'.2.2.1.trans h.2.2.1, h'.2.2.2.trans h.2.2.2⟩
theorem rt_fin {F F1 F2 F3 F4 F5 : Nat → Int} {a b c s k n n' fk fk' : Int} (en : n = F (1 : Int).toNat) (ek : k = 8 + 4 * n) (hn : 0 ≤ n ∧ n ≤ 17) (e1 : ∀ j, F1 j = if j = k.toNat then a else F j) (e2 : ∀ j, F2 j = if j = (k + 1).toNat then b else F1 j) (e3 : ∀ j, F3 j = if j = (k + 2).toNat then c else F2 j) (e4 : ∀ j, F4 j = if j = (k + 3).toNat then s else F3 j) (e5 : ∀ j, F5 j = if j = (1 : Int).toNat then n' else F4 j) (en' : n' = n + 1) (hk : fk' = 0 → fk = 0) (ra : 0 ≤ a ∧ a ≤ 9) (rb : 0 ≤ b ∧ b ≤ 9) (rc : 0 ≤ c ∧ c ≤ 9) (hne : fk' = 0 → a ≠ b ∧ c ≠ a ∧ c ≠ b) (h3 : fk' = 0 → pt_3 F a b c) (h2 : F (2 : Int).toNat ≠ 0) (hN : fk' = 0 → a < F (0 : Int).toNat ∧ b < F (0 : Int).toNat ∧ c < F (0 : Int).toNat) : ps_T F F5 fk fk' := by
  have e0 : F (1 : Int).toNat = F 1 := rfl
  rw [e0] at en
  have hall : ∀ j, F5 j = if j = 1 then n + 1 else if j = (k + 3).toNat then s else if j = (k + 2).toNat then c else if j = (k + 1).toNat then b else if j = k.toNat then a else F j := by
    intro j
    rw [e5, e4, e3, e2, e1, en']
    rfl
  have hlow : ∀ j, j < k.toNat → j ≠ 1 → F5 j = F j := by
    intro j h1 h2
    rw [hall, if_neg h2, if_neg (by omega), if_neg (by omega), if_neg (by omega), if_neg (by omega)]
  refine ⟨hk, fun g e => ?_, hlow 6 (by omega) (by omega), hlow 7 (by omega) (by omega)⟩
  have G := (g (hk e)).1
  obtain ⟨m1, m2, m3⟩ := hN e
  have x0 : F (0 : Int).toNat = F 0 := rfl
  have x2 : F (2 : Int).toNat = F 2 := rfl
  rw [x0] at m1 m2 m3
  rw [x2] at h2
  obtain ⟨d1, d2, d3⟩ := hne e
  have t3 := h3 e
  have hNn : pr_n F5 = pr_n F + 1 := by
    unfold pr_n
    rw [hall 1, if_pos rfl]
    omega
  have eN : pr_n F = n.toNat := by unfold pr_n; rw [en]
  have c0 : pr_c F5 n.toNat 0 = a := by
    unfold pr_c
    rw [hall, if_neg (by omega), if_neg (by omega), if_neg (by omega), if_neg (by omega), if_pos (by omega)]
  have c1 : pr_c F5 n.toNat 1 = b := by
    unfold pr_c
    rw [hall, if_neg (by omega), if_neg (by omega), if_neg (by omega), if_pos (by omega)]
  have c2 : pr_c F5 n.toNat 2 = c := by
    unfold pr_c
    rw [hall, if_neg (by omega), if_neg (by omega), if_pos (by omega)]
  have co : ∀ t q, t < n.toNat → q < 3 → pr_c F5 t q = pr_c F t q := by
    intro t q ht hq
    unfold pr_c
    exact hlow _ (by omega) (by omega)
  have ho : ∀ t p, t < n.toNat → (pf_has (pr_c F5) t p ↔ pf_has (pr_c F) t p) := by
    intro t p ht
    unfold pf_has
    rw [co t 0 ht (by omega), co t 1 ht (by omega), co t 2 ht (by omega)]
  have hN' : F5 0 = F 0 := hlow 0 (by omega) (by omega)
  have h2' : F5 2 = F 2 := hlow 2 (by omega) (by omega)
  refine ⟨?_, fun z => absurd (h2'.symm.trans z) h2⟩
  rw [hNn, eN, hN']
  rw [eN] at G
  have t3' : ∀ t, t < n.toNat → ¬ (pf_has (pr_c F) t a ∧ pf_has (pr_c F) t b ∧ pf_has (pr_c F) t c) := fun t ht => t3 t (by rw [eN]; exact ht)
  refine ⟨fun t ht => ?_, fun t u ht hu hne' => ?_⟩
  · by_cases q : t = n.toNat
    · subst q
      rw [c0, c1, c2]
      exact ⟨⟨ra.1, m1, rb.1, m2, rc.1, m3⟩, d1, Ne.symm d2, Ne.symm d3⟩
    · rw [co t 0 (by omega) (by omega), co t 1 (by omega) (by omega), co t 2 (by omega) (by omega)]
      exact G.1 t (by omega)
  · by_cases q : u = n.toNat
    · subst q
      rw [c0, c1, c2, ho t _ (by omega), ho t _ (by omega), ho t _ (by omega)]
      exact t3' t (by omega)
    · rw [co u 0 (by omega) (by omega), co u 1 (by omega) (by omega), co u 2 (by omega) (by omega)]
      by_cases q2 : t = n.toNat
      · subst q2
        intro hc
        unfold pf_has at hc
        rw [c0, c1, c2] at hc
        have gu := G.1 u (by omega)
        have z1 := pf_three gu.2.1 gu.2.2.1 gu.2.2.2 hc.1 hc.2.1 hc.2.2
        have z2 := pf_three (a := b) (x := a) (y := c) gu.2.1 gu.2.2.1 gu.2.2.2 (by rcases hc.1 with z | z | z; exact Or.inr (Or.inl z); exact Or.inl z; exact Or.inr (Or.inr z)) (by rcases hc.2.1 with z | z | z; exact Or.inr (Or.inl z); exact Or.inl z; exact Or.inr (Or.inr z)) (by rcases hc.2.2 with z | z | z; exact Or.inr (Or.inl z); exact Or.inl z; exact Or.inr (Or.inr z))
        exact t3' u (by omega) ⟨z2.1, z1.1, z1.2⟩
      · rw [ho t _ (by omega), ho t _ (by omega), ho t _ (by omega)]
        exact G.2 t u (by omega) (by omega) hne'
