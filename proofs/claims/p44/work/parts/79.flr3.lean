theorem pw_ok.G {w : Nat → Int} (h : pw_ok w) (hN : w (0 : Int).toNat ≤ 10) : pf_G 10 (pr_n w) (pr_c w) := h.2.good.up hN
/-- one cell of w, neither the number of thirds nor one of theirs -/
theorem nc_q {w w1 : Nat → Int} {i : Nat} {v : Int} (E : ∀ j, w1 j = if j = i then v else w j) (hi : i ≠ 1 ∧ (i < 8 ∨ 80 ≤ i)) (hw : w 1 ≤ 18) : pr_n w1 = pr_n w ∧ ∀ t k, t < pr_n w → k < 3 → pr_c w1 t k = pr_c w t k := by
  refine ⟨by unfold pr_n; rw [E, if_neg (by omega)], fun t k ht hk => ?_⟩
  unfold pr_n at ht
  unfold pr_c
  rw [E, if_neg (by omega)]
theorem nc_G {w w1 : Nat → Int} {i : Nat} {v : Int} (E : ∀ j, w1 j = if j = i then v else w j) (hi : i ≠ 1 ∧ (i < 8 ∨ 80 ≤ i)) (hw : w 1 ≤ 18) (g : pf_G 10 (pr_n w) (pr_c w)) : pf_G 10 (pr_n w1) (pr_c w1) := by
  obtain ⟨e1, e2⟩ := nc_q E hi hw
  rw [e1]
  exact g.q (fun t k ht hk => (e2 t k ht hk).symm)
theorem pf_by_q {n : Nat} {c c' : Nat → Nat → Int} {t : Nat} {p q : Int} (h : pf_q n c c') (ht : t < n) : pf_by c t p q = pf_by c' t p q := by
  unfold pf_by
  rw [h t 0 ht (by omega), h t 1 ht (by omega), h t 2 ht (by omega)]
theorem nc_ff {w w1 : Nat → Int} {i : Nat} {v p q : Int} (E : ∀ j, w1 j = if j = i then v else w j) (hi : i ≠ 1 ∧ (i < 8 ∨ 80 ≤ i)) (hw : w 1 ≤ 18) (h : pr_ff w p q) : pr_ff w1 p q := by
  obtain ⟨e1, e2⟩ := nc_q E hi hw
  have hq : pf_q (pr_n w) (pr_c w) (pr_c w1) := fun t k ht hk => (e2 t k ht hk).symm
  obtain ⟨h0, t, u, h1, h2, h3, h4, h5, h6⟩ := h
  refine ⟨h0, t, u, h1, by rw [e1]; exact h2, (hq.on (by omega)).mp h3, (hq.on h2).mp h4, fun v hv hc => h5 v (by rw [← e1]; exact hv) ((hq.on (by rw [← e1]; exact hv)).mpr hc), fun v hv hc => ?_⟩
  rw [e1] at hv
  rw [← pf_by_q hq (by omega), ← pf_by_q hq h2] at hc
  exact h6 v hv ((hq.on hv).mpr hc)
theorem fp_G {w w1 w2 : Nat → Int} {i : Nat} {v p q : Int} (E : ∀ j, w1 j = if j = i then v else w j) (hi : i ≠ 1 ∧ (i < 8 ∨ 80 ≤ i)) (hw : w 1 ≤ 18) (g : pf_G 10 (pr_n w) (pr_c w)) (h : pr_tu w1 w2 p q) : pf_G 10 (pr_n w2) (pr_c w2) := by
  obtain ⟨t, u, x, y, h1, h2, h3, h4, h5⟩ := h
  have g1 := nc_G E hi hw g
  have e : pr_n w2 = pr_n w1 := by unfold pr_n; rw [h3.2.1]
  rw [e]
  exact h1.good g1
theorem div10 {a b : Int} (hb : 0 ≤ b ∧ b ≤ 9) : (10 * a + b) / 10 = a ∧ (10 * a + b) % 10 = b := by omega
set_option maxHeartbeats 1000000 in
theorem fp_ok {w w1 w2 : Nat → Int} {p q : Int} (E : ∀ j, w1 j = if j = (7 : Int).toNat then 0 else w j) (hw : w (1 : Int).toNat ≤ 18) (h6 : 0 ≤ w (6 : Int).toNat ∧ w (6 : Int).toNat ≤ 98) (hN : w (0 : Int).toNat ≤ 10) (h : pr_tu w1 w2 p q) (hok : pw_ok w) : pw_ok w2 := by
  have g := hok.G hN
  have w10 : w1 0 = w 0 := by rw [E, if_neg (by decide)]
  have y7 : (7 : Int).toNat = 7 := rfl
  rw [y7] at E
  have x1 : w (1 : Int).toNat = w 1 := rfl
  have x6 : w (6 : Int).toNat = w 6 := rfl
  rw [x1] at hw
  rw [x6] at h6
  obtain ⟨e1, e2⟩ := nc_q E (by omega) hw
  have hq : pf_q (pr_n w) (pr_c w1) (pr_c w) := fun t k ht hk => e2 t k ht hk
  have w16 : w1 6 = w 6 := by rw [E, if_neg (by omega)]
  have w17 : w1 7 = 0 := by rw [E, if_pos rfl]
  have w1r : ∀ j, 220 ≤ j → w1 j = w j := fun j hj => by rw [E, if_neg (by omega)]
  obtain ⟨t, u, x, y, h1, h2, ⟨h30, h31, h36, h37⟩, ⟨h40, h41, h42, h43⟩, h5⟩ := h
  rw [w16] at h40 h41 h42 h43 h5
  rw [e1] at h1 h2
  have hF := h1.q hq
  have htu : t < pr_n w ∧ u < pr_n w := by have := hF.1; omega
  have rb := hF.2.1.1.2.rg (g.1 t htu.1).1
  have ra := hF.2.1.1.1.rg (g.1 t htu.1).1
  have en : pr_n w2 = pr_n w := by unfold pr_n; rw [h31]; exact congrArg Int.toNat (show w1 1 = w 1 by rw [E, if_neg (by omega)])
  have dd := div10 (a := min p q) (b := max p q) (by omega)
  refine ⟨by rw [h36, h37, w17, w16]; omega, ?_⟩
  rw [en, h30, w10, h36, h37, w17, w16, show (w 6 + 1).toNat = (w 6).toNat + 1 by omega, show (w 6 + 1 + 0).toNat = (w 6).toNat + 1 by omega]
  refine hok.2.flip hF (fun _ v hv hc => h2 v hv ((hq.on hv).mpr hc)) (fun i hi => ?_) (fun i hi => ?_) ?_ ?_ ?_ ?_ (fun k hk => ?_)
  · rw [h5 _ (by omega) (by omega), w1r _ (by omega)]; exact ⟨rfl, rfl⟩
  · refine ⟨?_, ?_, fun k hk => ⟨?_, ?_⟩⟩
    · rw [h5 _ (by omega) (by omega), w1r _ (by omega)]
    · rw [h5 _ (by omega) (by omega), w1r _ (by omega)]
    · rw [h5 _ (by omega) (by omega), w1r _ (by omega)]
    · rw [h5 _ (by omega) (by omega), w1r _ (by omega)]
  · rw [h40]; exact dd.1
  · rw [h40]; exact dd.2
  · exact h41
  · exact h42
  · rw [(h43 k hk).1, (h43 k hk).2, e2 t k htu.1 hk, e2 u k htu.2 hk]
    exact ⟨rfl, rfl⟩
/-- what a row of flips says of the next that was undone -/
theorem rd_ff {w : Nat → Int} (hok : pw_ok w) (hN : w (0 : Int).toNat ≤ 10) (h6 : 0 ≤ w (6 : Int).toNat) (h7 : 1 ≤ w (7 : Int).toNat) : pr_ff w (w (220 + 13 * (w 6).toNat) / 10) (w (220 + 13 * (w 6).toNat) % 10) := by
  have x6 : w (6 : Int).toNat = w 6 := rfl
  have x7 : w (7 : Int).toNat = w 7 := rfl
  rw [x6] at h6
  rw [x7] at h7
  have g := hok.G hN
  obtain ⟨t, u, x, y, e, hF, ho⟩ := hok.2.redo (by omega)
  have ho := ho trivial
  obtain ⟨⟨f1, f2, f3, f4⟩, ⟨f5, f6⟩, f7, ⟨f8a, f8b, f8c, f8d⟩, f9, -⟩ := hF
  refine ⟨by omega, t, u, f1, f2, f5, f6, ho, fun v hv hc => ?_⟩
  have bt := pf_by_has g (show t < pr_n w by omega) f5 (by omega)
  have bu := pf_by_has g f2 f6 (by omega)
  rcases f7 with f7 | f7
  · rw [pf_third f5.1 f5.2 bt.1 f7.1 (by omega) bt.2.1 bt.2.2 f8a f8b, pf_third f6.1 f6.2 bu.1 f7.2 (by omega) bu.2.1 bu.2.2 f8c f8d] at hc
    exact f9 v hv hc
  · rw [pf_third f5.1 f5.2 bt.1 f7.1 (by omega) bt.2.1 bt.2.2 f8c f8d, pf_third f6.1 f6.2 bu.1 f7.2 (by omega) bu.2.1 bu.2.2 f8a f8b] at hc
    exact f9 v hv ⟨hc.2, hc.1⟩
set_option maxHeartbeats 1000000 in
theorem rd_ok {w w1 w2 : Nat → Int} {n7 p q : Int} (E : ∀ j, w1 j = if j = (7 : Int).toNat then n7 else w j) (e7 : n7 = w (7 : Int).toNat - 1) (hw : w (1 : Int).toNat ≤ 18) (h6 : 0 ≤ w (6 : Int).toNat) (h7 : 1 ≤ w (7 : Int).toNat) (ep : p = w (220 + 13 * (w 6).toNat) / 10) (eq : q = w (220 + 13 * (w 6).toNat) % 10) (hN : w (0 : Int).toNat ≤ 10) (h : pr_tu w1 w2 p q) (hok : pw_ok w) : pw_ok w2 := by
  have g := hok.G hN
  have w10 : w1 0 = w 0 := by rw [E, if_neg (by decide)]
  have hff := rd_ff hok hN h6 h7
  have y7 : (7 : Int).toNat = 7 := rfl
  rw [y7] at E
  have x1 : w (1 : Int).toNat = w 1 := rfl
  have x6 : w (6 : Int).toNat = w 6 := rfl
  have x7 : w (7 : Int).toNat = w 7 := rfl
  rw [x1] at hw
  rw [x6] at h6
  rw [x7] at h7 e7
  obtain ⟨e1, e2⟩ := nc_q E (by omega) hw
  have hq : pf_q (pr_n w) (pr_c w1) (pr_c w) := fun t k ht hk => e2 t k ht hk
  have w16 : w1 6 = w 6 := by rw [E, if_neg (by omega)]
  have w17 : w1 7 = w 7 - 1 := by rw [E, if_pos rfl, e7]
  have w1r : ∀ j, 220 ≤ j → w1 j = w j := fun j hj => by rw [E, if_neg (by omega)]
  obtain ⟨t, u, x, y, h1, h2, ⟨h30, h31, h36, h37⟩, ⟨h40, h41, h42, h43⟩, h5⟩ := h
  rw [w16] at h40 h41 h42 h43 h5
  rw [e1] at h1 h2
  obtain ⟨t', u', x', y', e', hF', ho'⟩ := hok.2.redo (by omega)
  have hlt := hF'.1.2.2.1
  have em : min p q = p ∧ max p q = q := by rw [ep, eq]; omega
  rw [em.1, em.2] at h1 h2 h40
  have hF := h1.q hq
  have htu : t < pr_n w ∧ u < pr_n w := by have := hF.1; omega
  have rb := hF.2.1.1.2.rg (g.1 t htu.1).1
  have en : pr_n w2 = pr_n w := by unfold pr_n; rw [h31]; exact congrArg Int.toNat (show w1 1 = w 1 by rw [E, if_neg (by omega)])
  have dd := div10 (a := p) (b := q) (by omega)
  have h99 := hok.1
  refine ⟨by rw [h36, h37, w17, w16]; omega, ?_⟩
  rw [en, h30, w10, h36, h37, w17, w16, show (w 6 + 1).toNat = (w 6).toNat + 1 by omega, show (w 6 + 1 + (w 7 - 1)).toNat = (w 6 + w 7).toNat by omega]
  refine hok.2.again (x := x) (y := y) (t := t) (u := u) trivial (by omega) (by rw [ep, eq] at hF; exact hF) (fun i hi => ?_) (fun i hi => ?_) h41 h42 (fun k hk => ?_)
  · by_cases c : i = (w 6).toNat
    · subst c
      rw [h40]
      exact ⟨dd.1.trans ep, dd.2.trans eq⟩
    · rw [h5 _ (by omega) (by omega), w1r _ (by omega)]; exact ⟨rfl, rfl⟩
  · refine ⟨?_, ?_, fun k hk => ⟨?_, ?_⟩⟩
    · rw [h5 _ (by omega) (by omega), w1r _ (by omega)]
    · rw [h5 _ (by omega) (by omega), w1r _ (by omega)]
    · rw [h5 _ (by omega) (by omega), w1r _ (by omega)]
    · rw [h5 _ (by omega) (by omega), w1r _ (by omega)]
  · rw [(h43 k hk).1, (h43 k hk).2, e2 t k htu.1 hk, e2 u k htu.2 hk]
    exact ⟨rfl, rfl⟩
