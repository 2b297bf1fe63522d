def ud_l (w w' : Nat → Int) (k i : Int) : Prop := (w' 0 = w 0 ∧ w' 1 = w 1 ∧ w' 6 = w 6 - 1 ∧ w' 7 = w 7 + 1) ∧ (∀ j : Nat, 220 ≤ j → w' j = w j) ∧ ∀ t q : Nat, t < 18 → q < 3 → w' (8 + 4 * t + q) = if 2 ≤ i ∧ (t : Int) = w (k + 3).toNat then w (k + 8 + q).toNat else if 1 ≤ i ∧ (t : Int) = w (k + 2).toNat then w (k + 4 + q).toNat else w (8 + 4 * t + q)
theorem ud_0 {w w1 w2 w3 w4 : Nat → Int} {a b k : Int} (e1 : ∀ j, w1 j = if j = (6 : Int).toNat then a else w j) (ea : a = w (6 : Int).toNat - 1) (e2 : ∀ j, w2 j = if j = (7 : Int).toNat then b else w1 j) (eb : b = w1 (7 : Int).toNat + 1) (e3 : ∀ j : Nat, j < 120 ∨ 220 ≤ j → w3 j = w2 j) (e4 : ∀ j : Nat, j < 120 ∨ 220 ≤ j → w4 j = w3 j) : ud_l w w4 k 0 := by
  have y6 : (6 : Int).toNat = 6 := rfl
  have y7 : (7 : Int).toNat = 7 := rfl
  rw [y6] at e1 ea
  rw [y7] at e2 eb
  have k' : ∀ j : Nat, j ≠ 6 → j ≠ 7 → (j < 120 ∨ 220 ≤ j) → w4 j = w j := fun j h1 h2 h3 => by
    rw [e4 j h3, e3 j h3, e2, if_neg h2, e1, if_neg h1]
  refine ⟨⟨k' 0 (by omega) (by omega) (by omega), k' 1 (by omega) (by omega) (by omega), ?_, ?_⟩, fun j hj => k' j (by omega) (by omega) (by omega), fun t q ht hq => ?_⟩
  · rw [e4 6 (by omega), e3 6 (by omega), e2, if_neg (by omega), e1, if_pos rfl, ea]
  · rw [e4 7 (by omega), e3 7 (by omega), e2, if_pos rfl, eb, e1, if_neg (by omega)]
  · rw [if_neg (by omega), if_neg (by omega)]
    exact k' _ (by omega) (by omega) (by omega)
theorem ud_s {w w' w'' : Nat → Int} {k i t a b c s : Int} (h : ud_l w w' k i) (hk : 220 ≤ k) (hi : 0 ≤ i ∧ i ≤ 1) (ht : 0 ≤ t ∧ t ≤ 17) (et : t = w' (k + 2 + i).toNat) (ea : a = w' (k + 4 + 4 * i).toNat) (eb : b = w' (k + 5 + 4 * i).toNat) (ec : c = w' (k + 6 + 4 * i).toNat) (e : ∀ j, w'' j = if j = (8 + 4 * t + 3).toNat then s else if j = (8 + 4 * t + 2).toNat then c else if j = (8 + 4 * t + 1).toNat then b else if j = (8 + 4 * t).toNat then a else w' j) : ud_l w w'' k (i + 1) := by
  obtain ⟨⟨h1, h2, h3, h4⟩, h5, h6⟩ := h
  rw [h5 _ (by omega)] at et ea eb ec
  have f : ∀ j : Nat, (j < 8 ∨ 80 ≤ j) → w'' j = w' j := fun j hj => by rw [e, if_neg (by omega), if_neg (by omega), if_neg (by omega), if_neg (by omega)]
  refine ⟨⟨by rw [f 0 (by omega)]; exact h1, by rw [f 1 (by omega)]; exact h2, by rw [f 6 (by omega)]; exact h3, by rw [f 7 (by omega)]; exact h4⟩, fun j hj => by rw [f j (by omega)]; exact h5 j hj, fun t' q ht' hq => ?_⟩
  by_cases c1 : (t' : Int) = t
  · have v : w'' (8 + 4 * t' + q) = w (k + 4 + 4 * i + q).toNat := by
      rcases (show q = 0 ∨ q = 1 ∨ q = 2 by omega) with rfl | rfl | rfl
      · rw [e, if_neg (by omega), if_neg (by omega), if_neg (by omega), if_pos (by omega), ea]; (congr 1 <;> omega)
      · rw [e, if_neg (by omega), if_neg (by omega), if_pos (by omega), eb]; (congr 1 <;> omega)
      · rw [e, if_neg (by omega), if_pos (by omega), ec]; (congr 1 <;> omega)
    rw [v]
    rcases (show i = 0 ∨ i = 1 by omega) with rfl | rfl
    · rw [if_neg (by omega), if_pos ⟨by omega, by rw [c1, et]; (congr 1 <;> omega)⟩]; (congr 1 <;> omega)
    · rw [if_pos ⟨by omega, by rw [c1, et]; (congr 1 <;> omega)⟩]; (congr 1 <;> omega)
  · have v : w'' (8 + 4 * t' + q) = w' (8 + 4 * t' + q) := by rw [e, if_neg (by omega), if_neg (by omega), if_neg (by omega), if_neg (by omega)]
    rw [v, h6 t' q ht' hq]
    rcases (show i = 0 ∨ i = 1 by omega) with rfl | rfl
    · have c2 : ¬ (t' : Int) = w (k + 2).toNat := fun z => c1 (by rw [z, et]; (congr 1 <;> omega))
      rw [if_neg (by omega), if_neg (by omega), if_neg (by omega), if_neg (fun z => c2 z.2)]
    · have c2 : ¬ (t' : Int) = w (k + 3).toNat := fun z => c1 (by rw [z, et]; (congr 1 <;> omega))
      rw [if_neg (show ¬ ((2 : Int) ≤ 1 ∧ (t' : Int) = w (k + 3).toNat) from fun z => absurd z.1 (by omega)), if_neg (show ¬ ((2 : Int) ≤ 1 + 1 ∧ (t' : Int) = w (k + 3).toNat) from fun z => c2 z.2)]
      by_cases c3 : (t' : Int) = w (k + 2).toNat
      · rw [if_pos (show (1 : Int) ≤ 1 ∧ (t' : Int) = w (k + 2).toNat from ⟨by omega, c3⟩), if_pos (show (1 : Int) ≤ 1 + 1 ∧ (t' : Int) = w (k + 2).toNat from ⟨by omega, c3⟩)]
      · rw [if_neg (show ¬ ((1 : Int) ≤ 1 ∧ (t' : Int) = w (k + 2).toNat) from fun z => c3 z.2), if_neg (show ¬ ((1 : Int) ≤ 1 + 1 ∧ (t' : Int) = w (k + 2).toNat) from fun z => c3 z.2)]
theorem ud_ok {w w' : Nat → Int} {k i : Int} (hok : pw_ok w) (hw : w (1 : Int).toNat ≤ 18) (h6 : 1 ≤ w (6 : Int).toNat) (ek : k = 220 + 13 * (w (6 : Int).toNat - 1)) (h : ud_l w w' k i) (hi : 2 ≤ i) (h7 : 0 ≤ w (7 : Int).toNat) : pw_ok w' := by
  have x1 : w (1 : Int).toNat = w 1 := rfl
  have x6 : w (6 : Int).toNat = w 6 := rfl
  have x7 : w (7 : Int).toNat = w 7 := rfl
  rw [x1] at hw
  rw [x6] at h6 ek
  rw [x7] at h7
  obtain ⟨⟨h0, h1, h3, h4⟩, h5, ht⟩ := h
  obtain ⟨hs, hch⟩ := hok
  have en : pr_n w' = pr_n w := by unfold pr_n; rw [h1]
  rw [show (w 6).toNat = (w 6 - 1).toNat + 1 by omega] at hch
  obtain ⟨t, u, e1, e2, e3, e4, hc⟩ := hch.undo
  have hkt : (k + 2).toNat = 220 + 13 * (w 6 - 1).toNat + 2 := by omega
  have hku : (k + 3).toNat = 220 + 13 * (w 6 - 1).toNat + 3 := by omega
  have nn : pr_n w ≤ 18 := by unfold pr_n; omega
  refine ⟨by rw [h3, h4]; omega, ?_⟩
  rw [en, h0, h3, h4, show (w 6 - 1 + (w 7 + 1)).toNat = (w 6 + w 7).toNat by omega]
  refine (hc (pr_c w') (fun q hq => ⟨?_, ?_⟩) (fun v q hv hq n1 n2 => ?_)).congr pf_q.rf (fun i hi => ?_) (fun i hi => ?_)
  · unfold pr_c
    rw [ht t q (by omega) hq, if_neg (by rw [hku, e2]; omega), if_pos ⟨by omega, by rw [hkt, e1]⟩]
    (congr 1 <;> omega)
  · unfold pr_c
    rw [ht u q (by omega) hq, if_pos ⟨by omega, by rw [hku, e2]⟩]
    (congr 1 <;> omega)
  · unfold pr_c
    rw [ht v q (by omega) hq, if_neg (by rw [hku, e2]; omega), if_neg (by rw [hkt, e1]; omega)]
  · rw [h5 _ (by omega)]; exact ⟨rfl, rfl⟩
  · refine ⟨?_, ?_, fun q hq => ⟨?_, ?_⟩⟩
    · rw [h5 _ (by omega)]
    · rw [h5 _ (by omega)]
    · rw [h5 _ (by omega)]
    · rw [h5 _ (by omega)]
