theorem pw_ok.cg {w w' : Nat → Int} (h : ∀ j : Nat, j < 1507 → w' j = w j) (hw : w (1 : Int).toNat ≤ 18) (hok : pw_ok w) : pw_ok w' := by
  have x1 : w (1 : Int).toNat = w 1 := rfl
  rw [x1] at hw
  obtain ⟨h1, h2⟩ := hok
  have en : pr_n w' = pr_n w := by unfold pr_n; rw [h 1 (by omega)]
  refine ⟨by rw [h 6 (by omega), h 7 (by omega)]; exact h1, ?_⟩
  rw [en, h 0 (by omega), h 6 (by omega), h 7 (by omega)]
  have h99 : (w 6 + w 7).toNat ≤ 99 := by omega
  have hd := h2.1
  refine h2.congr (fun t k ht hk => ?_) (fun i hi => ?_) (fun i hi => ?_)
  · unfold pr_n at ht
    unfold pr_c
    exact (h _ (by omega)).symm
  · rw [h _ (by omega)]; exact ⟨rfl, rfl⟩
  · refine ⟨?_, ?_, fun q hq => ⟨?_, ?_⟩⟩
    · rw [h _ (by omega)]
    · rw [h _ (by omega)]
    · rw [h _ (by omega)]
    · rw [h _ (by omega)]
theorem cp_s {w k k' : Nat → Int} {L v : Int} (h : ∀ j : Nat, (j : Int) < L → k j = w j) (h0 : 0 ≤ L) (ev : v = w L.toNat) (E : ∀ j, k' j = if j = L.toNat then v else k j) : ∀ j : Nat, (j : Int) < L + 1 → k' j = w j := by
  intro j hj
  rw [E]
  by_cases c : j = L.toNat
  · rw [if_pos c, ev, c]
  · rw [if_neg c]; exact h j (by omega)
def im_ok (g : Nat → Int) : Prop := ∀ k : Nat, k < 3 → pw_ok (fun j => g (1507 * k + j))
/-- a world written into an image, so far -/
def im_l (g g' w : Nat → Int) (x L : Int) : Prop := (∀ j : Nat, (j : Int) < L → g' (1507 * x + j).toNat = w j) ∧ ∀ k j : Nat, j < 1507 → (k : Int) ≠ x → g' (1507 * k + j) = g (1507 * k + j)
theorem im_l.zero {g w : Nat → Int} {x : Int} : im_l g g w x 0 := ⟨fun j hj => by omega, fun _ _ _ _ => rfl⟩
theorem im_l.step {g g' g'' w : Nat → Int} {x L v : Int} (h : im_l g g' w x L) (hx : 0 ≤ x ∧ x ≤ 2) (h0 : 0 ≤ L ∧ L ≤ 1506) (ev : v = w L.toNat) (E : ∀ j, g'' j = if j = (1507 * x + L).toNat then v else g' j) : im_l g g'' w x (L + 1) := by
  refine ⟨fun j hj => ?_, fun k j hj hk => ?_⟩
  · rw [E]
    by_cases c : j = L.toNat
    · rw [if_pos (by omega), ev, c]
    · rw [if_neg (by omega)]; exact h.1 j (by omega)
  · rw [E, if_neg (by omega)]; exact h.2 k j hj hk
theorem im_l.ok {g g' w : Nat → Int} {x L : Int} (h : im_l g g' w x L) (hx : 0 ≤ x ∧ x ≤ 2) (hL : 1507 ≤ L) (hw : w (1 : Int).toNat ≤ 18) (hg : ∀ k : Nat, k < 3 → g (1507 * k + 1) ≤ 18) (ok : pw_ok w) (im : im_ok g) : im_ok g' := by
  intro k hk
  by_cases c : (k : Int) = x
  · refine ok.cg (fun j hj => ?_) hw
    have := h.1 j (by omega)
    rw [← this]
    show g' (1507 * k + j) = _
    rw [show (1507 * x + j).toNat = 1507 * k + j by omega]
  · exact (im k hk).cg (fun j hj => h.2 k j hj c) (show g (1507 * k + 1) ≤ 18 from hg k hk)
theorem pv_Ty.ic {τ : Nat → Option Nat} {ρ : Nat → Nat → Nat} {h : pv_H} {a j : Nat} (hT : pv_Ty τ ρ h) (ha : τ a = some 41) (hj : j < 4521) : pv_wok ((j : Int) % 1507) (pv_aI h a j) := by
  obtain ⟨f, e, hf⟩ := (hT a 41 ha).2 (0, 4521, 3, [(1, 0)]) rfl
  have := hf j hj
  unfold pv_aI
  rw [e]
  exact this
theorem im_18 {τ : Nat → Option Nat} {ρ : Nat → Nat → Nat} {h : pv_H} {a : Nat} (hT : pv_Ty τ ρ h) (ha : τ a = some 41) : ∀ k : Nat, k < 3 → pv_aI h a (1507 * k + 1) ≤ 18 := by
  intro k hk
  have := hT.ic ha (j := 1507 * k + 1) (by omega)
  exact (this.2.2.1 (by omega)).2
