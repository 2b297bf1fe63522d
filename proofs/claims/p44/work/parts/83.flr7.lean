theorem pw_ok.cg2 {w w' : Nat → Int} (h : ∀ j : Nat, j < 80 ∨ 220 ≤ j → w' j = w j) (hw : w (1 : Int).toNat ≤ 18) (hok : pw_ok w) : pw_ok w' := by
  have x1 : w (1 : Int).toNat = w 1 := rfl
  rw [x1] at hw
  obtain ⟨h1, h2⟩ := hok
  have en : pr_n w' = pr_n w := by unfold pr_n; rw [h 1 (by omega)]
  refine ⟨by rw [h 6 (by omega), h 7 (by omega)]; exact h1, ?_⟩
  rw [en, h 0 (by omega), h 6 (by omega), h 7 (by omega)]
  refine h2.congr (fun t k ht hk => ?_) (fun i hi => ?_) (fun i hi => ?_)
  · unfold pr_n at ht
    unfold pr_c
    exact (h _ (by omega)).symm
  · rw [h _ (by omega)]; exact ⟨rfl, rfl⟩
  · refine ⟨?_, ?_, fun q hq => ⟨?_, ?_⟩⟩
    · rw [h _ (by omega)]
    · rw [h _ (by omega)]
    · rw [h _ (by omega)]
    · rw [h _ (by omega)]
theorem pw_ok.wr {w w' : Nat → Int} {i : Nat} {v : Int} (E : ∀ j, w' j = if j = i then v else w j) (hi : 80 ≤ i ∧ i < 220) (hw : w (1 : Int).toNat ≤ 18) (hok : pw_ok w) : pw_ok w' := hok.cg2 (fun j hj => by rw [E, if_neg (by omega)]) hw
/-! THE CLASS'S NETS: thirds by their corners -/
def nk_c (h : pv_H) (ρ : Nat → Nat → Nat) (a : Nat) : Nat → Nat → Int := fun t k => pv_aI h (ρ a 5) (3 * t + k)
def nk_n (h : pv_H) (a : Nat) : Nat := (pv_fI h a 1).toNat
/-- a net of the class: its thirds, how often its sides are shared, the row of its flips -/
def nk_ok (h : pv_H) (ρ : Nat → Nat → Nat) (a : Nat) : Prop := pf_sh (nk_n h a) (nk_c h ρ a) (pv_aI h (ρ a 12)) ∧ pf_ch False (pv_fI h a 0) (nk_n h a) (pv_fI h a 14).toNat (pv_fI h a 14).toNat (nk_c h ρ a) (fun i => pv_aI h (ρ a 13) (13 * i)) (fun i => pv_aI h (ρ a 13) (13 * i + 1)) (fun i => pv_aI h (ρ a 13) (13 * i + 3)) (fun i => pv_aI h (ρ a 13) (13 * i + 8)) (fun i k => pv_aI h (ρ a 13) (13 * i + 4 + k)) (fun i k => pv_aI h (ρ a 13) (13 * i + 9 + k))
theorem nk_ok.G {h : pv_H} {ρ : Nat → Nat → Nat} {a : Nat} (k : nk_ok h ρ a) : pf_G (pv_fI h a 0) (nk_n h a) (nk_c h ρ a) := k.2.good
/-- bits of a third's posts -/
theorem po_bit {c0 c1 c2 m0 m1 m2 o1 o2 : Int} (r0 : 0 ≤ c0 ∧ c0 ≤ 9) (r1 : 0 ≤ c1 ∧ c1 ≤ 9) (r2 : 0 ≤ c2 ∧ c2 ≤ 9) (h0 : pv_r m0) (h1 : pv_r m1) (h2 : pv_r m2) (e0 : pv_I 1 <<< (pv_I c0 &&& 31) = pv_I m0) (e1 : pv_I 1 <<< (pv_I c1 &&& 31) = pv_I m1) (eo : pv_I m0 ||| pv_I m1 = pv_I o1) (e2 : pv_I 1 <<< (pv_I c2 &&& 31) = pv_I m2) (ep : pv_I o1 ||| pv_I m2 = pv_I o2) : ∀ x : Nat, x < 32 → (pb o2 x = true ↔ (c0 = x ∨ c1 = x ∨ c2 = x)) := by
  intro x hx
  rw [pb_or ep, pb_or eo, pb_shl r0.1 (by omega) h0 e0 hx, pb_shl r1.1 (by omega) h1 e1 hx, pb_shl r2.1 (by omega) h2 e2 hx]
  simp only [Bool.or_eq_true, decide_eq_true_eq]
  omega
theorem bo_bit {c0 c1 m0 m1 o1 : Int} (r0 : 0 ≤ c0 ∧ c0 ≤ 9) (r1 : 0 ≤ c1 ∧ c1 ≤ 9) (h0 : pv_r m0) (h1 : pv_r m1) (e0 : pv_I 1 <<< (pv_I c0 &&& 31) = pv_I m0) (e1 : pv_I 1 <<< (pv_I c1 &&& 31) = pv_I m1) (eo : pv_I m0 ||| pv_I m1 = pv_I o1) : ∀ x : Nat, x < 32 → (pb o1 x = true ↔ (c0 = x ∨ c1 = x)) := by
  intro x hx
  rw [pb_or eo, pb_shl r0.1 (by omega) h0 e0 hx, pb_shl r1.1 (by omega) h1 e1 hx]
  simp only [Bool.or_eq_true, decide_eq_true_eq]
  omega
theorem th_on {c : Nat → Nat → Int} {t : Nat} {x1 x2 p b z : Int} (r1 : 0 ≤ x1 ∧ x1 ≤ 9) (r2 : 0 ≤ x2 ∧ x2 ≤ 9) (hp : ∀ x : Nat, x < 32 → (pb p x = true ↔ pf_has c t x)) (hb : ∀ x : Nat, x < 32 → (pb b x = true ↔ (x1 = x ∨ x2 = x))) (rb : pv_r b) (rz : pv_r z) (e : pv_I p &&& pv_I b = pv_I z) : (z = b → pf_on c t x1 x2) ∧ (z ≠ b → ¬ pf_on c t x1 x2) := by
  have e1 : ((x1.toNat : Nat) : Int) = x1 := by omega
  have e2 : ((x2.toNat : Nat) : Int) = x2 := by omega
  refine ⟨fun h => ?_, fun h hc => h ?_⟩
  · have k : ∀ x : Nat, x < 32 → (x1 = x ∨ x2 = x) → pf_has c t x := fun x hx hq => by
      have := (hb x hx).mpr hq
      rw [← h, pb_and e, Bool.and_eq_true] at this
      exact (hp x hx).mp this.1
    have a1 := k x1.toNat (by omega) (Or.inl e1.symm)
    have a2 := k x2.toNat (by omega) (Or.inr e2.symm)
    rw [e1] at a1
    rw [e2] at a2
    exact ⟨a1, a2⟩
  · refine pb_ext rz rb (fun x hx => ?_)
    rw [pb_and e]
    cases hq : pb b x with
    | false => rw [Bool.and_false]
    | true =>
      rw [Bool.and_true]
      refine (hp x hx).mpr ?_
      rcases (hb x hx).mp hq with q | q
      · rw [← q]; exact hc.1
      · rw [← q]; exact hc.2
theorem th_st {c : Nat → Nat → Int} {x1 x2 x3 L : Int} (h0 : 0 ≤ L) (h : ∀ t : Nat, x3 ≤ (t : Int) → (t : Int) < L → ¬ pf_on c t x1 x2) (hn : ¬ pf_on c L.toNat x1 x2) : ∀ t : Nat, x3 ≤ (t : Int) → (t : Int) < L + 1 → ¬ pf_on c t x1 x2 := by
  intro t h1 h2
  by_cases q : (t : Int) < L
  · exact h t h1 q
  · rw [show t = L.toNat by omega]; exact hn
theorem lb_st {x L : Int} (h0 : 0 ≤ L) (h : ∀ i : Nat, (i : Int) < L → pb x i = false) (hn : pb x L.toNat = false) : ∀ i : Nat, (i : Int) < L + 1 → pb x i = false := by
  intro i hi
  by_cases q : (i : Int) < L
  · exact h i q
  · rw [show i = L.toNat by omega]; exact hn
theorem op_by {N : Int} {n : Nat} {c : Nat → Nat → Int} {t : Nat} {x2 x3 p b b' s z : Int} (g : pf_G N n c) (ht : t < n) (hon : pf_on c t x2 x3) (hne : x2 ≠ x3) (hN : N ≤ 10) (hp : ∀ x : Nat, x < 32 → (pb p x = true ↔ pf_has c t x)) (hb : ∀ x : Nat, x < 32 → (pb b x = true ↔ (x2 = x ∨ x3 = x))) (e1 : pv_I b ^^^ pv_I (-1) = pv_I b') (e2 : pv_I p &&& pv_I b' = pv_I s) (hz : (z = 32 ∧ ∀ i : Nat, i < 32 → pb s i = false) ∨ (0 ≤ z ∧ z ≤ 31 ∧ pb s z.toNat = true)) : z = pf_by c t x2 x3 ∧ 0 ≤ z ∧ z ≤ 9 := by
  obtain ⟨b1, b2, b3⟩ := pf_by_has g ht hon hne
  have br := b1.rg (g.1 t ht).1
  have ks : ∀ x : Nat, x < 32 → (pb s x = true ↔ (pf_has c t x ∧ x2 ≠ x ∧ x3 ≠ x)) := fun x hx => by
    rw [pb_and e2, pb_not e1 hx, Bool.and_eq_true, hp x hx]
    constructor
    · rintro ⟨q1, q2⟩
      refine ⟨q1, fun q => ?_, fun q => ?_⟩
      · rw [(hb x hx).mpr (Or.inl q)] at q2; cases q2
      · rw [(hb x hx).mpr (Or.inr q)] at q2; cases q2
    · rintro ⟨q1, q2, q3⟩
      refine ⟨q1, ?_⟩
      cases hq : pb b x with
      | false => rfl
      | true =>
        rcases (hb x hx).mp hq with r | r
        · exact absurd r q2
        · exact absurd r q3
  have ey : (((pf_by c t x2 x3).toNat : Nat) : Int) = pf_by c t x2 x3 := by omega
  rcases hz with ⟨h1, h2⟩ | ⟨h1, h2, h3⟩
  · exfalso
    have := (ks (pf_by c t x2 x3).toNat (by omega)).mpr (by rw [ey]; exact ⟨b1, Ne.symm b2, Ne.symm b3⟩)
    rw [h2 _ (by omega)] at this
    cases this
  · obtain ⟨q1, q2, q3⟩ := (ks z.toNat (by omega)).mp h3
    rw [show ((z.toNat : Nat) : Int) = z by omega] at q1 q2 q3
    have := pf_third hon.1 hon.2 q1 b1 hne (Ne.symm q2) (Ne.symm q3) b2 b3
    omega
