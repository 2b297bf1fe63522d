theorem pv_Ty.fI {τ : Nat → Option Nat} {ρ : Nat → Nat → Nat} {h : pv_H} {a t k ci : Nat} {lo hi : Int} {fts : List (Nat × Int × Int)} (hT : pv_Ty τ ρ h) (ha : τ a = some t) (ht : pv_tyO t = some (ci, fts)) (hk : fts[k]? = some (1, lo, hi)) : lo ≤ pv_fI h a k ∧ pv_fI h a k ≤ hi := by
  obtain ⟨fs, e, hl, hf⟩ := (hT a t ha).1 _ ht
  have hkl : k < fs.length := by rw [hl]; exact (List.getElem?_eq_some_iff.mp hk).1
  obtain ⟨x, hx, h1, h2⟩ := hf k _ _ hk (List.getElem?_eq_getElem hkl)
  unfold pv_fI
  rw [e]
  simp only [List.getElem?_eq_getElem hkl, hx]
  exact ⟨h1, h2⟩
/-- a side of a net of the class that may be flipped -/
def nk_ff (h : pv_H) (ρ : Nat → Nat → Nat) (a : Nat) (p q : Int) : Prop := ∃ t u : Nat, t < u ∧ u < nk_n h a ∧ pf_on (nk_c h ρ a) t p q ∧ pf_on (nk_c h ρ a) u p q ∧ (∀ v : Nat, v < t → ¬ pf_on (nk_c h ρ a) v p q) ∧ (∀ v : Nat, t < v → v < u → ¬ pf_on (nk_c h ρ a) v p q) ∧ ∀ v, v < nk_n h a → ¬ pf_on (nk_c h ρ a) v (pf_by (nk_c h ρ a) t p q) (pf_by (nk_c h ρ a) u p q)
theorem ia_ff {h : pv_H} {ρ : Nat → Nat → Nat} {a : Nat} {p q t u x y z : Int} (ok : nk_ok h ρ a) (hN : pv_fI h a 0 ≤ 10) (hne : p ≠ q) (rt : 0 ≤ t ∧ t < pv_fI h a 1) (ht : pf_on (nk_c h ρ a) t.toNat p q) (mt : ∀ v : Nat, 0 ≤ (v : Int) → (v : Int) < t → ¬ pf_on (nk_c h ρ a) v p q) (ru : t + 1 ≤ u ∧ u < pv_fI h a 1) (hu : pf_on (nk_c h ρ a) u.toNat p q) (mu : ∀ v : Nat, t + 1 ≤ (v : Int) → (v : Int) < u → ¬ pf_on (nk_c h ρ a) v p q) (ex : x = pf_by (nk_c h ρ a) t.toNat p q) (ey : y = pf_by (nk_c h ρ a) u.toNat p q) (hz : z = 0 → 0 ≤ x → x < pv_fI h a 0 → 0 ≤ y → y < pv_fI h a 0 → x ≠ y → pv_aI h (ρ a 12) (10 * x + y).toNat ≤ 0) (z0 : z = 0) : nk_ff h ρ a p q := by
  have g := ok.G
  have nt : t.toNat < nk_n h a := by unfold nk_n; omega
  have nu : u.toNat < nk_n h a := by unfold nk_n; omega
  have bx := (pf_by_has g nt ht hne).1.rg (g.1 _ nt).1
  have by' := (pf_by_has g nu hu hne).1.rg (g.1 _ nu).1
  have bn := pf_by_ne g nt nu (by omega) ht hu hne
  rw [← ex] at bx bn
  rw [← ey] at by' bn
  have hs := hz z0 bx.1 bx.2 by'.1 by'.2 bn
  refine ⟨t.toNat, u.toNat, by omega, nu, ht, hu, fun v hv => mt v (by omega) (by omega), fun v h1 h2 => mu v (by omega) (by omega), ?_⟩
  rw [← ex, ← ey]
  have := ok.1.no (p := x.toNat) (q := y.toNat) (by omega) (by omega) (by omega) (by rw [show 10 * x.toNat + y.toNat = (10 * x + y).toNat by omega]; exact hs)
  rw [show ((x.toNat : Nat) : Int) = x by omega, show ((y.toNat : Nat) : Int) = y by omega] at this
  exact this
theorem nk_ff.mm {h : pv_H} {ρ : Nat → Nat → Nat} {a : Nat} {p q x y : Int} (f : nk_ff h ρ a p q) (ha : x = p ∨ x = q) (la : x ≤ p ∧ x ≤ q) (hb : y = p ∨ y = q) (lb : p ≤ y ∧ q ≤ y) : nk_ff h ρ a x y := by
  rcases Int.le_total p q with r | r
  · rw [show x = p by omega, show y = q by omega]; exact f
  · rw [show x = q by omega, show y = p by omega]
    obtain ⟨t, u, h1, h2, h3, h4, h5, h6, h7⟩ := f
    refine ⟨t, u, h1, h2, ⟨h3.2, h3.1⟩, ⟨h4.2, h4.1⟩, fun v hv hc => h5 v hv ⟨hc.2, hc.1⟩, fun v a1 a2 hc => h6 v a1 a2 ⟨hc.2, hc.1⟩, ?_⟩
    rw [pf_by_sy (p := q), pf_by_sy (p := q)]
    exact h7
/-- the first and the second third on it -/
theorem nk_ff.t {h : pv_H} {ρ : Nat → Nat → Nat} {a : Nat} {p q z : Int} (f : nk_ff h ρ a p q) (hz : (z = -1 ∧ ∀ t : Nat, 0 ≤ (t : Int) → (t : Int) < pv_fI h a 1 → ¬ pf_on (nk_c h ρ a) t p q) ∨ (0 ≤ z ∧ 0 ≤ z ∧ z < pv_fI h a 1 ∧ pf_on (nk_c h ρ a) z.toNat p q ∧ ∀ t : Nat, 0 ≤ (t : Int) → (t : Int) < z → ¬ pf_on (nk_c h ρ a) t p q)) : 0 ≤ z ∧ z < pv_fI h a 1 ∧ pf_on (nk_c h ρ a) z.toNat p q := by
  obtain ⟨t, u, h1, h2, h3, h4, h5, h6, h7⟩ := f
  rcases hz with ⟨q1, q2⟩ | q
  · exact absurd h3 (q2 t (by omega) (by unfold nk_n at h2; omega))
  · exact ⟨q.1, q.2.2.1, q.2.2.2.1⟩
theorem nk_ff.u {h : pv_H} {ρ : Nat → Nat → Nat} {a : Nat} {p q z y : Int} (f : nk_ff h ρ a p q) (hz : (z = -1 ∧ ∀ t : Nat, 0 ≤ (t : Int) → (t : Int) < pv_fI h a 1 → ¬ pf_on (nk_c h ρ a) t p q) ∨ (0 ≤ z ∧ 0 ≤ z ∧ z < pv_fI h a 1 ∧ pf_on (nk_c h ρ a) z.toNat p q ∧ ∀ t : Nat, 0 ≤ (t : Int) → (t : Int) < z → ¬ pf_on (nk_c h ρ a) t p q)) (hy : (y = -1 ∧ ∀ t : Nat, z + 1 ≤ (t : Int) → (t : Int) < pv_fI h a 1 → ¬ pf_on (nk_c h ρ a) t p q) ∨ (0 ≤ y ∧ z + 1 ≤ y ∧ y < pv_fI h a 1 ∧ pf_on (nk_c h ρ a) y.toNat p q ∧ ∀ t : Nat, z + 1 ≤ (t : Int) → (t : Int) < y → ¬ pf_on (nk_c h ρ a) t p q)) : 0 ≤ y ∧ y < pv_fI h a 1 ∧ pf_on (nk_c h ρ a) y.toNat p q := by
  have hz' := f.t hz
  obtain ⟨t, u, h1, h2, h3, h4, h5, h6, h7⟩ := f
  rcases hy with ⟨q1, q2⟩ | q
  · exfalso
    have : z.toNat ≤ t := by
      apply Classical.byContradiction
      intro hc
      rcases hz with r | r
      · omega
      · exact r.2.2.2.2 t (by omega) (by omega) h3
    exact q2 u (by omega) (by unfold nk_n at h2; omega) h4
  · exact ⟨q.1, q.2.2.1, q.2.2.2.1⟩
