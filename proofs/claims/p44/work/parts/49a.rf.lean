theorem pv_Ty.rf {τ : Nat → Option Nat} {ρ : Nat → Nat → Nat} {h : pv_H} {a k ci t : Nat} {t' z : Int} {fts : List (Nat × Int × Int)} (hT : pv_Ty τ ρ h) (ha : τ a = some t) (ht : pv_tyO t = some (ci, fts)) (hk : fts[k]? = some (4, t', z)) : τ (ρ a k) = some t'.toNat := by
  obtain ⟨fs, e, hl, hf⟩ := (hT a t ha).1 _ ht
  have hkl : k < fs.length := by rw [hl]; exact (List.getElem?_eq_some_iff.mp hk).1
  exact (hf k _ _ hk (List.getElem?_eq_getElem hkl)).2
