/-! READING in the reference -/
def pt_ch (s k : Nat) : Int := ((pv_byt.getD s []).getD k 0 &&& 255).toInt
def pt_w (t : Nat → Int) (fk tk at' fr : Int) (s : Nat) : Prop := fk = 0 ∧ tk = 1 ∧ at' - fr = (pv_len.getD s 0 : Int) ∧ ∀ j : Nat, (j : Int) < (pv_len.getD s 0 : Int) → t (fr + j).toNat = pt_ch s j
theorem pt_chz {s : Nat} {j z : Int} (hz : pv_r z) (e : (pv_byt.getD s []).getD j.toNat 0 &&& 255 = pv_I z) : z = pt_ch s j.toNat := by
  unfold pt_ch
  rw [e, pv_I_toInt hz]
def ps_G (F : Nat → Int) (fk : Int) : Prop := fk = 0 → pf_G (F 0) (pr_n F) (pr_c F) ∧ (F 2 = 0 → F 1 = 0)
def pt_3 (F : Nat → Int) (a b v : Int) : Prop := ∀ t, t < pr_n F → ¬ (pf_has (pr_c F) t a ∧ pf_has (pr_c F) t b ∧ pf_has (pr_c F) t v)
theorem is_no {t : Nat → Int} {fk tk at' fr : Int} {s : Nat} (h : ¬ (fk = 0 ∧ tk = 1 ∧ at' - fr = (pv_len.getD s 0 : Int))) : ¬ pt_w t fk tk at' fr s := fun z => h ⟨z.1, z.2.1, z.2.2.1⟩
theorem is_nc {t : Nat → Int} {fk tk at' fr k : Int} {s : Nat} (h0 : 0 ≤ k) (hk : k < (pv_len.getD s 0 : Int)) (h : ¬ t (fr + k).toNat = pt_ch s k.toNat) : ¬ pt_w t fk tk at' fr s := fun z => h (by
  have := z.2.2.2 k.toNat (by omega)
  rw [show ((k.toNat : Nat) : Int) = k by omega] at this
  exact this)
theorem is_yes {t : Nat → Int} {fk tk at' fr k : Int} {s : Nat} (hb : fk = 0 ∧ tk = 1 ∧ at' - fr = (pv_len.getD s 0 : Int)) (h : ∀ j : Nat, (j : Int) < k → t (fr + j).toNat = pt_ch s j) (hk : (pv_len.getD s 0 : Int) ≤ k) : pt_w t fk tk at' fr s := ⟨hb.1, hb.2.1, hb.2.2, fun j hj => h j (by omega)⟩
theorem is_st {t : Nat → Int} {fr k : Int} {s : Nat} (h0 : 0 ≤ k) (h : ∀ j : Nat, (j : Int) < k → t (fr + j).toNat = pt_ch s j) (hk : t (fr + k).toNat = pt_ch s k.toNat) : ∀ j : Nat, (j : Int) < k + 1 → t (fr + j).toNat = pt_ch s j := by
  intro j hj
  by_cases c : (j : Int) < k
  · exact h j c
  · have e : j = k.toNat := by omega
    subst e
    rw [show ((k.toNat : Nat) : Int) = k by omega]
    exact hk
theorem tr_st {F : Nat → Int} {a b v k : Int} (h0 : 0 ≤ k) (h : ∀ t, t < k.toNat → ¬ (pf_has (pr_c F) t a ∧ pf_has (pr_c F) t b ∧ pf_has (pr_c F) t v)) (hn : ¬ (pf_has (pr_c F) k.toNat a ∧ pf_has (pr_c F) k.toNat b ∧ pf_has (pr_c F) k.toNat v)) : ∀ t, t < (k + 1).toNat → ¬ (pf_has (pr_c F) t a ∧ pf_has (pr_c F) t b ∧ pf_has (pr_c F) t v) := by
  intro t ht
  by_cases c : t < k.toNat
  · exact h t c
  · have : t = k.toNat := by omega
    subst this
    exact hn
