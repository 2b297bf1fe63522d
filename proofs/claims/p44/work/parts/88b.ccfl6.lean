abbrev Q126F (τ : Nat → Option Nat) (ρ : Nat → Nat → Nat) (h : pv_H) (a0 : Nat) (x1 : Int) : Option Value → pv_H → Prop := fun r h' => pv_Ty τ ρ h' ∧ pv_Fr τ [1791] h h' ∧ r = none ∧ (∀ p q : Nat, p < 10 → q < 10 → pv_aI h' (ρ a0 12) (10 * p + q) = pv_aI h (ρ a0 12) (10 * p + q) - pf_cn (nk_c h ρ a0) (x1).toNat p q)
set_option maxHeartbeats 4000000 in
set_option maxRecDepth 20000 in
/-- AngleNet$Net.liftThird(I)V -/
theorem ct126F {τ : Nat → Option Nat} {ρ : Nat → Nat → Nat} {K : Nat → Nat} {h : pv_H} {a0 : Nat} {x1 : Int} (hT : pv_Ty τ ρ h) (hA0 : τ a0 = some 2) (hX1 : 0 ≤ x1 ∧ x1 ≤ 17) (hP0 : ∀ j : Nat, j < 100 → -1000 ≤ pv_aI h (ρ a0 12) j ∧ pv_aI h (ρ a0 12) j ≤ 1000) : pv_C K 126 [.ref a0, .int (pv_I x1)] h (Q126F τ ρ h a0 x1) := by
  refine pw_entry 0 ?_
  show pv_T K 126 0 (pv_fl [some (.ref a0), some (.int (pv_I x1))]) [] h (Q126F τ ρ h a0 x1)
  have hR0_12 : τ (ρ a0 12) = some 27 := hT.rf (t' := 27) hA0 rfl rfl
  have hF0 : pv_Fr τ [1791] h h := pv_Fr.rf
  refine pw_aload_n d126_0 rfl ?_
  refine pw_iload_n d126_1 rfl ?_
  refine pw_iconst d126_2 ?_
  refine pw_callV2 d126_3 k126_86 hT hA0 rfl rfl rfl (ct43F (τ := τ) (ρ := ρ) hT hA0 (by omega) (by omega) (by first | assumption | omega) (by first | assumption | omega)) (fun r3 h3 q3 => ?_)
  obtain ⟨T3, F3, ez3, pz3_0⟩ := q3
  subst ez3
  have f3 := hF0.tr (F3.up (by decide))
  exact pw_return d126_6 tt126 ⟨T3, f3, rfl, (by intro p q hp hq; rw [pz3_0 p q hp hq]; omega)⟩

abbrev Q42F (τ : Nat → Option Nat) (ρ : Nat → Nat → Nat) (h : pv_H) (a0 : Nat) (x1 : Int) (x2 : Int) (x3 : Int) (x4 : Int) (x5 : Int) : Option Value → pv_H → Prop := fun r h' => pv_Ty τ ρ h' ∧ pv_Fr τ [1343, 1407, 1791] h h' ∧ r = none ∧ ((nk_c h' ρ a0 (x1).toNat 0 = x2 ∧ nk_c h' ρ a0 (x1).toNat 1 = x3 ∧ nk_c h' ρ a0 (x1).toNat 2 = x4) ∧ ∀ v k : Nat, k < 3 → v ≠ (x1).toNat → nk_c h' ρ a0 v k = nk_c h ρ a0 v k) ∧ (∀ p q : Nat, p < 10 → q < 10 → pv_aI h' (ρ a0 12) (10 * p + q) = pv_aI h (ρ a0 12) (10 * p + q) + pf_cn (nk_c h' ρ a0) (x1).toNat p q)
set_option maxHeartbeats 4000000 in
set_option maxRecDepth 20000 in
/-- AngleNet$Net.putThird(IIIII)V -/
theorem ct42F {τ : Nat → Option Nat} {ρ : Nat → Nat → Nat} {K : Nat → Nat} {h : pv_H} {a0 : Nat} {x1 : Int} {x2 : Int} {x3 : Int} {x4 : Int} {x5 : Int} (hT : pv_Ty τ ρ h) (hA0 : τ a0 = some 2) (hX1 : 0 ≤ x1 ∧ x1 ≤ 17) (hX2 : 0 ≤ x2 ∧ x2 ≤ 9) (hX3 : 0 ≤ x3 ∧ x3 ≤ 9) (hX4 : 0 ≤ x4 ∧ x4 ≤ 9) (hX5 : 0 ≤ x5 ∧ x5 ≤ 540) (hP0 : ∀ j : Nat, j < 100 → -1000 ≤ pv_aI h (ρ a0 12) j ∧ pv_aI h (ρ a0 12) j ≤ 1000) : pv_C K 42 [.ref a0, .int (pv_I x1), .int (pv_I x2), .int (pv_I x3), .int (pv_I x4), .int (pv_I x5)] h (Q42F τ ρ h a0 x1 x2 x3 x4 x5) := by
  refine pw_entry 0 ?_
  show pv_T K 42 0 (pv_fl [some (.ref a0), some (.int (pv_I x1)), some (.int (pv_I x2)), some (.int (pv_I x3)), some (.int (pv_I x4)), some (.int (pv_I x5))]) [] h (Q42F τ ρ h a0 x1 x2 x3 x4 x5)
  have hR0_5 : τ (ρ a0 5) = some 20 := hT.rf (t' := 20) hA0 rfl rfl
  have hR0_12 : τ (ρ a0 12) = some 27 := hT.rf (t' := 27) hA0 rfl rfl
  have hF0 : pv_Fr τ [1343, 1407, 1791] h h := pv_Fr.rf
  refine pw_aload_n d42_0 rfl ?_
  refine pw_getR d42_1 g42_9 hT hA0 rfl rfl (fun t1 => ?_)
  have t1 : τ (ρ a0 5) = some 20 := t1
  refine pw_iconst d42_4 ?_
  refine pw_iload_n d42_5 rfl ?_
  refine pw_imul d42_6 ?_
  refine pw_iload_n d42_7 rfl ?_
  refine pw_iast d42_8 hT t1 rfl rfl rfl (by omega) (by omega) (by omega) (by omega) (fun h8 T8 F8 E8 => ?_)
  have f8 := hF0.tr (F8.up (by decide))
  refine pw_aload_n d42_9 rfl ?_
  refine pw_getR d42_10 g42_9 T8 hA0 rfl rfl (fun t10 => ?_)
  have t10 : τ (ρ a0 5) = some 20 := t10
  refine pw_iconst d42_13 ?_
  refine pw_iload_n d42_14 rfl ?_
  refine pw_imul d42_15 ?_
  refine pw_iconst d42_16 ?_
  refine pw_iadd d42_17 ?_
  refine pw_iload_n d42_18 rfl ?_
  refine pw_iast d42_19 T8 t10 rfl rfl rfl (by omega) (by omega) (by omega) (by omega) (fun h19 T19 F19 E19 => ?_)
  have f19 := f8.tr (F19.up (by decide))
  refine pw_aload_n d42_20 rfl ?_
  refine pw_getR d42_21 g42_9 T19 hA0 rfl rfl (fun t21 => ?_)
  have t21 : τ (ρ a0 5) = some 20 := t21
  refine pw_iconst d42_24 ?_
  refine pw_iload_n d42_25 rfl ?_
  refine pw_imul d42_26 ?_
  refine pw_iconst d42_27 ?_
  refine pw_iadd d42_28 ?_
  refine pw_iload d42_29 rfl ?_
  refine pw_iast d42_31 T19 t21 rfl rfl rfl (by omega) (by omega) (by omega) (by omega) (fun h31 T31 F31 E31 => ?_)
  have f31 := f19.tr (F31.up (by decide))
  refine pw_aload_n d42_32 rfl ?_
  refine pw_getR d42_33 g42_15 T31 hA0 rfl rfl (fun t33 => ?_)
  have t33 : τ (ρ a0 6) = some 21 := t33
  refine pw_iload_n d42_36 rfl ?_
  refine pw_iload d42_37 rfl ?_
  refine pw_iast d42_39 T31 t33 rfl rfl rfl (by omega) (by omega) (by omega) (by omega) (fun h39 T39 F39 E39 => ?_)
  have f39 := f31.tr (F39.up (by decide))
  have es40 : pv_aI h39 (ρ a0 12) = pv_aI h (ρ a0 12) := (F39.aeq hR0_12 (by decide)).trans ((F31.aeq hR0_12 (by decide)).trans ((F19.aeq hR0_12 (by decide)).trans (F8.aeq hR0_12 (by decide))))
  have sb40 : ∀ j : Nat, j < 100 → -1000 ≤ pv_aI h39 (ρ a0 12) j ∧ pv_aI h39 (ρ a0 12) j ≤ 1000 := by rw [es40]; exact hP0
  refine pw_aload_n d42_40 rfl ?_
  refine pw_iload_n d42_41 rfl ?_
  refine pw_iconst d42_42 ?_
  refine pw_callV2 d42_43 k42_86 T39 hA0 rfl rfl rfl (ct43F (τ := τ) (ρ := ρ) T39 hA0 (by omega) (by omega) (by first | assumption | omega) (by first | assumption | omega)) (fun r43 h43 q43 => ?_)
  obtain ⟨T43, F43, ez43, pz43_0⟩ := q43
  subst ez43
  have f43 := f39.tr (F43.up (by decide))
  exact pw_return d42_46 tt42 ⟨T43, f43, rfl, (by simp only [nk_c]; rw [F43.aeq hR0_5 (by decide), F39.aeq hR0_5 (by decide)]; exact pt_c (by omega) (pe_at E8) (pe_at E19) (pe_at E31)), (by intro p q hp hq; rw [pz43_0 p q hp hq, es40, show nk_c h43 ρ a0 = nk_c h39 ρ a0 by unfold nk_c; rw [F43.aeq hR0_5 (by decide)]]; omega)⟩
