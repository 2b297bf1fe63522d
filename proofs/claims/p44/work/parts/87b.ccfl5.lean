abbrev Q43F (τ : Nat → Option Nat) (ρ : Nat → Nat → Nat) (h : pv_H) (a0 : Nat) (x1 : Int) (x2 : Int) : Option Value → pv_H → Prop := fun r h' => pv_Ty τ ρ h' ∧ pv_Fr τ [1791] h h' ∧ r = none ∧ (∀ p q : Nat, p < 10 → q < 10 → pv_aI h' (ρ a0 12) (10 * p + q) = pv_aI h (ρ a0 12) (10 * p + q) + x2 * pf_cn (nk_c h ρ a0) (x1).toNat p q)
set_option maxHeartbeats 4000000 in
set_option maxRecDepth 20000 in
/-- AngleNet$Net.shareSides(II)V -/
theorem ct43F {τ : Nat → Option Nat} {ρ : Nat → Nat → Nat} {K : Nat → Nat} {h : pv_H} {a0 : Nat} {x1 : Int} {x2 : Int} (hT : pv_Ty τ ρ h) (hA0 : τ a0 = some 2) (hX1 : 0 ≤ x1 ∧ x1 ≤ 17) (hX2 : (-1) ≤ x2 ∧ x2 ≤ 1) (hP0 : x2 = 1 ∨ x2 = -1) (hP1 : ∀ j : Nat, j < 100 → -1000 ≤ pv_aI h (ρ a0 12) j ∧ pv_aI h (ρ a0 12) j ≤ 1000) : pv_C K 43 [.ref a0, .int (pv_I x1), .int (pv_I x2)] h (Q43F τ ρ h a0 x1 x2) := by
  refine pw_entry 3 ?_
  show pv_T K 43 0 (pv_fl [some (.ref a0), some (.int (pv_I x1)), some (.int (pv_I x2)), none, none, none]) [] h (Q43F τ ρ h a0 x1 x2)
  have hR0_5 : τ (ρ a0 5) = some 20 := hT.rf (t' := 20) hA0 rfl rfl
  have hR0_12 : τ (ρ a0 12) = some 27 := hT.rf (t' := 27) hA0 rfl rfl
  have hF0 : pv_Fr τ [1791] h h := pv_Fr.rf
  have L2 : ∀ (nn : Nat) (h_2 : pv_H) (xL3_2 : Int) (o4_2 o5_2 : Option Value), (pv_Ty τ ρ h_2) → (pv_Fr τ [1791] h h_2) → (0 ≤ x1 ∧ x1 ≤ 17) → ((-1) ≤ x2 ∧ x2 ≤ 1) → (0 ≤ xL3_2 ∧ xL3_2 ≤ 3) → (sh_k (nk_c h ρ a0) (x1).toNat (pv_aI h (ρ a0 12)) (pv_aI h_2 (ρ a0 12)) x2 xL3_2) → 3 - xL3_2 < nn → pv_T K 43 2 (pv_fl [some (.ref a0), some (.int (pv_I x1)), some (.int (pv_I x2)), some (.int (pv_I xL3_2)), o4_2, o5_2]) [] h_2 (Q43F τ ρ h a0 x1 x2) := by
    intro nn
    induction nn with
    | zero => intro h_2 xL3_2 o4_2 o5_2 hT_2 hF_2 rL1_2 rL2_2 rL3_2 i0_2 hm; exfalso; omega
    | succ nn ih2 =>
      intro h_2 xL3_2 o4_2 o5_2 hT_2 hF_2 rL1_2 rL2_2 rL3_2 i0_2 hm2
      refine pw_iload_n d43_2 rfl ?_
      refine pw_iconst d43_3 ?_
      refine pw_icmp_ge d43_4 rfl (by omega) (by omega) (fun c4 => ?_) (fun c4 => ?_)
      · exact pw_return d43_75 tt43 ⟨hT_2, hF_2, rfl, (by exact sh_k.fin (by rw [show (3 : Int) = xL3_2 by omega]; exact i0_2))⟩
      · have ec7 : pv_aI h_2 (ρ a0 5) = pv_aI h (ρ a0 5) := hF_2.aeq hR0_5 (by decide)
        have sb7 := i0_2.b hP0 hP1
        refine pw_aload_n d43_7 rfl ?_
        refine pw_getR d43_8 g43_9 hT_2 hA0 rfl rfl (fun t8 => ?_)
        have t8 : τ (ρ a0 5) = some 20 := t8
        refine pw_iconst d43_11 ?_
        refine pw_iload_n d43_12 rfl ?_
        refine pw_imul d43_13 ?_
        refine pw_iload_n d43_14 rfl ?_
        refine pw_iadd d43_15 ?_
        refine pw_iald d43_16 hT_2 t8 rfl rfl (by omega) (by omega) (fun u16 vu16 => ?_)
        refine pw_istore d43_17 m43 rfl rfl ?_
        refine pw_aload_n d43_19 rfl ?_
        refine pw_getR d43_20 g43_9 hT_2 hA0 rfl rfl (fun t20 => ?_)
        have t20 : τ (ρ a0 5) = some 20 := t20
        refine pw_iconst d43_23 ?_
        refine pw_iload_n d43_24 rfl ?_
        refine pw_imul d43_25 ?_
        refine pw_iload_n d43_26 rfl ?_
        refine pw_iconst d43_27 ?_
        refine pw_iadd d43_28 ?_
        refine pw_iconst d43_29 ?_
        refine pw_irem d43_30 (by omega) (by omega) (by omega) (by omega) ?_
        refine pw_iadd d43_31 ?_
        refine pw_iald d43_32 hT_2 t20 rfl rfl (by omega) (by omega) (fun u32 vu32 => ?_)
        refine pw_istore d43_33 m43 rfl rfl ?_
        refine pw_aload_n d43_35 rfl ?_
        refine pw_getR d43_36 g43_33 hT_2 hA0 rfl rfl (fun t36 => ?_)
        have t36 : τ (ρ a0 12) = some 27 := t36
        refine pw_bipush d43_39 (by decide) ?_
        refine pw_iload d43_41 rfl ?_
        refine pw_imul d43_43 ?_
        refine pw_iload d43_44 rfl ?_
        refine pw_iadd d43_46 ?_
        refine pw_dup2 d43_47 rfl rfl ?_
        refine pw_iald d43_48 hT_2 t36 rfl rfl (by omega) (by omega) (fun u48 vu48 => ?_)
        refine pw_name (x := (pv_aI h_2 (ρ a0 12) (((10 * (pv_aI h_2 (ρ a0 5) (((3 * x1) + xL3_2)).toNat)) + (pv_aI h_2 (ρ a0 5) (((3 * x1) + ((xL3_2 + 1) % 3))).toNat))).toNat)) (fun z48 ez48 => ?_)
        have hz48 : (-2147483648) ≤ z48 ∧ z48 ≤ 2147483647 := by subst ez48; omega
        have b48 := sb7 (((10 * (pv_aI h_2 (ρ a0 5) (((3 * x1) + xL3_2)).toNat)) + (pv_aI h_2 (ρ a0 5) (((3 * x1) + ((xL3_2 + 1) % 3))).toNat))).toNat (by omega)
        refine pw_iload_n d43_49 rfl ?_
        refine pw_iadd d43_50 ?_
        refine pw_iast d43_51 hT_2 t36 rfl rfl rfl (by omega) (by omega) (by omega) (by omega) (fun h51 T51 F51 E51 => ?_)
        have f51 := hF_2.tr (F51.up (by decide))
        refine pw_aload_n d43_52 rfl ?_
        refine pw_getR d43_53 g43_33 T51 hA0 rfl rfl (fun t53 => ?_)
        have t53 : τ (ρ a0 12) = some 27 := t53
        refine pw_bipush d43_56 (by decide) ?_
        refine pw_iload d43_58 rfl ?_
        refine pw_imul d43_60 ?_
        refine pw_iload d43_61 rfl ?_
        refine pw_iadd d43_63 ?_
        refine pw_dup2 d43_64 rfl rfl ?_
        refine pw_iald d43_65 T51 t53 rfl rfl (by omega) (by omega) (fun u65 vu65 => ?_)
        refine pw_name (x := (pv_aI h51 (ρ a0 12) (((10 * (pv_aI h_2 (ρ a0 5) (((3 * x1) + ((xL3_2 + 1) % 3))).toNat)) + (pv_aI h_2 (ρ a0 5) (((3 * x1) + xL3_2)).toNat))).toNat)) (fun z65 ez65 => ?_)
        have hz65 : (-2147483648) ≤ z65 ∧ z65 ≤ 2147483647 := by subst ez65; omega
        have b65 : -1007 ≤ pv_aI h51 (ρ a0 12) (((10 * (pv_aI h_2 (ρ a0 5) (((3 * x1) + ((xL3_2 + 1) % 3))).toNat)) + (pv_aI h_2 (ρ a0 5) (((3 * x1) + xL3_2)).toNat))).toNat ∧ pv_aI h51 (ρ a0 12) (((10 * (pv_aI h_2 (ρ a0 5) (((3 * x1) + ((xL3_2 + 1) % 3))).toNat)) + (pv_aI h_2 (ρ a0 5) (((3 * x1) + xL3_2)).toNat))).toNat ≤ 1007 := by rw [pe_at E51]; have := sb7 (((10 * (pv_aI h_2 (ρ a0 5) (((3 * x1) + ((xL3_2 + 1) % 3))).toNat)) + (pv_aI h_2 (ρ a0 5) (((3 * x1) + xL3_2)).toNat))).toNat (by omega); split <;> omega
        refine pw_iload_n d43_66 rfl ?_
        refine pw_iadd d43_67 ?_
        refine pw_iast d43_68 T51 t53 rfl rfl rfl (by omega) (by omega) (by omega) (by omega) (fun h68 T68 F68 E68 => ?_)
        have f68 := f51.tr (F68.up (by decide))
        refine pw_iinc d43_69 m43 rfl rfl rfl ?_
        refine pw_goto d43_72 rfl ?_
        exact ih2 h68 ((xL3_2 + 1)) _ _ T68 f68 (by omega) (by omega) (by omega) (by first | exact sh_k.zero | exact i0_2.step (u := pv_aI h_2 (ρ a0 5) ((3 * x1) + xL3_2).toNat) (v := pv_aI h_2 (ρ a0 5) ((3 * x1) + ((xL3_2 + 1) % 3)).toNat) (by omega) (by omega) (by omega) (by unfold nk_c; rw [ec7, show 3 * (x1).toNat + (xL3_2).toNat = ((3 * x1) + xL3_2).toNat by omega]) (by unfold nk_c; rw [ec7, show 3 * (x1).toNat + ((xL3_2 + 1) % 3).toNat = ((3 * x1) + ((xL3_2 + 1) % 3)).toNat by omega]) (by subst ez48; exact pe_at E51) (by subst ez65; exact pe_at E68)) (by omega)
  refine pw_iconst d43_0 ?_
  refine pw_istore_n d43_1 m43 rfl rfl ?_
  exact L2 _ h (0) _ _ hT hF0 (by omega) (by omega) (by omega) (by first | exact sh_k.zero | exact i0_2.step (u := pv_aI h_2 (ρ a0 5) ((3 * x1) + xL3_2).toNat) (v := pv_aI h_2 (ρ a0 5) ((3 * x1) + ((xL3_2 + 1) % 3)).toNat) (by omega) (by omega) (by omega) (by unfold nk_c; rw [ec7, show 3 * (x1).toNat + (xL3_2).toNat = ((3 * x1) + xL3_2).toNat by omega]) (by unfold nk_c; rw [ec7, show 3 * (x1).toNat + ((xL3_2 + 1) % 3).toNat = ((3 * x1) + ((xL3_2 + 1) % 3)).toNat by omega]) (by subst ez48; exact pe_at E51) (by subst ez65; exact pe_at E68)) (pv_mu _)
