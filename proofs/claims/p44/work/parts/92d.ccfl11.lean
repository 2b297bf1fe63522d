abbrev Q174R (τ : Nat → Option Nat) (ρ : Nat → Nat → Nat) (h : pv_H) (a0 : Nat) (x1 : Int) : Option Value → pv_H → Prop := fun r h' => pv_Ty τ ρ h' ∧ pv_Fr τ [128, 129, 130, 131, 132, 142, 143, 767, 1343, 1407, 1471, 1535, 1599, 1663, 1727, 1791, 1855] h h' ∧ ∃ z : Int, r = some (.int (pv_I z)) ∧ (-2) ≤ z ∧ z ≤ 0 ∧ (nk_w τ ρ h') ∧ (z = if 0 ≤ x1 ∧ x1 ≤ 2 then 0 else -2) ∧ (∀ j : Nat, pv_aI h' (ρ a0 4) j = if (0 ≤ x1 ∧ x1 ≤ 2) ∧ j = (x1).toNat then 1 else pv_aI h (ρ a0 4) j)
set_option maxHeartbeats 4000000 in
set_option maxRecDepth 20000 in
/-- AngleNet.keep(I)I -/
theorem ct174R {τ : Nat → Option Nat} {ρ : Nat → Nat → Nat} {K : Nat → Nat} {h : pv_H} {a0 : Nat} {x1 : Int} (hT : pv_Ty τ ρ h) (hA0 : τ a0 = some 0) (hX1 : (-2147483648) ≤ x1 ∧ x1 ≤ 2147483647) (hP0 : nk_w τ ρ h) : pv_C K 174 [.ref a0, .int (pv_I x1)] h (Q174R τ ρ h a0 x1) := by
  refine pw_entry 0 ?_
  show pv_T K 174 0 (pv_fl [some (.ref a0), some (.int (pv_I x1))]) [] h (Q174R τ ρ h a0 x1)
  have hR0_1 : τ (ρ a0 1) = some 2 := hT.rf (t' := 2) hA0 rfl rfl
  have hR0_4 : τ (ρ a0 4) = some 11 := hT.rf (t' := 11) hA0 rfl rfl
  have hF0 : pv_Fr τ [128, 129, 130, 131, 132, 142, 143, 767, 1343, 1407, 1471, 1535, 1599, 1663, 1727, 1791, 1855] h h := pv_Fr.rf
  refine pw_iload_n d174_0 rfl ?_
  refine pw_if_lt d174_1 rfl (by omega) (fun c1 => ?_) (fun c1 => ?_)
  · refine pw_bipush d174_9 (by decide) ?_
    exact pw_ireturn d174_11 tt174 ⟨hT, hF0, (-2), rfl, (by omega), (by omega), (by first | exact hP0 | exact pz22_0.fr T22 F31 (by decide)), (by first | (rw [if_pos (by omega)]; done) | (rw [if_neg (by omega)]; done)), (by first | (intro j; rw [if_neg (by omega)]; done) | exact kp_w (by omega) (F22.aeq hR0_4 (by decide)) (pe_at E31))⟩
  · refine pw_iload_n d174_4 rfl ?_
    refine pw_iconst d174_5 ?_
    refine pw_icmp_lt d174_6 rfl (by omega) (by omega) (fun c6 => ?_) (fun c6 => ?_)
    · refine pw_aload_n d174_12 rfl ?_
      refine pw_getR d174_13 g174_26 hT hA0 rfl rfl (fun t13 => ?_)
      have t13 : τ (ρ a0 3) = some 10 := t13
      refine pw_iload_n d174_16 rfl ?_
      refine pw_aald d174_17 hT t13 rfl (by decide) rfl (by omega) (by omega) (fun u17 => ?_)
      have u17 : τ (ρ (ρ a0 3) (x1).toNat) = some 2 := u17
      refine pw_aload_n d174_18 rfl ?_
      refine pw_getR d174_19 g174_19 hT hA0 rfl rfl (fun t19 => ?_)
      have t19 : τ (ρ a0 1) = some 2 := t19
      refine pw_callV1 d174_22 k174_77 hT u17 rfl rfl rfl (ct52W (τ := τ) (ρ := ρ) hT u17 t19 (by first | assumption | omega)) (fun r22 h22 q22 => ?_)
      obtain ⟨T22, F22, ez22, pz22_0⟩ := q22
      subst ez22
      have f22 := hF0.tr (F22.up (by decide))
      refine pw_aload_n d174_25 rfl ?_
      refine pw_getR d174_26 g174_30 T22 hA0 rfl rfl (fun t26 => ?_)
      have t26 : τ (ρ a0 4) = some 11 := t26
      refine pw_iload_n d174_29 rfl ?_
      refine pw_iconst d174_30 ?_
      refine pw_bastZ d174_31 T22 t26 rfl rfl rfl (by omega) (by omega) (by omega) (fun h31 T31 F31 E31 => ?_)
      have f31 := f22.tr (F31.up (by decide))
      refine pw_iconst d174_32 ?_
      exact pw_ireturn d174_33 tt174 ⟨T31, f31, 0, rfl, (by omega), (by omega), (by first | exact hP0 | exact pz22_0.fr T22 F31 (by decide)), (by first | (rw [if_pos (by omega)]; done) | (rw [if_neg (by omega)]; done)), (by first | (intro j; rw [if_neg (by omega)]; done) | exact kp_w (by omega) (F22.aeq hR0_4 (by decide)) (pe_at E31))⟩
    · refine pw_bipush d174_9 (by decide) ?_
      exact pw_ireturn d174_11 tt174 ⟨hT, hF0, (-2), rfl, (by omega), (by omega), (by first | exact hP0 | exact pz22_0.fr T22 F31 (by decide)), (by first | (rw [if_pos (by omega)]; done) | (rw [if_neg (by omega)]; done)), (by first | (intro j; rw [if_neg (by omega)]; done) | exact kp_w (by omega) (F22.aeq hR0_4 (by decide)) (pe_at E31))⟩

abbrev Q175R (τ : Nat → Option Nat) (ρ : Nat → Nat → Nat) (h : pv_H) (a0 : Nat) (x1 : Int) : Option Value → pv_H → Prop := fun r h' => pv_Ty τ ρ h' ∧ pv_Fr τ [128, 129, 130, 131, 132, 142, 143, 1343, 1407, 1471, 1535, 1599, 1663, 1727, 1791, 1855] h h' ∧ ∃ z : Int, r = some (.int (pv_I z)) ∧ (-6) ≤ z ∧ z ≤ 0 ∧ (nk_w τ ρ h') ∧ (z = if 0 ≤ x1 ∧ x1 ≤ 2 then (if pv_aI h (ρ a0 4) (x1).toNat = 0 then -6 else 0) else -2)
set_option maxHeartbeats 4000000 in
set_option maxRecDepth 20000 in
/-- AngleNet.back(I)I -/
theorem ct175R {τ : Nat → Option Nat} {ρ : Nat → Nat → Nat} {K : Nat → Nat} {h : pv_H} {a0 : Nat} {x1 : Int} (hT : pv_Ty τ ρ h) (hA0 : τ a0 = some 0) (hX1 : (-2147483648) ≤ x1 ∧ x1 ≤ 2147483647) (hP0 : nk_w τ ρ h) : pv_C K 175 [.ref a0, .int (pv_I x1)] h (Q175R τ ρ h a0 x1) := by
  refine pw_entry 0 ?_
  show pv_T K 175 0 (pv_fl [some (.ref a0), some (.int (pv_I x1))]) [] h (Q175R τ ρ h a0 x1)
  have hR0_1 : τ (ρ a0 1) = some 2 := hT.rf (t' := 2) hA0 rfl rfl
  have hR0_4 : τ (ρ a0 4) = some 11 := hT.rf (t' := 11) hA0 rfl rfl
  have hF0 : pv_Fr τ [128, 129, 130, 131, 132, 142, 143, 1343, 1407, 1471, 1535, 1599, 1663, 1727, 1791, 1855] h h := pv_Fr.rf
  refine pw_iload_n d175_0 rfl ?_
  refine pw_if_lt d175_1 rfl (by omega) (fun c1 => ?_) (fun c1 => ?_)
  · refine pw_bipush d175_9 (by decide) ?_
    exact pw_ireturn d175_11 tt175 ⟨hT, hF0, (-2), rfl, (by omega), (by omega), (by first | exact hP0 | assumption), (by first | (rw [if_neg (by omega)]; done) | (rw [if_pos (by omega), if_pos (by omega)]; done) | (rw [if_pos (by omega), if_neg (by omega)]; done))⟩
  · refine pw_iload_n d175_4 rfl ?_
    refine pw_iconst d175_5 ?_
    refine pw_icmp_lt d175_6 rfl (by omega) (by omega) (fun c6 => ?_) (fun c6 => ?_)
    · refine pw_aload_n d175_12 rfl ?_
      refine pw_getR d175_13 g175_30 hT hA0 rfl rfl (fun t13 => ?_)
      have t13 : τ (ρ a0 4) = some 11 := t13
      refine pw_iload_n d175_16 rfl ?_
      refine pw_bald d175_17 hT t13 rfl (by decide) rfl (by omega) (by omega) (fun u17 vu17 => ?_)
      refine pw_if_ne d175_18 rfl (by omega) (fun c18 => ?_) (fun c18 => ?_)
      · refine pw_aload_n d175_24 rfl ?_
        refine pw_getR d175_25 g175_19 hT hA0 rfl rfl (fun t25 => ?_)
        have t25 : τ (ρ a0 1) = some 2 := t25
        refine pw_aload_n d175_28 rfl ?_
        refine pw_getR d175_29 g175_26 hT hA0 rfl rfl (fun t29 => ?_)
        have t29 : τ (ρ a0 3) = some 10 := t29
        refine pw_iload_n d175_32 rfl ?_
        refine pw_aald d175_33 hT t29 rfl (by decide) rfl (by omega) (by omega) (fun u33 => ?_)
        have u33 : τ (ρ (ρ a0 3) (x1).toNat) = some 2 := u33
        refine pw_callV1 d175_34 k175_77 hT t25 rfl rfl rfl (ct52W (τ := τ) (ρ := ρ) hT t25 u33 (by first | assumption | omega)) (fun r34 h34 q34 => ?_)
        obtain ⟨T34, F34, ez34, pz34_0⟩ := q34
        subst ez34
        have f34 := hF0.tr (F34.up (by decide))
        refine pw_iconst d175_37 ?_
        exact pw_ireturn d175_38 tt175 ⟨T34, f34, 0, rfl, (by omega), (by omega), (by first | exact hP0 | assumption), (by first | (rw [if_neg (by omega)]; done) | (rw [if_pos (by omega), if_pos (by omega)]; done) | (rw [if_pos (by omega), if_neg (by omega)]; done))⟩
      · refine pw_bipush d175_21 (by decide) ?_
        exact pw_ireturn d175_23 tt175 ⟨hT, hF0, (-6), rfl, (by omega), (by omega), (by first | exact hP0 | assumption), (by first | (rw [if_neg (by omega)]; done) | (rw [if_pos (by omega), if_pos (by omega)]; done) | (rw [if_pos (by omega), if_neg (by omega)]; done))⟩
    · refine pw_bipush d175_9 (by decide) ?_
      exact pw_ireturn d175_11 tt175 ⟨hT, hF0, (-2), rfl, (by omega), (by omega), (by first | exact hP0 | assumption), (by first | (rw [if_neg (by omega)]; done) | (rw [if_pos (by omega), if_pos (by omega)]; done) | (rw [if_pos (by omega), if_neg (by omega)]; done))⟩

abbrev Q183R (τ : Nat → Option Nat) (ρ : Nat → Nat → Nat) (h : pv_H) (a0 : Nat) (x1 : Int) : Option Value → pv_H → Prop := fun r h' => pv_Ty τ ρ h' ∧ pv_Fr τ [2687, 2751] h h' ∧ ∃ z : Int, r = some (.int (pv_I z)) ∧ (-2) ≤ z ∧ z ≤ 0 ∧ (im_ok (pv_aI h' (ρ a0 2))) ∧ (z = if 0 ≤ x1 ∧ x1 ≤ 2 then 0 else -2) ∧ (∀ j : Nat, pv_aI h' (ρ a0 3) j = if (0 ≤ x1 ∧ x1 ≤ 2) ∧ j = (x1).toNat then 1 else pv_aI h (ρ a0 3) j)
set_option maxHeartbeats 4000000 in
set_option maxRecDepth 20000 in
/-- AngleNetModel.keep(I)I -/
theorem ct183R {τ : Nat → Option Nat} {ρ : Nat → Nat → Nat} {K : Nat → Nat} {h : pv_H} {a0 : Nat} {x1 : Int} (hT : pv_Ty τ ρ h) (hA0 : τ a0 = some 7) (hX1 : (-2147483648) ≤ x1 ∧ x1 ≤ 2147483647) (hP0 : pw_ok (pv_aI h (ρ a0 1))) (hP1 : im_ok (pv_aI h (ρ a0 2))) : pv_C K 183 [.ref a0, .int (pv_I x1)] h (Q183R τ ρ h a0 x1) := by
  refine pw_entry 1 ?_
  show pv_T K 183 0 (pv_fl [some (.ref a0), some (.int (pv_I x1)), none]) [] h (Q183R τ ρ h a0 x1)
  have hR0_1 : τ (ρ a0 1) = some 40 := hT.rf (t' := 40) hA0 rfl rfl
  have hR0_2 : τ (ρ a0 2) = some 41 := hT.rf (t' := 41) hA0 rfl rfl
  have hR0_3 : τ (ρ a0 3) = some 42 := hT.rf (t' := 42) hA0 rfl rfl
  have hF0 : pv_Fr τ [2687, 2751] h h := pv_Fr.rf
  have L17 : ∀ (nn : Nat) (h_17 : pv_H) (xL2_17 : Int), (pv_Ty τ ρ h_17) → (pv_Fr τ [2687, 2751] h h_17) → (0 ≤ x1 ∧ x1 ≤ 2) → (0 ≤ xL2_17 ∧ xL2_17 ≤ 1599) → (0 ≤ x1 ∧ x1 ≤ 2) → (im_l (pv_aI h (ρ a0 2)) (pv_aI h_17 (ρ a0 2)) (pv_aI h (ρ a0 1)) x1 xL2_17) → (pv_aI h_17 (ρ a0 3) = pv_aI h (ρ a0 3)) → 1599 - xL2_17 < nn → pv_T K 183 17 (pv_fl [some (.ref a0), some (.int (pv_I x1)), some (.int (pv_I xL2_17))]) [] h_17 (Q183R τ ρ h a0 x1) := by
    intro nn
    induction nn with
    | zero => intro h_17 xL2_17 hT_17 hF_17 rL1_17 rL2_17 i0_17 i1_17 i2_17 hm; exfalso; omega
    | succ nn ih17 =>
      intro h_17 xL2_17 hT_17 hF_17 rL1_17 rL2_17 i0_17 i1_17 i2_17 hm17
      have ew17 : pv_aI h_17 (ρ a0 1) = pv_aI h (ρ a0 1) := hF_17.aeq hR0_1 (by decide)
      refine pw_iload_n d183_17 rfl ?_
      refine pw_sipush d183_18 (by decide) ?_
      refine pw_icmp_ge d183_21 rfl (by omega) (by omega) (fun c21 => ?_) (fun c21 => ?_)
      · refine pw_aload_n d183_48 rfl ?_
        refine pw_getR d183_49 g183_16 hT_17 hA0 rfl rfl (fun t49 => ?_)
        have t49 : τ (ρ a0 3) = some 42 := t49
        refine pw_iload_n d183_52 rfl ?_
        refine pw_iconst d183_53 ?_
        refine pw_bastZ d183_54 hT_17 t49 rfl rfl rfl (by omega) (by omega) (by omega) (fun h54 T54 F54 E54 => ?_)
        have f54 := hF_17.tr (F54.up (by decide))
        have w55 := (hT.wc hR0_1 (j := 1) rfl (by decide)).2.2.1 (by decide) |>.2
        refine pw_iconst d183_55 ?_
        exact pw_ireturn d183_56 tt183 ⟨T54, f54, 0, rfl, (by omega), (by omega), (by first | exact hP1 | (rw [F54.aeq hR0_2 (by decide)]; exact im_l.ok i1_17 (by omega) (by omega) w55 (im_18 hT hR0_2) hP0 hP1)), (by first | (rw [if_pos (by omega)]; done) | (rw [if_neg (by omega)]; done)), (by first | (intro j; rw [if_neg (by omega)]; done) | exact kp_w (by omega) i2_17 (pe_at E54))⟩
      · refine pw_aload_n d183_24 rfl ?_
        refine pw_getR d183_25 g183_13 hT_17 hA0 rfl rfl (fun t25 => ?_)
        have t25 : τ (ρ a0 2) = some 41 := t25
        refine pw_sipush d183_28 (by decide) ?_
        refine pw_iload_n d183_31 rfl ?_
        refine pw_imul d183_32 ?_
        refine pw_iload_n d183_33 rfl ?_
        refine pw_iadd d183_34 ?_
        refine pw_aload_n d183_35 rfl ?_
        refine pw_getR d183_36 g183_9 hT_17 hA0 rfl rfl (fun t36 => ?_)
        have t36 : τ (ρ a0 1) = some 40 := t36
        refine pw_iload_n d183_39 rfl ?_
        refine pw_ialdB d183_40 hT_17 t36 rfl rfl (by omega) (by omega) (fun u40 => ?_)
        have u40 : pv_wok (xL2_17) (pv_aI h_17 (ρ a0 1) (xL2_17).toNat) := u40
        have vu40 := u40.1
        refine pw_iastB d183_41 hT_17 t25 rfl rfl rfl (by omega) (by omega) (by omega) (by show pv_wok (((1507 * x1) + xL2_17) % 1507) _; rw [show ((1507 * x1) + xL2_17) % 1507 = xL2_17 by omega]; exact u40) (fun h41 T41 F41 E41 => ?_)
        have f41 := hF_17.tr (F41.up (by decide))
        refine pw_iinc d183_42 m183 rfl rfl rfl ?_
        refine pw_goto d183_45 rfl ?_
        exact ih17 h41 ((xL2_17 + 1)) T41 f41 (by omega) (by omega) (by omega) (by first | exact im_l.zero | exact im_l.step i1_17 (by omega) (by omega) (by rw [ew17]) (pe_at E41)) (by first | rfl | exact (F41.aeq hR0_3 (by decide)).trans i2_17) (by omega)
  refine pw_iload_n d183_0 rfl ?_
  refine pw_i2l d183_1 (by omega) ?_
  refine pw_lconst (z := 0) d183_2 (by decide) ?_
  refine pw_ldc2 (v := pv_J 2) d183_3 n183_3 ?_
  refine pw_callS3 d183_6 k183_73 rfl rfl (ct184 (τ := τ) (ρ := ρ) (by omega) (by omega) (by omega)) (fun r6 h6 q6 => ?_)
  obtain ⟨eh6, z6, ez6, lz6, uz6, pz6_0⟩ := q6
  subst eh6
  subst ez6
  refine pw_if_ne d183_9 rfl (by omega) (fun c9 => ?_) (fun c9 => ?_)
  · refine pw_iconst d183_15 ?_
    refine pw_istore_n d183_16 m183 rfl rfl ?_
    exact L17 _ h (0) hT hF0 (by omega) (by omega) (by omega) (by first | exact im_l.zero | exact im_l.step i1_17 (by omega) (by omega) (by rw [ew17]) (pe_at E41)) (by first | rfl | exact (F41.aeq hR0_3 (by decide)).trans i2_17) (pv_mu _)
  · refine pw_bipush d183_12 (by decide) ?_
    exact pw_ireturn d183_14 tt183 ⟨hT, hF0, (-2), rfl, (by omega), (by omega), (by first | exact hP1 | (rw [F54.aeq hR0_2 (by decide)]; exact im_l.ok i1_17 (by omega) (by omega) w55 (im_18 hT hR0_2) hP0 hP1)), (by first | (rw [if_pos (by omega)]; done) | (rw [if_neg (by omega)]; done)), (by first | (intro j; rw [if_neg (by omega)]; done) | exact kp_w (by omega) i2_17 (pe_at E54))⟩
