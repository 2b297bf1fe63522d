abbrev Q8 (τ : Nat → Option Nat) (ρ : Nat → Nat → Nat) (h : pv_H) (a0 : Nat) (x1 : Int) (x2 : Int) (x3 : Int) (x4 : Int) (x5 : Int) : Option Value → pv_H → Prop := fun r h' => pv_Ty τ ρ h' ∧ pv_Fr τ [64, 1983] h h' ∧ ∃ z : Int, r = some (.int (pv_I z)) ∧ 0 ≤ z ∧ z ≤ 1600 ∧ (z = 20)
set_option maxHeartbeats 4000000 in
set_option maxRecDepth 20000 in
/-- AngleNet.feed(IIIII)I -/
theorem ct8 {τ : Nat → Option Nat} {ρ : Nat → Nat → Nat} {K : Nat → Nat} {h : pv_H} {a0 : Nat} {x1 : Int} {x2 : Int} {x3 : Int} {x4 : Int} {x5 : Int} (hT : pv_Ty τ ρ h) (hA0 : τ a0 = some 0) (hX1 : (-2147483648) ≤ x1 ∧ x1 ≤ 2147483647) (hX2 : (-2147483648) ≤ x2 ∧ x2 ≤ 2147483647) (hX3 : (-2147483648) ≤ x3 ∧ x3 ≤ 2147483647) (hX4 : (-2147483648) ≤ x4 ∧ x4 ≤ 2147483647) (hX5 : (-2147483648) ≤ x5 ∧ x5 ≤ 2147483647) (hP0 : pv_fI h (ρ a0 0) 0 = 0) : pv_C K 8 [.ref a0, .int (pv_I x1), .int (pv_I x2), .int (pv_I x3), .int (pv_I x4), .int (pv_I x5)] h (Q8 τ ρ h a0 x1 x2 x3 x4 x5) := by
  refine pw_entry 0 ?_
  show pv_T K 8 0 (pv_fl [some (.ref a0), some (.int (pv_I x1)), some (.int (pv_I x2)), some (.int (pv_I x3)), some (.int (pv_I x4)), some (.int (pv_I x5))]) [] h (Q8 τ ρ h a0 x1 x2 x3 x4 x5)
  have hR0_0 : τ (ρ a0 0) = some 1 := hT.rf (t' := 1) hA0 rfl rfl
  have hF0 : pv_Fr τ [64, 1983] h h := pv_Fr.rf
  refine pw_aload_n d8_0 rfl ?_
  refine pw_getR d8_1 g8_10 hT hA0 rfl rfl (fun t1 => ?_)
  have t1 : τ (ρ a0 0) = some 1 := t1
  refine pw_getI d8_4 g8_62 hT t1 rfl rfl (fun u4 vu4 => ?_)
  refine pw_bipush d8_7 (by decide) ?_
  refine pw_iadd d8_9 ?_
  refine pw_sipush d8_10 (by decide) ?_
  refine pw_icmp_le d8_13 rfl (by omega) (by omega) (fun c13 => ?_) (fun c13 => ?_)
  · refine pw_aload_n d8_18 rfl ?_
    refine pw_getR d8_19 g8_10 hT hA0 rfl rfl (fun t19 => ?_)
    have t19 : τ (ρ a0 0) = some 1 := t19
    refine pw_iload_n d8_22 rfl ?_
    refine pw_callV1 d8_23 k8_66 hT t19 rfl rfl rfl (ct9 (τ := τ) (ρ := ρ) hT t19 (by omega) (by first | assumption | omega)) (fun r23 h23 q23 => ?_)
    obtain ⟨T23, F23, ez23, pz23_0⟩ := q23
    subst ez23
    have f23 := hF0.tr (F23.up (by decide))
    refine pw_aload_n d8_26 rfl ?_
    refine pw_getR d8_27 g8_10 T23 hA0 rfl rfl (fun t27 => ?_)
    have t27 : τ (ρ a0 0) = some 1 := t27
    refine pw_iload_n d8_30 rfl ?_
    refine pw_callV1 d8_31 k8_66 T23 t27 rfl rfl rfl (ct9 (τ := τ) (ρ := ρ) T23 t27 (by omega) (by first | assumption | omega)) (fun r31 h31 q31 => ?_)
    obtain ⟨T31, F31, ez31, pz31_0⟩ := q31
    subst ez31
    have f31 := f23.tr (F31.up (by decide))
    refine pw_aload_n d8_34 rfl ?_
    refine pw_getR d8_35 g8_10 T31 hA0 rfl rfl (fun t35 => ?_)
    have t35 : τ (ρ a0 0) = some 1 := t35
    refine pw_iload_n d8_38 rfl ?_
    refine pw_callV1 d8_39 k8_66 T31 t35 rfl rfl rfl (ct9 (τ := τ) (ρ := ρ) T31 t35 (by omega) (by first | assumption | omega)) (fun r39 h39 q39 => ?_)
    obtain ⟨T39, F39, ez39, pz39_0⟩ := q39
    subst ez39
    have f39 := f31.tr (F39.up (by decide))
    refine pw_aload_n d8_42 rfl ?_
    refine pw_getR d8_43 g8_10 T39 hA0 rfl rfl (fun t43 => ?_)
    have t43 : τ (ρ a0 0) = some 1 := t43
    refine pw_iload d8_46 rfl ?_
    refine pw_callV1 d8_48 k8_66 T39 t43 rfl rfl rfl (ct9 (τ := τ) (ρ := ρ) T39 t43 (by omega) (by first | assumption | omega)) (fun r48 h48 q48 => ?_)
    obtain ⟨T48, F48, ez48, pz48_0⟩ := q48
    subst ez48
    have f48 := f39.tr (F48.up (by decide))
    refine pw_aload_n d8_51 rfl ?_
    refine pw_getR d8_52 g8_10 T48 hA0 rfl rfl (fun t52 => ?_)
    have t52 : τ (ρ a0 0) = some 1 := t52
    refine pw_iload d8_55 rfl ?_
    refine pw_callV1 d8_57 k8_66 T48 t52 rfl rfl rfl (ct9 (τ := τ) (ρ := ρ) T48 t52 (by omega) (by first | assumption | omega)) (fun r57 h57 q57 => ?_)
    obtain ⟨T57, F57, ez57, pz57_0⟩ := q57
    subst ez57
    have f57 := f48.tr (F57.up (by decide))
    refine pw_aload_n d8_60 rfl ?_
    refine pw_getR d8_61 g8_10 T57 hA0 rfl rfl (fun t61 => ?_)
    have t61 : τ (ρ a0 0) = some 1 := t61
    refine pw_getI d8_64 g8_62 T57 t61 rfl rfl (fun u64 vu64 => ?_)
    exact pw_ireturn d8_67 tt8 ⟨T57, f57, (pv_fI h57 (ρ a0 0) 0), rfl, (by omega), (by omega), (by omega)⟩
  · exfalso; omega

abbrev Q10 (τ : Nat → Option Nat) (ρ : Nat → Nat → Nat) (h : pv_H) (a0 : Nat) (x1 : Int) : Option Value → pv_H → Prop := fun r h' => pv_Ty τ ρ h' ∧ pv_Fr τ [64] h h' ∧ ∃ z : Int, r = some (.int (pv_I z)) ∧ (-1) ≤ z ∧ z ≤ 0 ∧ (z = if x1 = 0 then 0 else -1)
set_option maxHeartbeats 4000000 in
set_option maxRecDepth 20000 in
/-- AngleNet.end(I)I -/
theorem ct10 {τ : Nat → Option Nat} {ρ : Nat → Nat → Nat} {K : Nat → Nat} {h : pv_H} {a0 : Nat} {x1 : Int} (hT : pv_Ty τ ρ h) (hA0 : τ a0 = some 0) (hX1 : (-2147483648) ≤ x1 ∧ x1 ≤ 2147483647) (hP0 : pv_fI h (ρ a0 0) 0 = 0) : pv_C K 10 [.ref a0, .int (pv_I x1)] h (Q10 τ ρ h a0 x1) := by
  refine pw_entry 0 ?_
  show pv_T K 10 0 (pv_fl [some (.ref a0), some (.int (pv_I x1))]) [] h (Q10 τ ρ h a0 x1)
  have hR0_0 : τ (ρ a0 0) = some 1 := hT.rf (t' := 1) hA0 rfl rfl
  have hF0 : pv_Fr τ [64] h h := pv_Fr.rf
  refine pw_iload_n d10_0 rfl ?_
  refine pw_if_lt d10_1 rfl (by omega) (fun c1 => ?_) (fun c1 => ?_)
  · refine pw_iconst d10_15 ?_
    exact pw_ireturn d10_16 tt10 ⟨hT, hF0, (-1), rfl, (by omega), (by omega), (by omega)⟩
  · refine pw_iload_n d10_4 rfl ?_
    refine pw_aload_n d10_5 rfl ?_
    refine pw_getR d10_6 g10_10 hT hA0 rfl rfl (fun t6 => ?_)
    have t6 : τ (ρ a0 0) = some 1 := t6
    refine pw_getI d10_9 g10_62 hT t6 rfl rfl (fun u9 vu9 => ?_)
    refine pw_icmp_le d10_12 rfl (by omega) (by omega) (fun c12 => ?_) (fun c12 => ?_)
    · refine pw_aload_n d10_17 rfl ?_
      refine pw_getR d10_18 g10_10 hT hA0 rfl rfl (fun t18 => ?_)
      have t18 : τ (ρ a0 0) = some 1 := t18
      refine pw_iload_n d10_21 rfl ?_
      refine pw_putI d10_22 g10_62 w1_0 hT t18 rfl rfl rfl (by omega) (by omega) (fun h22 T22 F22 E22 => ?_)
      have f22 := hF0.tr (F22.up (by decide))
      refine pw_iload_n d10_25 rfl ?_
      exact pw_ireturn d10_26 tt10 ⟨T22, f22, x1, rfl, (by omega), (by omega), (by omega)⟩
    · refine pw_iconst d10_15 ?_
      exact pw_ireturn d10_16 tt10 ⟨hT, hF0, (-1), rfl, (by omega), (by omega), (by omega)⟩

abbrev Q11 (τ : Nat → Option Nat) (ρ : Nat → Nat → Nat) (h : pv_H) (a0 : Nat) : Option Value → pv_H → Prop := fun r h' => pv_Ty τ ρ h' ∧ pv_Fr τ [64, 65, 66, 69, 70, 71, 74, 128, 129, 130, 131, 132, 142, 143, 1343, 1407, 1471, 1535, 1599, 1663, 1727, 1791, 1855] h h' ∧ ∃ z : Int, r = some (.int (pv_I z)) ∧ (-2147483648) ≤ z ∧ z ≤ 2147483647 ∧ (z = 0)
set_option maxHeartbeats 4000000 in
set_option maxRecDepth 20000 in
/-- AngleNet.net()I -/
theorem ct11 {τ : Nat → Option Nat} {ρ : Nat → Nat → Nat} {K : Nat → Nat} {h : pv_H} {a0 : Nat} (hT : pv_Ty τ ρ h) (hA0 : τ a0 = some 0) (hP0 : pv_fI h (ρ a0 0) 0 = 0) : pv_C K 11 [.ref a0] h (Q11 τ ρ h a0) := by
  refine pw_entry 0 ?_
  show pv_T K 11 0 (pv_fl [some (.ref a0)]) [] h (Q11 τ ρ h a0)
  have hR0_0 : τ (ρ a0 0) = some 1 := hT.rf (t' := 1) hA0 rfl rfl
  have hR0_1 : τ (ρ a0 1) = some 2 := hT.rf (t' := 2) hA0 rfl rfl
  have hF0 : pv_Fr τ [64, 65, 66, 69, 70, 71, 74, 128, 129, 130, 131, 132, 142, 143, 1343, 1407, 1471, 1535, 1599, 1663, 1727, 1791, 1855] h h := pv_Fr.rf
  refine pw_aload_n d11_0 rfl ?_
  refine pw_getR d11_1 g11_10 hT hA0 rfl rfl (fun t1 => ?_)
  have t1 : τ (ρ a0 0) = some 1 := t1
  refine pw_callV0 d11_4 k11_70 hT t1 rfl rfl rfl (ct12 (τ := τ) (ρ := ρ) hT t1 (by first | assumption | omega)) (fun r4 h4 q4 => ?_)
  obtain ⟨T4, F4, z4, ez4, lz4, uz4, pz4_0⟩ := q4
  subst ez4
  have f4 := hF0.tr (F4.up (by decide))
  refine pw_if_ne d11_7 rfl (by omega) (fun c7 => ?_) (fun c7 => ?_)
  · refine pw_aload_n d11_13 rfl ?_
    refine pw_getR d11_14 g11_10 T4 hA0 rfl rfl (fun t14 => ?_)
    have t14 : τ (ρ a0 0) = some 1 := t14
    refine pw_iconst d11_17 ?_
    refine pw_putI d11_18 g11_62 w1_0 T4 t14 rfl rfl rfl (by omega) (by omega) (fun h18 T18 F18 E18 => ?_)
    have f18 := f4.tr (F18.up (by decide))
    refine pw_aload_n d11_21 rfl ?_
    refine pw_getR d11_22 g11_19 T18 hA0 rfl rfl (fun t22 => ?_)
    have t22 : τ (ρ a0 1) = some 2 := t22
    refine pw_aload_n d11_25 rfl ?_
    refine pw_getR d11_26 g11_10 T18 hA0 rfl rfl (fun t26 => ?_)
    have t26 : τ (ρ a0 0) = some 1 := t26
    refine pw_getR d11_29 g11_74 T18 t26 rfl rfl (fun t29 => ?_)
    have t29 : τ (ρ (ρ a0 0) 3) = some 2 := t29
    have y32 := ((F18 (ρ (ρ a0 0) 3) 2 t29).1 2 (by decide)).1
    refine pw_callV1 d11_32 k11_77 T18 t22 rfl rfl rfl (ct52 (τ := τ) (ρ := ρ) T18 t22 t29) (fun r32 h32 q32 => ?_)
    obtain ⟨T32, F32, ez32, pz32_0⟩ := q32
    subst ez32
    have f32 := f18.tr (F32.up (by decide))
    have q32b := ((F32 (ρ a0 0) 1 t26).1 0 (by decide)).1
    refine pw_aload_n d11_35 rfl ?_
    refine pw_getR d11_36 g11_19 T32 hA0 rfl rfl (fun t36 => ?_)
    have t36 : τ (ρ a0 1) = some 2 := t36
    refine pw_getI d11_39 g11_81 T32 t36 rfl rfl (fun u39 vu39 => ?_)
    exact pw_ireturn d11_42 tt11 ⟨T32, f32, (pv_fI h32 (ρ a0 1) 2), rfl, (by omega), (by omega), (by omega)⟩
  · exfalso; omega

abbrev Q53 (τ : Nat → Option Nat) (ρ : Nat → Nat → Nat) (h : pv_H) (a0 : Nat) (x1 : Int) : Option Value → pv_H → Prop := fun r h' => h = h' ∧ ∃ z : Int, r = some (.int (pv_I z)) ∧ (-1) ≤ z ∧ z ≤ 1600 ∧ (z = if x1 = 0 then 0 else -1)
set_option maxHeartbeats 4000000 in
set_option maxRecDepth 20000 in
/-- AngleNet.fault(I)I -/
theorem ct53 {τ : Nat → Option Nat} {ρ : Nat → Nat → Nat} {K : Nat → Nat} {h : pv_H} {a0 : Nat} {x1 : Int} (hT : pv_Ty τ ρ h) (hA0 : τ a0 = some 0) (hX1 : (-2147483648) ≤ x1 ∧ x1 ≤ 2147483647) (hP0 : pv_fI h (ρ a0 0) 1 = 0) (hP1 : pv_fI h (ρ a0 0) 2 = -1) : pv_C K 53 [.ref a0, .int (pv_I x1)] h (Q53 τ ρ h a0 x1) := by
  refine pw_entry 0 ?_
  show pv_T K 53 0 (pv_fl [some (.ref a0), some (.int (pv_I x1))]) [] h (Q53 τ ρ h a0 x1)
  have hR0_0 : τ (ρ a0 0) = some 1 := hT.rf (t' := 1) hA0 rfl rfl
  refine pw_iload_n d53_0 rfl ?_
  refine pw_if_ne d53_1 rfl (by omega) (fun c1 => ?_) (fun c1 => ?_)
  · refine pw_iload_n d53_12 rfl ?_
    refine pw_iconst d53_13 ?_
    refine pw_icmp_ne d53_14 rfl (by omega) (by omega) (fun c14 => ?_) (fun c14 => ?_)
    · refine pw_iconst d53_27 ?_
      exact pw_ireturn d53_28 tt53 ⟨rfl, (-1), rfl, (by omega), (by omega), (by omega)⟩
    · refine pw_aload_n d53_17 rfl ?_
      refine pw_getR d53_18 g53_10 hT hA0 rfl rfl (fun t18 => ?_)
      have t18 : τ (ρ a0 0) = some 1 := t18
      refine pw_getI d53_21 g53_87 hT t18 rfl rfl (fun u21 vu21 => ?_)
      refine pw_goto d53_24 rfl ?_
      exact pw_ireturn d53_28 tt53 ⟨rfl, (pv_fI h (ρ a0 0) 2), rfl, (by omega), (by omega), (by omega)⟩
  · refine pw_aload_n d53_4 rfl ?_
    refine pw_getR d53_5 g53_10 hT hA0 rfl rfl (fun t5 => ?_)
    have t5 : τ (ρ a0 0) = some 1 := t5
    refine pw_getI d53_8 g53_84 hT t5 rfl rfl (fun u8 vu8 => ?_)
    exact pw_ireturn d53_11 tt53 ⟨rfl, (pv_fI h (ρ a0 0) 1), rfl, (by omega), (by omega), (by omega)⟩

abbrev Q54 (τ : Nat → Option Nat) (ρ : Nat → Nat → Nat) (h : pv_H) (a0 : Nat) (x1 : Int) (x2 : Int) : Option Value → pv_H → Prop := fun r h' => h = h' ∧ ∃ z : Int, r = some (.int (pv_I z)) ∧ (-2) ≤ z ∧ z ≤ (-2)
set_option maxHeartbeats 4000000 in
set_option maxRecDepth 20000 in
/-- AngleNet.third(II)I -/
theorem ct54 {τ : Nat → Option Nat} {ρ : Nat → Nat → Nat} {K : Nat → Nat} {h : pv_H} {a0 : Nat} {x1 : Int} {x2 : Int} (hT : pv_Ty τ ρ h) (hA0 : τ a0 = some 0) (hX1 : (-2147483648) ≤ x1 ∧ x1 ≤ 2147483647) (hX2 : (-2147483648) ≤ x2 ∧ x2 ≤ 2147483647) (hP0 : pv_fI h (ρ a0 1) 1 = 0) : pv_C K 54 [.ref a0, .int (pv_I x1), .int (pv_I x2)] h (Q54 τ ρ h a0 x1 x2) := by
  refine pw_entry 0 ?_
  show pv_T K 54 0 (pv_fl [some (.ref a0), some (.int (pv_I x1)), some (.int (pv_I x2))]) [] h (Q54 τ ρ h a0 x1 x2)
  have hR0_1 : τ (ρ a0 1) = some 2 := hT.rf (t' := 2) hA0 rfl rfl
  refine pw_aload_n d54_0 rfl ?_
  refine pw_getR d54_1 g54_19 hT hA0 rfl rfl (fun t1 => ?_)
  have t1 : τ (ρ a0 1) = some 2 := t1
  refine pw_iload_n d54_4 rfl ?_
  refine pw_callV1 d54_5 k54_90 hT t1 rfl rfl rfl (ct55 (τ := τ) (ρ := ρ) hT t1 (by omega) (by first | assumption | omega)) (fun r5 h5 q5 => ?_)
  obtain ⟨eh5, z5, ez5, lz5, uz5⟩ := q5
  subst eh5
  subst ez5
  refine pw_if_eq d54_8 rfl (by omega) (fun c8 => ?_) (fun c8 => ?_)
  · refine pw_bipush d54_20 (by decide) ?_
    exact pw_ireturn d54_22 tt54 ⟨rfl, (-2), rfl, (by omega), (by omega)⟩
  · exfalso; omega

abbrev Q56 (τ : Nat → Option Nat) (ρ : Nat → Nat → Nat) (h : pv_H) (a0 : Nat) (x1 : Int) (x2 : Int) : Option Value → pv_H → Prop := fun r h' => h = h' ∧ ∃ z : Int, r = some (.int (pv_I z)) ∧ (-2) ≤ z ∧ z ≤ (-2)
set_option maxHeartbeats 4000000 in
set_option maxRecDepth 20000 in
/-- AngleNet.post(II)I -/
theorem ct56 {τ : Nat → Option Nat} {ρ : Nat → Nat → Nat} {K : Nat → Nat} {h : pv_H} {a0 : Nat} {x1 : Int} {x2 : Int} (hT : pv_Ty τ ρ h) (hA0 : τ a0 = some 0) (hX1 : (-2147483648) ≤ x1 ∧ x1 ≤ 2147483647) (hX2 : (-2147483648) ≤ x2 ∧ x2 ≤ 2147483647) (hP0 : pv_fI h (ρ a0 1) 0 = 0) : pv_C K 56 [.ref a0, .int (pv_I x1), .int (pv_I x2)] h (Q56 τ ρ h a0 x1 x2) := by
  refine pw_entry 0 ?_
  show pv_T K 56 0 (pv_fl [some (.ref a0), some (.int (pv_I x1)), some (.int (pv_I x2))]) [] h (Q56 τ ρ h a0 x1 x2)
  have hR0_1 : τ (ρ a0 1) = some 2 := hT.rf (t' := 2) hA0 rfl rfl
  refine pw_aload_n d56_0 rfl ?_
  refine pw_getR d56_1 g56_19 hT hA0 rfl rfl (fun t1 => ?_)
  have t1 : τ (ρ a0 1) = some 2 := t1
  refine pw_iload_n d56_4 rfl ?_
  refine pw_callV1 d56_5 k56_101 hT t1 rfl rfl rfl (ct48 (τ := τ) (ρ := ρ) hT t1 (by omega) (by first | assumption | omega)) (fun r5 h5 q5 => ?_)
  obtain ⟨eh5, z5, ez5, lz5, uz5⟩ := q5
  subst eh5
  subst ez5
  refine pw_if_ne d56_8 rfl (by omega) (fun c8 => ?_) (fun c8 => ?_)
  · exfalso; omega
  · refine pw_bipush d56_11 (by decide) ?_
    exact pw_ireturn d56_13 tt56 ⟨rfl, (-2), rfl, (by omega), (by omega)⟩

abbrev Q60 (τ : Nat → Option Nat) (ρ : Nat → Nat → Nat) (h : pv_H) (a0 : Nat) (x1 : Int) (x2 : Int) : Option Value → pv_H → Prop := fun r h' => h = h' ∧ ∃ z : Int, r = some (.int (pv_I z)) ∧ (-2) ≤ z ∧ z ≤ (-2)
set_option maxHeartbeats 4000000 in
set_option maxRecDepth 20000 in
/-- AngleNet.side(II)I -/
theorem ct60 {τ : Nat → Option Nat} {ρ : Nat → Nat → Nat} {K : Nat → Nat} {h : pv_H} {a0 : Nat} {x1 : Int} {x2 : Int} (hT : pv_Ty τ ρ h) (hA0 : τ a0 = some 0) (hX1 : (-2147483648) ≤ x1 ∧ x1 ≤ 2147483647) (hX2 : (-2147483648) ≤ x2 ∧ x2 ≤ 2147483647) (hP0 : pv_fI h (ρ a0 1) 0 = 0) : pv_C K 60 [.ref a0, .int (pv_I x1), .int (pv_I x2)] h (Q60 τ ρ h a0 x1 x2) := by
  refine pw_entry 0 ?_
  show pv_T K 60 0 (pv_fl [some (.ref a0), some (.int (pv_I x1)), some (.int (pv_I x2))]) [] h (Q60 τ ρ h a0 x1 x2)
  have hR0_1 : τ (ρ a0 1) = some 2 := hT.rf (t' := 2) hA0 rfl rfl
  refine pw_aload_n d60_0 rfl ?_
  refine pw_getR d60_1 g60_19 hT hA0 rfl rfl (fun t1 => ?_)
  have t1 : τ (ρ a0 1) = some 2 := t1
  refine pw_iload_n d60_4 rfl ?_
  refine pw_callV1 d60_5 k60_101 hT t1 rfl rfl rfl (ct48 (τ := τ) (ρ := ρ) hT t1 (by omega) (by first | assumption | omega)) (fun r5 h5 q5 => ?_)
  obtain ⟨eh5, z5, ez5, lz5, uz5⟩ := q5
  subst eh5
  subst ez5
  refine pw_if_eq d60_8 rfl (by omega) (fun c8 => ?_) (fun c8 => ?_)
  · refine pw_bipush d60_27 (by decide) ?_
    exact pw_ireturn d60_29 tt60 ⟨rfl, (-2), rfl, (by omega), (by omega)⟩
  · exfalso; omega

abbrev Q61 (τ : Nat → Option Nat) (ρ : Nat → Nat → Nat) (h : pv_H) (a0 : Nat) (x1 : Int) : Option Value → pv_H → Prop := fun r h' => h = h' ∧ ∃ z : Int, r = some (.int (pv_I z)) ∧ (-1) ≤ z ∧ z ≤ (-1)
set_option maxHeartbeats 4000000 in
set_option maxRecDepth 20000 in
/-- AngleNet.sides(I)I -/
theorem ct61 {τ : Nat → Option Nat} {ρ : Nat → Nat → Nat} {K : Nat → Nat} {h : pv_H} {a0 : Nat} {x1 : Int} (hT : pv_Ty τ ρ h) (hA0 : τ a0 = some 0) (hX1 : (-2147483648) ≤ x1 ∧ x1 ≤ 2147483647) (hP0 : pv_fI h (ρ a0 1) 0 = 0) : pv_C K 61 [.ref a0, .int (pv_I x1)] h (Q61 τ ρ h a0 x1) := by
  refine pw_entry 0 ?_
  show pv_T K 61 0 (pv_fl [some (.ref a0), some (.int (pv_I x1))]) [] h (Q61 τ ρ h a0 x1)
  have hR0_1 : τ (ρ a0 1) = some 2 := hT.rf (t' := 2) hA0 rfl rfl
  refine pw_aload_n d61_0 rfl ?_
  refine pw_getR d61_1 g61_19 hT hA0 rfl rfl (fun t1 => ?_)
  have t1 : τ (ρ a0 1) = some 2 := t1
  refine pw_iload_n d61_4 rfl ?_
  refine pw_callV1 d61_5 k61_126 hT t1 rfl rfl rfl (ct62 (τ := τ) (ρ := ρ) hT t1 (by omega) (by first | assumption | omega)) (fun r5 h5 q5 => ?_)
  obtain ⟨eh5, z5, ez5, lz5, uz5⟩ := q5
  subst eh5
  subst ez5
  exact pw_ireturn d61_8 tt61 ⟨rfl, z5, rfl, (by omega), (by omega)⟩

abbrev Q63 (τ : Nat → Option Nat) (ρ : Nat → Nat → Nat) (h : pv_H) (a0 : Nat) (x1 : Int) : Option Value → pv_H → Prop := fun r h' => h = h' ∧ ∃ z : Int, r = some (.int (pv_I z)) ∧ (-2) ≤ z ∧ z ≤ (-2)
set_option maxHeartbeats 4000000 in
set_option maxRecDepth 20000 in
/-- AngleNet.surface(I)I -/
theorem ct63 {τ : Nat → Option Nat} {ρ : Nat → Nat → Nat} {K : Nat → Nat} {h : pv_H} {a0 : Nat} {x1 : Int} (hT : pv_Ty τ ρ h) (hA0 : τ a0 = some 0) (hX1 : (-2147483648) ≤ x1 ∧ x1 ≤ 2147483647) (hP0 : pv_fI h (ρ a0 1) 0 = 0) : pv_C K 63 [.ref a0, .int (pv_I x1)] h (Q63 τ ρ h a0 x1) := by
  refine pw_entry 0 ?_
  show pv_T K 63 0 (pv_fl [some (.ref a0), some (.int (pv_I x1))]) [] h (Q63 τ ρ h a0 x1)
  have hR0_1 : τ (ρ a0 1) = some 2 := hT.rf (t' := 2) hA0 rfl rfl
  refine pw_aload_n d63_0 rfl ?_
  refine pw_getR d63_1 g63_19 hT hA0 rfl rfl (fun t1 => ?_)
  have t1 : τ (ρ a0 1) = some 2 := t1
  refine pw_callV0 d63_4 k63_129 hT t1 rfl rfl rfl (ct64 (τ := τ) (ρ := ρ) hT t1 (by first | assumption | omega)) (fun r4 h4 q4 => ?_)
  obtain ⟨eh4, z4, ez4, lz4, uz4⟩ := q4
  subst eh4
  subst ez4
  refine pw_if_ne d63_7 rfl (by omega) (fun c7 => ?_) (fun c7 => ?_)
  · exfalso; omega
  · refine pw_bipush d63_10 (by decide) ?_
    exact pw_ireturn d63_12 tt63 ⟨rfl, (-2), rfl, (by omega), (by omega)⟩

abbrev Q84 (τ : Nat → Option Nat) (ρ : Nat → Nat → Nat) (h : pv_H) (a0 : Nat) (x1 : Int) (x2 : Int) : Option Value → pv_H → Prop := fun r h' => h = h' ∧ ∃ z : Int, r = some (.int (pv_I z)) ∧ (-2) ≤ z ∧ z ≤ (-2)
set_option maxHeartbeats 4000000 in
set_option maxRecDepth 20000 in
/-- AngleNet.round(II)I -/
theorem ct84 {τ : Nat → Option Nat} {ρ : Nat → Nat → Nat} {K : Nat → Nat} {h : pv_H} {a0 : Nat} {x1 : Int} {x2 : Int} (hT : pv_Ty τ ρ h) (hA0 : τ a0 = some 0) (hX1 : (-2147483648) ≤ x1 ∧ x1 ≤ 2147483647) (hX2 : (-2147483648) ≤ x2 ∧ x2 ≤ 2147483647) (hP0 : pv_fI h (ρ a0 1) 0 = 0) : pv_C K 84 [.ref a0, .int (pv_I x1), .int (pv_I x2)] h (Q84 τ ρ h a0 x1 x2) := by
  refine pw_entry 0 ?_
  show pv_T K 84 0 (pv_fl [some (.ref a0), some (.int (pv_I x1)), some (.int (pv_I x2))]) [] h (Q84 τ ρ h a0 x1 x2)
  have hR0_1 : τ (ρ a0 1) = some 2 := hT.rf (t' := 2) hA0 rfl rfl
  refine pw_aload_n d84_0 rfl ?_
  refine pw_getR d84_1 g84_19 hT hA0 rfl rfl (fun t1 => ?_)
  have t1 : τ (ρ a0 1) = some 2 := t1
  refine pw_iload_n d84_4 rfl ?_
  refine pw_callV1 d84_5 k84_101 hT t1 rfl rfl rfl (ct48 (τ := τ) (ρ := ρ) hT t1 (by omega) (by first | assumption | omega)) (fun r5 h5 q5 => ?_)
  obtain ⟨eh5, z5, ez5, lz5, uz5⟩ := q5
  subst eh5
  subst ez5
  refine pw_if_ne d84_8 rfl (by omega) (fun c8 => ?_) (fun c8 => ?_)
  · exfalso; omega
  · refine pw_bipush d84_11 (by decide) ?_
    exact pw_ireturn d84_13 tt84 ⟨rfl, (-2), rfl, (by omega), (by omega)⟩

abbrev Q91 (τ : Nat → Option Nat) (ρ : Nat → Nat → Nat) (h : pv_H) (a0 : Nat) : Option Value → pv_H → Prop := fun r h' => h = h' ∧ ∃ z : Int, r = some (.int (pv_I z)) ∧ (-1000000) ≤ z ∧ z ≤ (-1000000)
set_option maxHeartbeats 4000000 in
set_option maxRecDepth 20000 in
/-- AngleNet.over()I -/
theorem ct91 {τ : Nat → Option Nat} {ρ : Nat → Nat → Nat} {K : Nat → Nat} {h : pv_H} {a0 : Nat} (hT : pv_Ty τ ρ h) (hA0 : τ a0 = some 0) (hP0 : pv_fI h (ρ a0 1) 0 = 0) : pv_C K 91 [.ref a0] h (Q91 τ ρ h a0) := by
  refine pw_entry 2 ?_
  show pv_T K 91 0 (pv_fl [some (.ref a0), none, none]) [] h (Q91 τ ρ h a0)
  have hR0_1 : τ (ρ a0 1) = some 2 := hT.rf (t' := 2) hA0 rfl rfl
  refine pw_aload_n d91_0 rfl ?_
  refine pw_getR d91_1 g91_19 hT hA0 rfl rfl (fun t1 => ?_)
  have t1 : τ (ρ a0 1) = some 2 := t1
  refine pw_callV0 d91_4 k91_129 hT t1 rfl rfl rfl (ct64 (τ := τ) (ρ := ρ) hT t1 (by first | assumption | omega)) (fun r4 h4 q4 => ?_)
  obtain ⟨eh4, z4, ez4, lz4, uz4⟩ := q4
  subst eh4
  subst ez4
  refine pw_if_ne d91_7 rfl (by omega) (fun c7 => ?_) (fun c7 => ?_)
  · exfalso; omega
  · refine pw_ldc (v := pv_I (-1000000)) d91_10 n91_10 ?_
    exact pw_ireturn d91_12 tt91 ⟨rfl, (-1000000), rfl, (by omega), (by omega)⟩

abbrev Q92 (τ : Nat → Option Nat) (ρ : Nat → Nat → Nat) (h : pv_H) (a0 : Nat) : Option Value → pv_H → Prop := fun r h' => h = h' ∧ ∃ z : Int, r = some (.int (pv_I z)) ∧ (-2) ≤ z ∧ z ≤ (-2)
set_option maxHeartbeats 4000000 in
set_option maxRecDepth 20000 in
/-- AngleNet.can()I -/
theorem ct92 {τ : Nat → Option Nat} {ρ : Nat → Nat → Nat} {K : Nat → Nat} {h : pv_H} {a0 : Nat} (hT : pv_Ty τ ρ h) (hA0 : τ a0 = some 0) (hP0 : pv_fI h (ρ a0 1) 0 = 0) : pv_C K 92 [.ref a0] h (Q92 τ ρ h a0) := by
  refine pw_entry 0 ?_
  show pv_T K 92 0 (pv_fl [some (.ref a0)]) [] h (Q92 τ ρ h a0)
  have hR0_1 : τ (ρ a0 1) = some 2 := hT.rf (t' := 2) hA0 rfl rfl
  refine pw_aload_n d92_0 rfl ?_
  refine pw_getR d92_1 g92_19 hT hA0 rfl rfl (fun t1 => ?_)
  have t1 : τ (ρ a0 1) = some 2 := t1
  refine pw_callV0 d92_4 k92_129 hT t1 rfl rfl rfl (ct64 (τ := τ) (ρ := ρ) hT t1 (by first | assumption | omega)) (fun r4 h4 q4 => ?_)
  obtain ⟨eh4, z4, ez4, lz4, uz4⟩ := q4
  subst eh4
  subst ez4
  refine pw_if_ne d92_7 rfl (by omega) (fun c7 => ?_) (fun c7 => ?_)
  · exfalso; omega
  · refine pw_bipush d92_10 (by decide) ?_
    exact pw_ireturn d92_12 tt92 ⟨rfl, (-2), rfl, (by omega), (by omega)⟩

abbrev Q103 (τ : Nat → Option Nat) (ρ : Nat → Nat → Nat) (h : pv_H) (a0 : Nat) (x1 : Int) : Option Value → pv_H → Prop := fun r h' => h = h' ∧ ∃ z : Int, r = some (.int (pv_I z)) ∧ (-2) ≤ z ∧ z ≤ (-2)
set_option maxHeartbeats 4000000 in
set_option maxRecDepth 20000 in
/-- AngleNet.bars(I)I -/
theorem ct103 {τ : Nat → Option Nat} {ρ : Nat → Nat → Nat} {K : Nat → Nat} {h : pv_H} {a0 : Nat} {x1 : Int} (hT : pv_Ty τ ρ h) (hA0 : τ a0 = some 0) (hX1 : (-2147483648) ≤ x1 ∧ x1 ≤ 2147483647) (hP0 : pv_fI h (ρ a0 1) 0 = 0) : pv_C K 103 [.ref a0, .int (pv_I x1)] h (Q103 τ ρ h a0 x1) := by
  refine pw_entry 1 ?_
  show pv_T K 103 0 (pv_fl [some (.ref a0), some (.int (pv_I x1)), none]) [] h (Q103 τ ρ h a0 x1)
  have hR0_1 : τ (ρ a0 1) = some 2 := hT.rf (t' := 2) hA0 rfl rfl
  refine pw_aload_n d103_0 rfl ?_
  refine pw_getR d103_1 g103_19 hT hA0 rfl rfl (fun t1 => ?_)
  have t1 : τ (ρ a0 1) = some 2 := t1
  refine pw_callV0 d103_4 k103_129 hT t1 rfl rfl rfl (ct64 (τ := τ) (ρ := ρ) hT t1 (by first | assumption | omega)) (fun r4 h4 q4 => ?_)
  obtain ⟨eh4, z4, ez4, lz4, uz4⟩ := q4
  subst eh4
  subst ez4
  refine pw_if_eq d103_7 rfl (by omega) (fun c7 => ?_) (fun c7 => ?_)
  · refine pw_bipush d103_19 (by decide) ?_
    exact pw_ireturn d103_21 tt103 ⟨rfl, (-2), rfl, (by omega), (by omega)⟩
  · exfalso; omega

abbrev Q104 (τ : Nat → Option Nat) (ρ : Nat → Nat → Nat) (h : pv_H) (a0 : Nat) (x1 : Int) (x2 : Int) (x3 : Int) : Option Value → pv_H → Prop := fun r h' => h = h' ∧ ∃ z : Int, r = some (.int (pv_I z)) ∧ (-2) ≤ z ∧ z ≤ (-2)
set_option maxHeartbeats 4000000 in
set_option maxRecDepth 20000 in
/-- AngleNet.range(III)I -/
theorem ct104 {τ : Nat → Option Nat} {ρ : Nat → Nat → Nat} {K : Nat → Nat} {h : pv_H} {a0 : Nat} {x1 : Int} {x2 : Int} {x3 : Int} (hT : pv_Ty τ ρ h) (hA0 : τ a0 = some 0) (hX1 : (-2147483648) ≤ x1 ∧ x1 ≤ 2147483647) (hX2 : (-2147483648) ≤ x2 ∧ x2 ≤ 2147483647) (hX3 : (-2147483648) ≤ x3 ∧ x3 ≤ 2147483647) (hP0 : pv_fI h (ρ a0 1) 1 = 0) : pv_C K 104 [.ref a0, .int (pv_I x1), .int (pv_I x2), .int (pv_I x3)] h (Q104 τ ρ h a0 x1 x2 x3) := by
  refine pw_entry 0 ?_
  show pv_T K 104 0 (pv_fl [some (.ref a0), some (.int (pv_I x1)), some (.int (pv_I x2)), some (.int (pv_I x3))]) [] h (Q104 τ ρ h a0 x1 x2 x3)
  have hR0_1 : τ (ρ a0 1) = some 2 := hT.rf (t' := 2) hA0 rfl rfl
  refine pw_aload_n d104_0 rfl ?_
  refine pw_getR d104_1 g104_19 hT hA0 rfl rfl (fun t1 => ?_)
  have t1 : τ (ρ a0 1) = some 2 := t1
  refine pw_iload_n d104_4 rfl ?_
  refine pw_callV1 d104_5 k104_90 hT t1 rfl rfl rfl (ct55 (τ := τ) (ρ := ρ) hT t1 (by omega) (by first | assumption | omega)) (fun r5 h5 q5 => ?_)
  obtain ⟨eh5, z5, ez5, lz5, uz5⟩ := q5
  subst eh5
  subst ez5
  refine pw_if_eq d104_8 rfl (by omega) (fun c8 => ?_) (fun c8 => ?_)
  · refine pw_bipush d104_29 (by decide) ?_
    exact pw_ireturn d104_31 tt104 ⟨rfl, (-2), rfl, (by omega), (by omega)⟩
  · exfalso; omega

abbrev Q108 (τ : Nat → Option Nat) (ρ : Nat → Nat → Nat) (h : pv_H) (a0 : Nat) (x1 : Int) (x2 : Int) : Option Value → pv_H → Prop := fun r h' => h = h' ∧ ∃ z : Int, r = some (.int (pv_I z)) ∧ (-2) ≤ z ∧ z ≤ (-2)
set_option maxHeartbeats 4000000 in
set_option maxRecDepth 20000 in
/-- AngleNet.tells(II)I -/
theorem ct108 {τ : Nat → Option Nat} {ρ : Nat → Nat → Nat} {K : Nat → Nat} {h : pv_H} {a0 : Nat} {x1 : Int} {x2 : Int} (hT : pv_Ty τ ρ h) (hA0 : τ a0 = some 0) (hX1 : (-2147483648) ≤ x1 ∧ x1 ≤ 2147483647) (hX2 : (-2147483648) ≤ x2 ∧ x2 ≤ 2147483647) (hP0 : pv_fI h (ρ a0 1) 0 = 0) : pv_C K 108 [.ref a0, .int (pv_I x1), .int (pv_I x2)] h (Q108 τ ρ h a0 x1 x2) := by
  refine pw_entry 1 ?_
  show pv_T K 108 0 (pv_fl [some (.ref a0), some (.int (pv_I x1)), some (.int (pv_I x2)), none]) [] h (Q108 τ ρ h a0 x1 x2)
  have hR0_1 : τ (ρ a0 1) = some 2 := hT.rf (t' := 2) hA0 rfl rfl
  refine pw_aload_n d108_0 rfl ?_
  refine pw_getR d108_1 g108_19 hT hA0 rfl rfl (fun t1 => ?_)
  have t1 : τ (ρ a0 1) = some 2 := t1
  refine pw_iload_n d108_4 rfl ?_
  refine pw_callV1 d108_5 k108_101 hT t1 rfl rfl rfl (ct48 (τ := τ) (ρ := ρ) hT t1 (by omega) (by first | assumption | omega)) (fun r5 h5 q5 => ?_)
  obtain ⟨eh5, z5, ez5, lz5, uz5⟩ := q5
  subst eh5
  subst ez5
  refine pw_if_eq d108_8 rfl (by omega) (fun c8 => ?_) (fun c8 => ?_)
  · refine pw_bipush d108_22 (by decide) ?_
    exact pw_ireturn d108_24 tt108 ⟨rfl, (-2), rfl, (by omega), (by omega)⟩
  · exfalso; omega

abbrev Q109 (τ : Nat → Option Nat) (ρ : Nat → Nat → Nat) (h : pv_H) (a0 : Nat) (x1 : Int) (x2 : Int) : Option Value → pv_H → Prop := fun r h' => h = h' ∧ ∃ z : Int, r = some (.int (pv_I z)) ∧ (-2) ≤ z ∧ z ≤ (-2)
set_option maxHeartbeats 4000000 in
set_option maxRecDepth 20000 in
/-- AngleNet.free(II)I -/
theorem ct109 {τ : Nat → Option Nat} {ρ : Nat → Nat → Nat} {K : Nat → Nat} {h : pv_H} {a0 : Nat} {x1 : Int} {x2 : Int} (hT : pv_Ty τ ρ h) (hA0 : τ a0 = some 0) (hX1 : (-2147483648) ≤ x1 ∧ x1 ≤ 2147483647) (hX2 : (-2147483648) ≤ x2 ∧ x2 ≤ 2147483647) (hP0 : pv_fI h (ρ a0 1) 0 = 0) : pv_C K 109 [.ref a0, .int (pv_I x1), .int (pv_I x2)] h (Q109 τ ρ h a0 x1 x2) := by
  refine pw_entry 0 ?_
  show pv_T K 109 0 (pv_fl [some (.ref a0), some (.int (pv_I x1)), some (.int (pv_I x2))]) [] h (Q109 τ ρ h a0 x1 x2)
  have hR0_1 : τ (ρ a0 1) = some 2 := hT.rf (t' := 2) hA0 rfl rfl
  refine pw_aload_n d109_0 rfl ?_
  refine pw_getR d109_1 g109_19 hT hA0 rfl rfl (fun t1 => ?_)
  have t1 : τ (ρ a0 1) = some 2 := t1
  refine pw_iload_n d109_4 rfl ?_
  refine pw_callV1 d109_5 k109_101 hT t1 rfl rfl rfl (ct48 (τ := τ) (ρ := ρ) hT t1 (by omega) (by first | assumption | omega)) (fun r5 h5 q5 => ?_)
  obtain ⟨eh5, z5, ez5, lz5, uz5⟩ := q5
  subst eh5
  subst ez5
  refine pw_if_eq d109_8 rfl (by omega) (fun c8 => ?_) (fun c8 => ?_)
  · refine pw_bipush d109_31 (by decide) ?_
    exact pw_ireturn d109_33 tt109 ⟨rfl, (-2), rfl, (by omega), (by omega)⟩
  · exfalso; omega

abbrev Q111 (τ : Nat → Option Nat) (ρ : Nat → Nat → Nat) (h : pv_H) (a0 : Nat) (x1 : Int) (x2 : Int) (x3 : Int) : Option Value → pv_H → Prop := fun r h' => h = h' ∧ ∃ z : Int, r = some (.int (pv_I z)) ∧ (-1000000) ≤ z ∧ z ≤ (-1000000)
set_option maxHeartbeats 4000000 in
set_option maxRecDepth 20000 in
/-- AngleNet.turn(III)I -/
theorem ct111 {τ : Nat → Option Nat} {ρ : Nat → Nat → Nat} {K : Nat → Nat} {h : pv_H} {a0 : Nat} {x1 : Int} {x2 : Int} {x3 : Int} (hT : pv_Ty τ ρ h) (hA0 : τ a0 = some 0) (hX1 : (-2147483648) ≤ x1 ∧ x1 ≤ 2147483647) (hX2 : (-2147483648) ≤ x2 ∧ x2 ≤ 2147483647) (hX3 : (-2147483648) ≤ x3 ∧ x3 ≤ 2147483647) (hP0 : pv_fI h (ρ a0 1) 0 = 0) : pv_C K 111 [.ref a0, .int (pv_I x1), .int (pv_I x2), .int (pv_I x3)] h (Q111 τ ρ h a0 x1 x2 x3) := by
  refine pw_entry 0 ?_
  show pv_T K 111 0 (pv_fl [some (.ref a0), some (.int (pv_I x1)), some (.int (pv_I x2)), some (.int (pv_I x3))]) [] h (Q111 τ ρ h a0 x1 x2 x3)
  have hR0_1 : τ (ρ a0 1) = some 2 := hT.rf (t' := 2) hA0 rfl rfl
  refine pw_aload_n d111_0 rfl ?_
  refine pw_getR d111_1 g111_19 hT hA0 rfl rfl (fun t1 => ?_)
  have t1 : τ (ρ a0 1) = some 2 := t1
  refine pw_iload_n d111_4 rfl ?_
  refine pw_callV1 d111_5 k111_177 hT t1 rfl rfl rfl (ct112 (τ := τ) (ρ := ρ) hT t1 (by omega) (by first | assumption | omega)) (fun r5 h5 q5 => ?_)
  obtain ⟨eh5, z5, ez5, lz5, uz5⟩ := q5
  subst eh5
  subst ez5
  refine pw_if_eq d111_8 rfl (by omega) (fun c8 => ?_) (fun c8 => ?_)
  · refine pw_ldc (v := pv_I (-1000000)) d111_48 n111_48 ?_
    exact pw_ireturn d111_50 tt111 ⟨rfl, (-1000000), rfl, (by omega), (by omega)⟩
  · exfalso; omega

abbrev Q114 (τ : Nat → Option Nat) (ρ : Nat → Nat → Nat) (h : pv_H) (a0 : Nat) (x1 : Int) (x2 : Int) (x3 : Int) (x4 : Int) : Option Value → pv_H → Prop := fun r h' => h = h' ∧ ∃ z : Int, r = some (.int (pv_I z)) ∧ (-1000000) ≤ z ∧ z ≤ (-1000000)
set_option maxHeartbeats 4000000 in
set_option maxRecDepth 20000 in
/-- AngleNet.inside(IIII)I -/
theorem ct114 {τ : Nat → Option Nat} {ρ : Nat → Nat → Nat} {K : Nat → Nat} {h : pv_H} {a0 : Nat} {x1 : Int} {x2 : Int} {x3 : Int} {x4 : Int} (hT : pv_Ty τ ρ h) (hA0 : τ a0 = some 0) (hX1 : (-2147483648) ≤ x1 ∧ x1 ≤ 2147483647) (hX2 : (-2147483648) ≤ x2 ∧ x2 ≤ 2147483647) (hX3 : (-2147483648) ≤ x3 ∧ x3 ≤ 2147483647) (hX4 : (-2147483648) ≤ x4 ∧ x4 ≤ 2147483647) (hP0 : pv_fI h (ρ a0 1) 0 = 0) : pv_C K 114 [.ref a0, .int (pv_I x1), .int (pv_I x2), .int (pv_I x3), .int (pv_I x4)] h (Q114 τ ρ h a0 x1 x2 x3 x4) := by
  refine pw_entry 1 ?_
  show pv_T K 114 0 (pv_fl [some (.ref a0), some (.int (pv_I x1)), some (.int (pv_I x2)), some (.int (pv_I x3)), some (.int (pv_I x4)), none]) [] h (Q114 τ ρ h a0 x1 x2 x3 x4)
  have hR0_1 : τ (ρ a0 1) = some 2 := hT.rf (t' := 2) hA0 rfl rfl
  refine pw_aload_n d114_0 rfl ?_
  refine pw_getR d114_1 g114_19 hT hA0 rfl rfl (fun t1 => ?_)
  have t1 : τ (ρ a0 1) = some 2 := t1
  refine pw_iload d114_4 rfl ?_
  refine pw_callV1 d114_6 k114_177 hT t1 rfl rfl rfl (ct112 (τ := τ) (ρ := ρ) hT t1 (by omega) (by first | assumption | omega)) (fun r6 h6 q6 => ?_)
  obtain ⟨eh6, z6, ez6, lz6, uz6⟩ := q6
  subst eh6
  subst ez6
  refine pw_if_eq d114_9 rfl (by omega) (fun c9 => ?_) (fun c9 => ?_)
  · refine pw_ldc (v := pv_I (-1000000)) d114_30 n114_30 ?_
    exact pw_ireturn d114_32 tt114 ⟨rfl, (-1000000), rfl, (by omega), (by omega)⟩
  · exfalso; omega

abbrev Q118 (τ : Nat → Option Nat) (ρ : Nat → Nat → Nat) (h : pv_H) (a0 : Nat) (x1 : Int) (x2 : Int) : Option Value → pv_H → Prop := fun r h' => h = h' ∧ ∃ z : Int, r = some (.int (pv_I z)) ∧ (-2) ≤ z ∧ z ≤ (-2)
set_option maxHeartbeats 4000000 in
set_option maxRecDepth 20000 in
/-- AngleNet.may(II)I -/
theorem ct118 {τ : Nat → Option Nat} {ρ : Nat → Nat → Nat} {K : Nat → Nat} {h : pv_H} {a0 : Nat} {x1 : Int} {x2 : Int} (hT : pv_Ty τ ρ h) (hA0 : τ a0 = some 0) (hX1 : (-2147483648) ≤ x1 ∧ x1 ≤ 2147483647) (hX2 : (-2147483648) ≤ x2 ∧ x2 ≤ 2147483647) (hP0 : pv_fI h (ρ a0 1) 0 = 0) : pv_C K 118 [.ref a0, .int (pv_I x1), .int (pv_I x2)] h (Q118 τ ρ h a0 x1 x2) := by
  refine pw_entry 0 ?_
  show pv_T K 118 0 (pv_fl [some (.ref a0), some (.int (pv_I x1)), some (.int (pv_I x2))]) [] h (Q118 τ ρ h a0 x1 x2)
  have hR0_1 : τ (ρ a0 1) = some 2 := hT.rf (t' := 2) hA0 rfl rfl
  refine pw_aload_n d118_0 rfl ?_
  refine pw_getR d118_1 g118_19 hT hA0 rfl rfl (fun t1 => ?_)
  have t1 : τ (ρ a0 1) = some 2 := t1
  refine pw_iload_n d118_4 rfl ?_
  refine pw_iload_n d118_5 rfl ?_
  refine pw_callV2 d118_6 k118_194 hT t1 rfl rfl rfl (ct47 (τ := τ) (ρ := ρ) hT t1 (by omega) (by omega) (by first | assumption | omega)) (fun r6 h6 q6 => ?_)
  obtain ⟨eh6, z6, ez6, lz6, uz6⟩ := q6
  subst eh6
  subst ez6
  refine pw_if_ne d118_9 rfl (by omega) (fun c9 => ?_) (fun c9 => ?_)
  · exfalso; omega
  · refine pw_bipush d118_12 (by decide) ?_
    exact pw_ireturn d118_14 tt118 ⟨rfl, (-2), rfl, (by omega), (by omega)⟩

abbrev Q122 (τ : Nat → Option Nat) (ρ : Nat → Nat → Nat) (h : pv_H) (a0 : Nat) (x1 : Int) (x2 : Int) : Option Value → pv_H → Prop := fun r h' => h = h' ∧ ∃ z : Int, r = some (.int (pv_I z)) ∧ (-2) ≤ z ∧ z ≤ (-2)
set_option maxHeartbeats 4000000 in
set_option maxRecDepth 20000 in
/-- AngleNet.flip(II)I -/
theorem ct122 {τ : Nat → Option Nat} {ρ : Nat → Nat → Nat} {K : Nat → Nat} {h : pv_H} {a0 : Nat} {x1 : Int} {x2 : Int} (hT : pv_Ty τ ρ h) (hA0 : τ a0 = some 0) (hX1 : (-2147483648) ≤ x1 ∧ x1 ≤ 2147483647) (hX2 : (-2147483648) ≤ x2 ∧ x2 ≤ 2147483647) (hP0 : pv_fI h (ρ a0 1) 0 = 0) : pv_C K 122 [.ref a0, .int (pv_I x1), .int (pv_I x2)] h (Q122 τ ρ h a0 x1 x2) := by
  refine pw_entry 0 ?_
  show pv_T K 122 0 (pv_fl [some (.ref a0), some (.int (pv_I x1)), some (.int (pv_I x2))]) [] h (Q122 τ ρ h a0 x1 x2)
  have hR0_1 : τ (ρ a0 1) = some 2 := hT.rf (t' := 2) hA0 rfl rfl
  refine pw_aload_n d122_0 rfl ?_
  refine pw_getR d122_1 g122_19 hT hA0 rfl rfl (fun t1 => ?_)
  have t1 : τ (ρ a0 1) = some 2 := t1
  refine pw_iload_n d122_4 rfl ?_
  refine pw_iload_n d122_5 rfl ?_
  refine pw_callV2 d122_6 k122_194 hT t1 rfl rfl rfl (ct47 (τ := τ) (ρ := ρ) hT t1 (by omega) (by omega) (by first | assumption | omega)) (fun r6 h6 q6 => ?_)
  obtain ⟨eh6, z6, ez6, lz6, uz6⟩ := q6
  subst eh6
  subst ez6
  refine pw_if_ne d122_9 rfl (by omega) (fun c9 => ?_) (fun c9 => ?_)
  · exfalso; omega
  · refine pw_bipush d122_12 (by decide) ?_
    exact pw_ireturn d122_14 tt122 ⟨rfl, (-2), rfl, (by omega), (by omega)⟩

abbrev Q127 (τ : Nat → Option Nat) (ρ : Nat → Nat → Nat) (h : pv_H) (a0 : Nat) : Option Value → pv_H → Prop := fun r h' => h = h' ∧ ∃ z : Int, r = some (.int (pv_I z)) ∧ (-2) ≤ z ∧ z ≤ (-2)
set_option maxHeartbeats 4000000 in
set_option maxRecDepth 20000 in
/-- AngleNet.illegal()I -/
theorem ct127 {τ : Nat → Option Nat} {ρ : Nat → Nat → Nat} {K : Nat → Nat} {h : pv_H} {a0 : Nat} (hT : pv_Ty τ ρ h) (hA0 : τ a0 = some 0) (hP0 : pv_fI h (ρ a0 1) 0 = 0) : pv_C K 127 [.ref a0] h (Q127 τ ρ h a0) := by
  refine pw_entry 0 ?_
  show pv_T K 127 0 (pv_fl [some (.ref a0)]) [] h (Q127 τ ρ h a0)
  have hR0_1 : τ (ρ a0 1) = some 2 := hT.rf (t' := 2) hA0 rfl rfl
  refine pw_aload_n d127_0 rfl ?_
  refine pw_getR d127_1 g127_19 hT hA0 rfl rfl (fun t1 => ?_)
  have t1 : τ (ρ a0 1) = some 2 := t1
  refine pw_callV0 d127_4 k127_129 hT t1 rfl rfl rfl (ct64 (τ := τ) (ρ := ρ) hT t1 (by first | assumption | omega)) (fun r4 h4 q4 => ?_)
  obtain ⟨eh4, z4, ez4, lz4, uz4⟩ := q4
  subst eh4
  subst ez4
  refine pw_if_ne d127_7 rfl (by omega) (fun c7 => ?_) (fun c7 => ?_)
  · exfalso; omega
  · refine pw_bipush d127_10 (by decide) ?_
    exact pw_ireturn d127_12 tt127 ⟨rfl, (-2), rfl, (by omega), (by omega)⟩

abbrev Q129 (τ : Nat → Option Nat) (ρ : Nat → Nat → Nat) (h : pv_H) (a0 : Nat) (x1 : Int) : Option Value → pv_H → Prop := fun r h' => h = h' ∧ ∃ z : Int, r = some (.int (pv_I z)) ∧ (-2) ≤ z ∧ z ≤ (-2)
set_option maxHeartbeats 4000000 in
set_option maxRecDepth 20000 in
/-- AngleNet.legal(I)I -/
theorem ct129 {τ : Nat → Option Nat} {ρ : Nat → Nat → Nat} {K : Nat → Nat} {h : pv_H} {a0 : Nat} {x1 : Int} (hT : pv_Ty τ ρ h) (hA0 : τ a0 = some 0) (hX1 : (-2147483648) ≤ x1 ∧ x1 ≤ 2147483647) (hP0 : pv_fI h (ρ a0 1) 0 = 0) : pv_C K 129 [.ref a0, .int (pv_I x1)] h (Q129 τ ρ h a0 x1) := by
  refine pw_entry 2 ?_
  show pv_T K 129 0 (pv_fl [some (.ref a0), some (.int (pv_I x1)), none, none]) [] h (Q129 τ ρ h a0 x1)
  have hR0_1 : τ (ρ a0 1) = some 2 := hT.rf (t' := 2) hA0 rfl rfl
  refine pw_aload_n d129_0 rfl ?_
  refine pw_getR d129_1 g129_19 hT hA0 rfl rfl (fun t1 => ?_)
  have t1 : τ (ρ a0 1) = some 2 := t1
  refine pw_callV0 d129_4 k129_129 hT t1 rfl rfl rfl (ct64 (τ := τ) (ρ := ρ) hT t1 (by first | assumption | omega)) (fun r4 h4 q4 => ?_)
  obtain ⟨eh4, z4, ez4, lz4, uz4⟩ := q4
  subst eh4
  subst ez4
  refine pw_if_eq d129_7 rfl (by omega) (fun c7 => ?_) (fun c7 => ?_)
  · refine pw_bipush d129_21 (by decide) ?_
    exact pw_ireturn d129_23 tt129 ⟨rfl, (-2), rfl, (by omega), (by omega)⟩
  · exfalso; omega

abbrev Q130 (τ : Nat → Option Nat) (ρ : Nat → Nat → Nat) (h : pv_H) (a0 : Nat) : Option Value → pv_H → Prop := fun r h' => h = h' ∧ ∃ z : Int, r = some (.int (pv_I z)) ∧ 0 ≤ z ∧ z ≤ 0
set_option maxHeartbeats 4000000 in
set_option maxRecDepth 20000 in
/-- AngleNet.undo()I -/
theorem ct130 {τ : Nat → Option Nat} {ρ : Nat → Nat → Nat} {K : Nat → Nat} {h : pv_H} {a0 : Nat} (hT : pv_Ty τ ρ h) (hA0 : τ a0 = some 0) (hP0 : pv_fI h (ρ a0 1) 14 = 0) : pv_C K 130 [.ref a0] h (Q130 τ ρ h a0) := by
  refine pw_entry 0 ?_
  show pv_T K 130 0 (pv_fl [some (.ref a0)]) [] h (Q130 τ ρ h a0)
  have hR0_1 : τ (ρ a0 1) = some 2 := hT.rf (t' := 2) hA0 rfl rfl
  refine pw_aload_n d130_0 rfl ?_
  refine pw_getR d130_1 g130_19 hT hA0 rfl rfl (fun t1 => ?_)
  have t1 : τ (ρ a0 1) = some 2 := t1
  refine pw_callS1 d130_4 k130_223 rfl rfl (ct131 (τ := τ) (ρ := ρ) hT t1 (by first | assumption | omega)) (fun r4 h4 q4 => ?_)
  obtain ⟨eh4, z4, ez4, lz4, uz4⟩ := q4
  subst eh4
  subst ez4
  refine pw_if_eq d130_7 rfl (by omega) (fun c7 => ?_) (fun c7 => ?_)
  · refine pw_iconst d130_14 ?_
    exact pw_ireturn d130_15 tt130 ⟨rfl, 0, rfl, (by omega), (by omega)⟩
  · exfalso; omega

abbrev Q133 (τ : Nat → Option Nat) (ρ : Nat → Nat → Nat) (h : pv_H) (a0 : Nat) : Option Value → pv_H → Prop := fun r h' => h = h' ∧ ∃ z : Int, r = some (.int (pv_I z)) ∧ 0 ≤ z ∧ z ≤ 0
set_option maxHeartbeats 4000000 in
set_option maxRecDepth 20000 in
/-- AngleNet.redo()I -/
theorem ct133 {τ : Nat → Option Nat} {ρ : Nat → Nat → Nat} {K : Nat → Nat} {h : pv_H} {a0 : Nat} (hT : pv_Ty τ ρ h) (hA0 : τ a0 = some 0) (hP0 : pv_fI h (ρ a0 1) 14 = 0) (hP1 : pv_fI h (ρ a0 1) 15 = 0) : pv_C K 133 [.ref a0] h (Q133 τ ρ h a0) := by
  refine pw_entry 0 ?_
  show pv_T K 133 0 (pv_fl [some (.ref a0)]) [] h (Q133 τ ρ h a0)
  have hR0_1 : τ (ρ a0 1) = some 2 := hT.rf (t' := 2) hA0 rfl rfl
  refine pw_aload_n d133_0 rfl ?_
  refine pw_getR d133_1 g133_19 hT hA0 rfl rfl (fun t1 => ?_)
  have t1 : τ (ρ a0 1) = some 2 := t1
  refine pw_callS1 d133_4 k133_226 rfl rfl (ct134 (τ := τ) (ρ := ρ) hT t1 (by first | assumption | omega) (by first | assumption | omega)) (fun r4 h4 q4 => ?_)
  obtain ⟨eh4, z4, ez4, lz4, uz4⟩ := q4
  subst eh4
  subst ez4
  refine pw_if_eq d133_7 rfl (by omega) (fun c7 => ?_) (fun c7 => ?_)
  · refine pw_iconst d133_14 ?_
    exact pw_ireturn d133_15 tt133 ⟨rfl, 0, rfl, (by omega), (by omega)⟩
  · exfalso; omega

abbrev Q135 (τ : Nat → Option Nat) (ρ : Nat → Nat → Nat) (h : pv_H) (a0 : Nat) (x1 : Int) (x2 : Int) : Option Value → pv_H → Prop := fun r h' => h = h' ∧ ∃ z : Int, r = some (.int (pv_I z)) ∧ (-2) ≤ z ∧ z ≤ (-2)
set_option maxHeartbeats 4000000 in
set_option maxRecDepth 20000 in
/-- AngleNet.flips(II)I -/
theorem ct135 {τ : Nat → Option Nat} {ρ : Nat → Nat → Nat} {K : Nat → Nat} {h : pv_H} {a0 : Nat} {x1 : Int} {x2 : Int} (hT : pv_Ty τ ρ h) (hA0 : τ a0 = some 0) (hX1 : (-2147483648) ≤ x1 ∧ x1 ≤ 2147483647) (hX2 : (-2147483648) ≤ x2 ∧ x2 ≤ 2147483647) (hP0 : pv_fI h (ρ a0 1) 0 = 0) : pv_C K 135 [.ref a0, .int (pv_I x1), .int (pv_I x2)] h (Q135 τ ρ h a0 x1 x2) := by
  refine pw_entry 8 ?_
  show pv_T K 135 0 (pv_fl [some (.ref a0), some (.int (pv_I x1)), some (.int (pv_I x2)), none, none, none, none, none, none, none, none]) [] h (Q135 τ ρ h a0 x1 x2)
  have hR0_1 : τ (ρ a0 1) = some 2 := hT.rf (t' := 2) hA0 rfl rfl
  refine pw_aload_n d135_0 rfl ?_
  refine pw_getR d135_1 g135_19 hT hA0 rfl rfl (fun t1 => ?_)
  have t1 : τ (ρ a0 1) = some 2 := t1
  refine pw_callV0 d135_4 k135_229 hT t1 rfl rfl rfl (ct68 (τ := τ) (ρ := ρ) hT t1 (by first | assumption | omega)) (fun r4 h4 q4 => ?_)
  obtain ⟨eh4, z4, ez4, lz4, uz4⟩ := q4
  subst eh4
  subst ez4
  refine pw_istore_n d135_7 m135 rfl rfl ?_
  refine pw_iload_n d135_8 rfl ?_
  refine pw_if_lt d135_9 rfl (by omega) (fun c9 => ?_) (fun c9 => ?_)
  · refine pw_bipush d135_33 (by decide) ?_
    exact pw_ireturn d135_35 tt135 ⟨rfl, (-2), rfl, (by omega), (by omega)⟩
  · refine pw_iload_n d135_12 rfl ?_
    refine pw_ldc (v := pv_I 2000000000) d135_13 n135_13 ?_
    refine pw_icmp_gt d135_15 rfl (by omega) (by omega) (fun c15 => ?_) (fun c15 => ?_)
    · refine pw_bipush d135_33 (by decide) ?_
      exact pw_ireturn d135_35 tt135 ⟨rfl, (-2), rfl, (by omega), (by omega)⟩
    · refine pw_iload_n d135_18 rfl ?_
      refine pw_iconst d135_19 ?_
      refine pw_icmp_lt d135_20 rfl (by omega) (by omega) (fun c20 => ?_) (fun c20 => ?_)
      · refine pw_bipush d135_33 (by decide) ?_
        exact pw_ireturn d135_35 tt135 ⟨rfl, (-2), rfl, (by omega), (by omega)⟩
      · refine pw_iload_n d135_23 rfl ?_
        refine pw_bipush d135_24 (by decide) ?_
        refine pw_icmp_gt d135_26 rfl (by omega) (by omega) (fun c26 => ?_) (fun c26 => ?_)
        · refine pw_bipush d135_33 (by decide) ?_
          exact pw_ireturn d135_35 tt135 ⟨rfl, (-2), rfl, (by omega), (by omega)⟩
        · refine pw_iload_n d135_29 rfl ?_
          refine pw_if_ne d135_30 rfl (by omega) (fun c30 => ?_) (fun c30 => ?_)
          · exfalso; omega
          · refine pw_bipush d135_33 (by decide) ?_
            exact pw_ireturn d135_35 tt135 ⟨rfl, (-2), rfl, (by omega), (by omega)⟩

abbrev Q136 (τ : Nat → Option Nat) (ρ : Nat → Nat → Nat) (h : pv_H) (a0 : Nat) (x1 : Int) (x2 : Int) (x3 : Int) : Option Value → pv_H → Prop := fun r h' => h = h' ∧ ∃ z : Int, r = some (.int (pv_I z)) ∧ (-2) ≤ z ∧ z ≤ (-2)
set_option maxHeartbeats 4000000 in
set_option maxRecDepth 20000 in
/-- AngleNet.weigh(III)I -/
theorem ct136 {τ : Nat → Option Nat} {ρ : Nat → Nat → Nat} {K : Nat → Nat} {h : pv_H} {a0 : Nat} {x1 : Int} {x2 : Int} {x3 : Int} (hT : pv_Ty τ ρ h) (hA0 : τ a0 = some 0) (hX1 : (-2147483648) ≤ x1 ∧ x1 ≤ 2147483647) (hX2 : (-2147483648) ≤ x2 ∧ x2 ≤ 2147483647) (hX3 : (-2147483648) ≤ x3 ∧ x3 ≤ 2147483647) (hP0 : pv_fI h (ρ a0 1) 0 = 0) : pv_C K 136 [.ref a0, .int (pv_I x1), .int (pv_I x2), .int (pv_I x3)] h (Q136 τ ρ h a0 x1 x2 x3) := by
  refine pw_entry 1 ?_
  show pv_T K 136 0 (pv_fl [some (.ref a0), some (.int (pv_I x1)), some (.int (pv_I x2)), some (.int (pv_I x3)), none]) [] h (Q136 τ ρ h a0 x1 x2 x3)
  have hR0_1 : τ (ρ a0 1) = some 2 := hT.rf (t' := 2) hA0 rfl rfl
  refine pw_aload_n d136_0 rfl ?_
  refine pw_getR d136_1 g136_19 hT hA0 rfl rfl (fun t1 => ?_)
  have t1 : τ (ρ a0 1) = some 2 := t1
  refine pw_iload_n d136_4 rfl ?_
  refine pw_iload_n d136_5 rfl ?_
  refine pw_callV2 d136_6 k136_194 hT t1 rfl rfl rfl (ct47 (τ := τ) (ρ := ρ) hT t1 (by omega) (by omega) (by first | assumption | omega)) (fun r6 h6 q6 => ?_)
  obtain ⟨eh6, z6, ez6, lz6, uz6⟩ := q6
  subst eh6
  subst ez6
  refine pw_if_eq d136_9 rfl (by omega) (fun c9 => ?_) (fun c9 => ?_)
  · refine pw_bipush d136_23 (by decide) ?_
    exact pw_ireturn d136_25 tt136 ⟨rfl, (-2), rfl, (by omega), (by omega)⟩
  · exfalso; omega

abbrev Q137 (τ : Nat → Option Nat) (ρ : Nat → Nat → Nat) (h : pv_H) (a0 : Nat) : Option Value → pv_H → Prop := fun r h' => h = h' ∧ ∃ z : Int, r = some (.int (pv_I z)) ∧ (-2) ≤ z ∧ z ≤ (-2)
set_option maxHeartbeats 4000000 in
set_option maxRecDepth 20000 in
/-- AngleNet.inscribed()I -/
theorem ct137 {τ : Nat → Option Nat} {ρ : Nat → Nat → Nat} {K : Nat → Nat} {h : pv_H} {a0 : Nat} (hT : pv_Ty τ ρ h) (hA0 : τ a0 = some 0) (hP0 : pv_fI h (ρ a0 1) 0 = 0) : pv_C K 137 [.ref a0] h (Q137 τ ρ h a0) := by
  refine pw_entry 0 ?_
  show pv_T K 137 0 (pv_fl [some (.ref a0)]) [] h (Q137 τ ρ h a0)
  have hR0_1 : τ (ρ a0 1) = some 2 := hT.rf (t' := 2) hA0 rfl rfl
  refine pw_aload_n d137_0 rfl ?_
  refine pw_getR d137_1 g137_19 hT hA0 rfl rfl (fun t1 => ?_)
  have t1 : τ (ρ a0 1) = some 2 := t1
  refine pw_callV0 d137_4 k137_129 hT t1 rfl rfl rfl (ct64 (τ := τ) (ρ := ρ) hT t1 (by first | assumption | omega)) (fun r4 h4 q4 => ?_)
  obtain ⟨eh4, z4, ez4, lz4, uz4⟩ := q4
  subst eh4
  subst ez4
  refine pw_if_ne d137_7 rfl (by omega) (fun c7 => ?_) (fun c7 => ?_)
  · exfalso; omega
  · refine pw_bipush d137_10 (by decide) ?_
    exact pw_ireturn d137_12 tt137 ⟨rfl, (-2), rfl, (by omega), (by omega)⟩

abbrev Q144 (τ : Nat → Option Nat) (ρ : Nat → Nat → Nat) (h : pv_H) (a0 : Nat) (x1 : Int) : Option Value → pv_H → Prop := fun r h' => h = h' ∧ ∃ z : Int, r = some (.int (pv_I z)) ∧ (-2) ≤ z ∧ z ≤ (-2)
set_option maxHeartbeats 4000000 in
set_option maxRecDepth 20000 in
/-- AngleNet.hinders(I)I -/
theorem ct144 {τ : Nat → Option Nat} {ρ : Nat → Nat → Nat} {K : Nat → Nat} {h : pv_H} {a0 : Nat} {x1 : Int} (hT : pv_Ty τ ρ h) (hA0 : τ a0 = some 0) (hX1 : (-2147483648) ≤ x1 ∧ x1 ≤ 2147483647) (hP0 : pv_fI h (ρ a0 1) 0 = 0) : pv_C K 144 [.ref a0, .int (pv_I x1)] h (Q144 τ ρ h a0 x1) := by
  refine pw_entry 0 ?_
  show pv_T K 144 0 (pv_fl [some (.ref a0), some (.int (pv_I x1))]) [] h (Q144 τ ρ h a0 x1)
  have hR0_1 : τ (ρ a0 1) = some 2 := hT.rf (t' := 2) hA0 rfl rfl
  refine pw_aload_n d144_0 rfl ?_
  refine pw_getR d144_1 g144_19 hT hA0 rfl rfl (fun t1 => ?_)
  have t1 : τ (ρ a0 1) = some 2 := t1
  refine pw_callV0 d144_4 k144_129 hT t1 rfl rfl rfl (ct64 (τ := τ) (ρ := ρ) hT t1 (by first | assumption | omega)) (fun r4 h4 q4 => ?_)
  obtain ⟨eh4, z4, ez4, lz4, uz4⟩ := q4
  subst eh4
  subst ez4
  refine pw_if_eq d144_7 rfl (by omega) (fun c7 => ?_) (fun c7 => ?_)
  · refine pw_bipush d144_19 (by decide) ?_
    exact pw_ireturn d144_21 tt144 ⟨rfl, (-2), rfl, (by omega), (by omega)⟩
  · exfalso; omega

abbrev Q145 (τ : Nat → Option Nat) (ρ : Nat → Nat → Nat) (h : pv_H) (a0 : Nat) (x1 : Int) : Option Value → pv_H → Prop := fun r h' => h = h' ∧ ∃ z : Int, r = some (.int (pv_I z)) ∧ (-2) ≤ z ∧ z ≤ (-2)
set_option maxHeartbeats 4000000 in
set_option maxRecDepth 20000 in
/-- AngleNet.cut(I)I -/
theorem ct145 {τ : Nat → Option Nat} {ρ : Nat → Nat → Nat} {K : Nat → Nat} {h : pv_H} {a0 : Nat} {x1 : Int} (hT : pv_Ty τ ρ h) (hA0 : τ a0 = some 0) (hX1 : (-2147483648) ≤ x1 ∧ x1 ≤ 2147483647) (hP0 : pv_fI h (ρ a0 1) 0 = 0) : pv_C K 145 [.ref a0, .int (pv_I x1)] h (Q145 τ ρ h a0 x1) := by
  refine pw_entry 0 ?_
  show pv_T K 145 0 (pv_fl [some (.ref a0), some (.int (pv_I x1))]) [] h (Q145 τ ρ h a0 x1)
  have hR0_1 : τ (ρ a0 1) = some 2 := hT.rf (t' := 2) hA0 rfl rfl
  refine pw_aload_n d145_0 rfl ?_
  refine pw_getR d145_1 g145_19 hT hA0 rfl rfl (fun t1 => ?_)
  have t1 : τ (ρ a0 1) = some 2 := t1
  refine pw_callV0 d145_4 k145_129 hT t1 rfl rfl rfl (ct64 (τ := τ) (ρ := ρ) hT t1 (by first | assumption | omega)) (fun r4 h4 q4 => ?_)
  obtain ⟨eh4, z4, ez4, lz4, uz4⟩ := q4
  subst eh4
  subst ez4
  refine pw_if_eq d145_7 rfl (by omega) (fun c7 => ?_) (fun c7 => ?_)
  · refine pw_bipush d145_27 (by decide) ?_
    exact pw_ireturn d145_29 tt145 ⟨rfl, (-2), rfl, (by omega), (by omega)⟩
  · exfalso; omega

abbrev Q146 (τ : Nat → Option Nat) (ρ : Nat → Nat → Nat) (h : pv_H) (a0 : Nat) : Option Value → pv_H → Prop := fun r h' => h = h' ∧ ∃ z : Int, r = some (.long (pv_J z)) ∧ (-2) ≤ z ∧ z ≤ (-2)
set_option maxHeartbeats 4000000 in
set_option maxRecDepth 20000 in
/-- AngleNet.trees()J -/
theorem ct146 {τ : Nat → Option Nat} {ρ : Nat → Nat → Nat} {K : Nat → Nat} {h : pv_H} {a0 : Nat} (hT : pv_Ty τ ρ h) (hA0 : τ a0 = some 0) (hP0 : pv_fI h (ρ a0 1) 0 = 0) : pv_C K 146 [.ref a0] h (Q146 τ ρ h a0) := by
  refine pw_entry 2 ?_
  show pv_T K 146 0 (pv_fl [some (.ref a0), none, none]) [] h (Q146 τ ρ h a0)
  have hR0_1 : τ (ρ a0 1) = some 2 := hT.rf (t' := 2) hA0 rfl rfl
  refine pw_aload_n d146_0 rfl ?_
  refine pw_getR d146_1 g146_19 hT hA0 rfl rfl (fun t1 => ?_)
  have t1 : τ (ρ a0 1) = some 2 := t1
  refine pw_callV0 d146_4 k146_129 hT t1 rfl rfl rfl (ct64 (τ := τ) (ρ := ρ) hT t1 (by first | assumption | omega)) (fun r4 h4 q4 => ?_)
  obtain ⟨eh4, z4, ez4, lz4, uz4⟩ := q4
  subst eh4
  subst ez4
  refine pw_if_ne d146_7 rfl (by omega) (fun c7 => ?_) (fun c7 => ?_)
  · exfalso; omega
  · refine pw_ldc2 (v := pv_J (-2)) d146_10 n146_10 ?_
    exact pw_lreturn d146_13 tt146 ⟨rfl, (-2), rfl, (by omega), (by omega)⟩

abbrev Q153 (τ : Nat → Option Nat) (ρ : Nat → Nat → Nat) (h : pv_H) (a0 : Nat) (x1 : Int) (x2 : Int) : Option Value → pv_H → Prop := fun r h' => h = h' ∧ ∃ z : Int, r = some (.int (pv_I z)) ∧ 0 ≤ z ∧ z ≤ 0
set_option maxHeartbeats 4000000 in
set_option maxRecDepth 20000 in
/-- AngleNet.hasFlow(II)Z -/
theorem ct153 {τ : Nat → Option Nat} {ρ : Nat → Nat → Nat} {K : Nat → Nat} {h : pv_H} {a0 : Nat} {x1 : Int} {x2 : Int} (hT : pv_Ty τ ρ h) (hA0 : τ a0 = some 0) (hX1 : (-2147483648) ≤ x1 ∧ x1 ≤ 2147483647) (hX2 : (-2147483648) ≤ x2 ∧ x2 ≤ 2147483647) (hP0 : pv_fI h (ρ a0 1) 0 = 0) : pv_C K 153 [.ref a0, .int (pv_I x1), .int (pv_I x2)] h (Q153 τ ρ h a0 x1 x2) := by
  refine pw_entry 0 ?_
  show pv_T K 153 0 (pv_fl [some (.ref a0), some (.int (pv_I x1)), some (.int (pv_I x2))]) [] h (Q153 τ ρ h a0 x1 x2)
  have hR0_1 : τ (ρ a0 1) = some 2 := hT.rf (t' := 2) hA0 rfl rfl
  refine pw_aload_n d153_0 rfl ?_
  refine pw_getR d153_1 g153_19 hT hA0 rfl rfl (fun t1 => ?_)
  have t1 : τ (ρ a0 1) = some 2 := t1
  refine pw_iload_n d153_4 rfl ?_
  refine pw_callV1 d153_5 k153_101 hT t1 rfl rfl rfl (ct48 (τ := τ) (ρ := ρ) hT t1 (by omega) (by first | assumption | omega)) (fun r5 h5 q5 => ?_)
  obtain ⟨eh5, z5, ez5, lz5, uz5⟩ := q5
  subst eh5
  subst ez5
  refine pw_if_eq d153_8 rfl (by omega) (fun c8 => ?_) (fun c8 => ?_)
  · refine pw_iconst d153_27 ?_
    exact pw_zreturn d153_28 tt153 (by omega) ⟨rfl, 0, rfl, (by omega), (by omega)⟩
  · exfalso; omega

abbrev Q152 (τ : Nat → Option Nat) (ρ : Nat → Nat → Nat) (h : pv_H) (a0 : Nat) (x1 : Int) (x2 : Int) (x3 : Int) : Option Value → pv_H → Prop := fun r h' => h = h' ∧ ∃ z : Int, r = some (.long (pv_J z)) ∧ (-2) ≤ z ∧ z ≤ (-2)
set_option maxHeartbeats 4000000 in
set_option maxRecDepth 20000 in
/-- AngleNet.height(III)J -/
theorem ct152 {τ : Nat → Option Nat} {ρ : Nat → Nat → Nat} {K : Nat → Nat} {h : pv_H} {a0 : Nat} {x1 : Int} {x2 : Int} {x3 : Int} (hT : pv_Ty τ ρ h) (hA0 : τ a0 = some 0) (hX1 : (-2147483648) ≤ x1 ∧ x1 ≤ 2147483647) (hX2 : (-2147483648) ≤ x2 ∧ x2 ≤ 2147483647) (hX3 : (-2147483648) ≤ x3 ∧ x3 ≤ 2147483647) (hP0 : pv_fI h (ρ a0 1) 0 = 0) : pv_C K 152 [.ref a0, .int (pv_I x1), .int (pv_I x2), .int (pv_I x3)] h (Q152 τ ρ h a0 x1 x2 x3) := by
  refine pw_entry 1 ?_
  show pv_T K 152 0 (pv_fl [some (.ref a0), some (.int (pv_I x1)), some (.int (pv_I x2)), some (.int (pv_I x3)), none]) [] h (Q152 τ ρ h a0 x1 x2 x3)
  have hR0_1 : τ (ρ a0 1) = some 2 := hT.rf (t' := 2) hA0 rfl rfl
  refine pw_aload_n d152_0 rfl ?_
  refine pw_getR d152_1 g152_19 hT hA0 rfl rfl (fun t1 => ?_)
  have t1 : τ (ρ a0 1) = some 2 := t1
  refine pw_iload_n d152_4 rfl ?_
  refine pw_callV1 d152_5 k152_101 hT t1 rfl rfl rfl (ct48 (τ := τ) (ρ := ρ) hT t1 (by omega) (by first | assumption | omega)) (fun r5 h5 q5 => ?_)
  obtain ⟨eh5, z5, ez5, lz5, uz5⟩ := q5
  subst eh5
  subst ez5
  refine pw_if_eq d152_8 rfl (by omega) (fun c8 => ?_) (fun c8 => ?_)
  · refine pw_ldc2 (v := pv_J (-2)) d152_20 n152_20 ?_
    exact pw_lreturn d152_23 tt152 ⟨rfl, (-2), rfl, (by omega), (by omega)⟩
  · exfalso; omega

abbrev Q154 (τ : Nat → Option Nat) (ρ : Nat → Nat → Nat) (h : pv_H) (a0 : Nat) (x1 : Int) (x2 : Int) (x3 : Int) : Option Value → pv_H → Prop := fun r h' => h = h' ∧ ∃ z : Int, r = some (.long (pv_J z)) ∧ (-2) ≤ z ∧ z ≤ (-2)
set_option maxHeartbeats 4000000 in
set_option maxRecDepth 20000 in
/-- AngleNet.flow(III)J -/
theorem ct154 {τ : Nat → Option Nat} {ρ : Nat → Nat → Nat} {K : Nat → Nat} {h : pv_H} {a0 : Nat} {x1 : Int} {x2 : Int} {x3 : Int} (hT : pv_Ty τ ρ h) (hA0 : τ a0 = some 0) (hX1 : (-2147483648) ≤ x1 ∧ x1 ≤ 2147483647) (hX2 : (-2147483648) ≤ x2 ∧ x2 ≤ 2147483647) (hX3 : (-2147483648) ≤ x3 ∧ x3 ≤ 2147483647) (hP0 : pv_fI h (ρ a0 1) 0 = 0) : pv_C K 154 [.ref a0, .int (pv_I x1), .int (pv_I x2), .int (pv_I x3)] h (Q154 τ ρ h a0 x1 x2 x3) := by
  refine pw_entry 2 ?_
  show pv_T K 154 0 (pv_fl [some (.ref a0), some (.int (pv_I x1)), some (.int (pv_I x2)), some (.int (pv_I x3)), none, none]) [] h (Q154 τ ρ h a0 x1 x2 x3)
  have hR0_1 : τ (ρ a0 1) = some 2 := hT.rf (t' := 2) hA0 rfl rfl
  refine pw_aload_n d154_0 rfl ?_
  refine pw_iload_n d154_1 rfl ?_
  refine pw_iload_n d154_2 rfl ?_
  refine pw_callV2 d154_3 k154_279 hT hA0 rfl rfl rfl (ct153 (τ := τ) (ρ := ρ) hT hA0 (by omega) (by omega) (by first | assumption | omega)) (fun r3 h3 q3 => ?_)
  obtain ⟨eh3, z3, ez3, lz3, uz3⟩ := q3
  subst eh3
  subst ez3
  refine pw_if_eq d154_6 rfl (by omega) (fun c6 => ?_) (fun c6 => ?_)
  · refine pw_ldc2 (v := pv_J (-2)) d154_18 n154_18 ?_
    exact pw_lreturn d154_21 tt154 ⟨rfl, (-2), rfl, (by omega), (by omega)⟩
  · exfalso; omega

abbrev Q159 (τ : Nat → Option Nat) (ρ : Nat → Nat → Nat) (h : pv_H) (a0 : Nat) (x1 : Int) (x2 : Int) (x3 : Int) (x4 : Int) : Option Value → pv_H → Prop := fun r h' => h = h' ∧ ∃ z : Int, r = some (.long (pv_J z)) ∧ (-1000000) ≤ z ∧ z ≤ (-1000000)
set_option maxHeartbeats 4000000 in
set_option maxRecDepth 20000 in
/-- AngleNet.through(IIII)J -/
theorem ct159 {τ : Nat → Option Nat} {ρ : Nat → Nat → Nat} {K : Nat → Nat} {h : pv_H} {a0 : Nat} {x1 : Int} {x2 : Int} {x3 : Int} {x4 : Int} (hT : pv_Ty τ ρ h) (hA0 : τ a0 = some 0) (hX1 : (-2147483648) ≤ x1 ∧ x1 ≤ 2147483647) (hX2 : (-2147483648) ≤ x2 ∧ x2 ≤ 2147483647) (hX3 : (-2147483648) ≤ x3 ∧ x3 ≤ 2147483647) (hX4 : (-2147483648) ≤ x4 ∧ x4 ≤ 2147483647) (hP0 : pv_fI h (ρ a0 1) 0 = 0) : pv_C K 159 [.ref a0, .int (pv_I x1), .int (pv_I x2), .int (pv_I x3), .int (pv_I x4)] h (Q159 τ ρ h a0 x1 x2 x3 x4) := by
  refine pw_entry 3 ?_
  show pv_T K 159 0 (pv_fl [some (.ref a0), some (.int (pv_I x1)), some (.int (pv_I x2)), some (.int (pv_I x3)), some (.int (pv_I x4)), none, none, none]) [] h (Q159 τ ρ h a0 x1 x2 x3 x4)
  have hR0_1 : τ (ρ a0 1) = some 2 := hT.rf (t' := 2) hA0 rfl rfl
  refine pw_aload_n d159_0 rfl ?_
  refine pw_iload_n d159_1 rfl ?_
  refine pw_iload_n d159_2 rfl ?_
  refine pw_callV2 d159_3 k159_279 hT hA0 rfl rfl rfl (ct153 (τ := τ) (ρ := ρ) hT hA0 (by omega) (by omega) (by first | assumption | omega)) (fun r3 h3 q3 => ?_)
  obtain ⟨eh3, z3, ez3, lz3, uz3⟩ := q3
  subst eh3
  subst ez3
  refine pw_if_eq d159_6 rfl (by omega) (fun c6 => ?_) (fun c6 => ?_)
  · refine pw_ldc2 (v := pv_J (-1000000)) d159_22 n159_22 ?_
    exact pw_lreturn d159_25 tt159 ⟨rfl, (-1000000), rfl, (by omega), (by omega)⟩
  · exfalso; omega

abbrev Q160 (τ : Nat → Option Nat) (ρ : Nat → Nat → Nat) (h : pv_H) (a0 : Nat) (x1 : Int) (x2 : Int) : Option Value → pv_H → Prop := fun r h' => h = h' ∧ ∃ z : Int, r = some (.int (pv_I z)) ∧ (-1000000) ≤ z ∧ z ≤ (-1000000)
set_option maxHeartbeats 4000000 in
set_option maxRecDepth 20000 in
/-- AngleNet.fourth(II)I -/
theorem ct160 {τ : Nat → Option Nat} {ρ : Nat → Nat → Nat} {K : Nat → Nat} {h : pv_H} {a0 : Nat} {x1 : Int} {x2 : Int} (hT : pv_Ty τ ρ h) (hA0 : τ a0 = some 0) (hX1 : (-2147483648) ≤ x1 ∧ x1 ≤ 2147483647) (hX2 : (-2147483648) ≤ x2 ∧ x2 ≤ 2147483647) (hP0 : pv_fI h (ρ a0 1) 1 = 0) : pv_C K 160 [.ref a0, .int (pv_I x1), .int (pv_I x2)] h (Q160 τ ρ h a0 x1 x2) := by
  refine pw_entry 2 ?_
  show pv_T K 160 0 (pv_fl [some (.ref a0), some (.int (pv_I x1)), some (.int (pv_I x2)), none, none]) [] h (Q160 τ ρ h a0 x1 x2)
  have hR0_1 : τ (ρ a0 1) = some 2 := hT.rf (t' := 2) hA0 rfl rfl
  refine pw_aload_n d160_0 rfl ?_
  refine pw_getR d160_1 g160_19 hT hA0 rfl rfl (fun t1 => ?_)
  have t1 : τ (ρ a0 1) = some 2 := t1
  refine pw_iload_n d160_4 rfl ?_
  refine pw_callV1 d160_5 k160_90 hT t1 rfl rfl rfl (ct55 (τ := τ) (ρ := ρ) hT t1 (by omega) (by first | assumption | omega)) (fun r5 h5 q5 => ?_)
  obtain ⟨eh5, z5, ez5, lz5, uz5⟩ := q5
  subst eh5
  subst ez5
  refine pw_if_eq d160_8 rfl (by omega) (fun c8 => ?_) (fun c8 => ?_)
  · refine pw_ldc (v := pv_I (-1000000)) d160_20 n160_20 ?_
    exact pw_ireturn d160_22 tt160 ⟨rfl, (-1000000), rfl, (by omega), (by omega)⟩
  · exfalso; omega

abbrev Q163 (τ : Nat → Option Nat) (ρ : Nat → Nat → Nat) (h : pv_H) (a0 : Nat) : Option Value → pv_H → Prop := fun r h' => h = h' ∧ ∃ z : Int, r = some (.int (pv_I z)) ∧ (-2) ≤ z ∧ z ≤ (-2)
set_option maxHeartbeats 4000000 in
set_option maxRecDepth 20000 in
/-- AngleNet.whole()I -/
theorem ct163 {τ : Nat → Option Nat} {ρ : Nat → Nat → Nat} {K : Nat → Nat} {h : pv_H} {a0 : Nat} (hT : pv_Ty τ ρ h) (hA0 : τ a0 = some 0) (hP0 : pv_fI h (ρ a0 1) 0 = 0) : pv_C K 163 [.ref a0] h (Q163 τ ρ h a0) := by
  refine pw_entry 2 ?_
  show pv_T K 163 0 (pv_fl [some (.ref a0), none, none]) [] h (Q163 τ ρ h a0)
  have hR0_1 : τ (ρ a0 1) = some 2 := hT.rf (t' := 2) hA0 rfl rfl
  refine pw_aload_n d163_0 rfl ?_
  refine pw_getR d163_1 g163_19 hT hA0 rfl rfl (fun t1 => ?_)
  have t1 : τ (ρ a0 1) = some 2 := t1
  refine pw_callV0 d163_4 k163_129 hT t1 rfl rfl rfl (ct64 (τ := τ) (ρ := ρ) hT t1 (by first | assumption | omega)) (fun r4 h4 q4 => ?_)
  obtain ⟨eh4, z4, ez4, lz4, uz4⟩ := q4
  subst eh4
  subst ez4
  refine pw_if_ne d163_7 rfl (by omega) (fun c7 => ?_) (fun c7 => ?_)
  · exfalso; omega
  · refine pw_bipush d163_10 (by decide) ?_
    exact pw_ireturn d163_12 tt163 ⟨rfl, (-2), rfl, (by omega), (by omega)⟩

abbrev Q165 (τ : Nat → Option Nat) (ρ : Nat → Nat → Nat) (h : pv_H) (x0 : Int) : Option Value → pv_H → Prop := fun r h' => h = h' ∧ ∃ z : Int, r = some (.int (pv_I z)) ∧ 0 ≤ z ∧ z ≤ 1 ∧ ((z = 1 ∧ 0 ≤ x0 ∧ x0 ≤ 3) ∨ (z = 0 ∧ (x0 < 0 ∨ 3 < x0)))
set_option maxHeartbeats 4000000 in
set_option maxRecDepth 20000 in
/-- AngleNet.isSlot(I)Z -/
theorem ct165 {τ : Nat → Option Nat} {ρ : Nat → Nat → Nat} {K : Nat → Nat} {h : pv_H} {x0 : Int} (hX0 : (-2147483648) ≤ x0 ∧ x0 ≤ 2147483647) : pv_C K 165 [.int (pv_I x0)] h (Q165 τ ρ h x0) := by
  refine pw_entry 0 ?_
  show pv_T K 165 0 (pv_fl [some (.int (pv_I x0))]) [] h (Q165 τ ρ h x0)
  refine pw_iload_n d165_0 rfl ?_
  refine pw_if_lt d165_1 rfl (by omega) (fun c1 => ?_) (fun c1 => ?_)
  · refine pw_iconst d165_13 ?_
    exact pw_zreturn d165_14 tt165 (by omega) ⟨rfl, 0, rfl, (by omega), (by omega), (by omega)⟩
  · refine pw_iload_n d165_4 rfl ?_
    refine pw_iconst d165_5 ?_
    refine pw_icmp_ge d165_6 rfl (by omega) (by omega) (fun c6 => ?_) (fun c6 => ?_)
    · refine pw_iconst d165_13 ?_
      exact pw_zreturn d165_14 tt165 (by omega) ⟨rfl, 0, rfl, (by omega), (by omega), (by omega)⟩
    · refine pw_iconst d165_9 ?_
      refine pw_goto d165_10 rfl ?_
      exact pw_zreturn d165_14 tt165 (by omega) ⟨rfl, 1, rfl, (by omega), (by omega), (by omega)⟩

abbrev Q164 (τ : Nat → Option Nat) (ρ : Nat → Nat → Nat) (h : pv_H) (a0 : Nat) (x1 : Int) : Option Value → pv_H → Prop := fun r h' => h = h' ∧ ∃ z : Int, r = some (.int (pv_I z)) ∧ (-2) ≤ z ∧ z ≤ (-2)
set_option maxHeartbeats 4000000 in
set_option maxRecDepth 20000 in
/-- AngleNet.judge(I)I -/
theorem ct164 {τ : Nat → Option Nat} {ρ : Nat → Nat → Nat} {K : Nat → Nat} {h : pv_H} {a0 : Nat} {x1 : Int} (hT : pv_Ty τ ρ h) (hA0 : τ a0 = some 0) (hX1 : (-2147483648) ≤ x1 ∧ x1 ≤ 2147483647) (hP0 : pv_fI h (ρ a0 1) 0 = 0) : pv_C K 164 [.ref a0, .int (pv_I x1)] h (Q164 τ ρ h a0 x1) := by
  refine pw_entry 2 ?_
  show pv_T K 164 0 (pv_fl [some (.ref a0), some (.int (pv_I x1)), none, none]) [] h (Q164 τ ρ h a0 x1)
  have hR0_1 : τ (ρ a0 1) = some 2 := hT.rf (t' := 2) hA0 rfl rfl
  refine pw_iload_n d164_0 rfl ?_
  refine pw_callS1 d164_1 k164_306 rfl rfl (ct165 (τ := τ) (ρ := ρ) (by omega)) (fun r1 h1 q1 => ?_)
  obtain ⟨eh1, z1, ez1, lz1, uz1, pz1_0⟩ := q1
  subst eh1
  subst ez1
  refine pw_if_eq d164_4 rfl (by omega) (fun c4 => ?_) (fun c4 => ?_)
  · refine pw_bipush d164_17 (by decide) ?_
    exact pw_ireturn d164_19 tt164 ⟨rfl, (-2), rfl, (by omega), (by omega)⟩
  · refine pw_aload_n d164_7 rfl ?_
    refine pw_getR d164_8 g164_19 hT hA0 rfl rfl (fun t8 => ?_)
    have t8 : τ (ρ a0 1) = some 2 := t8
    refine pw_callV0 d164_11 k164_129 hT t8 rfl rfl rfl (ct64 (τ := τ) (ρ := ρ) hT t8 (by first | assumption | omega)) (fun r11 h11 q11 => ?_)
    obtain ⟨eh11, z11, ez11, lz11, uz11⟩ := q11
    subst eh11
    subst ez11
    refine pw_if_ne d164_14 rfl (by omega) (fun c14 => ?_) (fun c14 => ?_)
    · exfalso; omega
    · refine pw_bipush d164_17 (by decide) ?_
      exact pw_ireturn d164_19 tt164 ⟨rfl, (-2), rfl, (by omega), (by omega)⟩

abbrev Q167 (τ : Nat → Option Nat) (ρ : Nat → Nat → Nat) (h : pv_H) (a0 : Nat) (x1 : Int) : Option Value → pv_H → Prop := fun r h' => h = h' ∧ ∃ z : Int, r = some (.int (pv_I z)) ∧ (-2) ≤ z ∧ z ≤ (-2)
set_option maxHeartbeats 4000000 in
set_option maxRecDepth 20000 in
/-- AngleNet.laid(I)I -/
theorem ct167 {τ : Nat → Option Nat} {ρ : Nat → Nat → Nat} {K : Nat → Nat} {h : pv_H} {a0 : Nat} {x1 : Int} (hT : pv_Ty τ ρ h) (hA0 : τ a0 = some 0) (hX1 : (-2147483648) ≤ x1 ∧ x1 ≤ 2147483647) (hP0 : pv_fI h (ρ a0 1) 0 = 0) : pv_C K 167 [.ref a0, .int (pv_I x1)] h (Q167 τ ρ h a0 x1) := by
  refine pw_entry 4 ?_
  show pv_T K 167 0 (pv_fl [some (.ref a0), some (.int (pv_I x1)), none, none, none, none]) [] h (Q167 τ ρ h a0 x1)
  have hR0_1 : τ (ρ a0 1) = some 2 := hT.rf (t' := 2) hA0 rfl rfl
  refine pw_iload_n d167_0 rfl ?_
  refine pw_callS1 d167_1 k167_306 rfl rfl (ct165 (τ := τ) (ρ := ρ) (by omega)) (fun r1 h1 q1 => ?_)
  obtain ⟨eh1, z1, ez1, lz1, uz1, pz1_0⟩ := q1
  subst eh1
  subst ez1
  refine pw_if_eq d167_4 rfl (by omega) (fun c4 => ?_) (fun c4 => ?_)
  · refine pw_bipush d167_17 (by decide) ?_
    exact pw_ireturn d167_19 tt167 ⟨rfl, (-2), rfl, (by omega), (by omega)⟩
  · refine pw_aload_n d167_7 rfl ?_
    refine pw_getR d167_8 g167_19 hT hA0 rfl rfl (fun t8 => ?_)
    have t8 : τ (ρ a0 1) = some 2 := t8
    refine pw_callV0 d167_11 k167_129 hT t8 rfl rfl rfl (ct64 (τ := τ) (ρ := ρ) hT t8 (by first | assumption | omega)) (fun r11 h11 q11 => ?_)
    obtain ⟨eh11, z11, ez11, lz11, uz11⟩ := q11
    subst eh11
    subst ez11
    refine pw_if_ne d167_14 rfl (by omega) (fun c14 => ?_) (fun c14 => ?_)
    · exfalso; omega
    · refine pw_bipush d167_17 (by decide) ?_
      exact pw_ireturn d167_19 tt167 ⟨rfl, (-2), rfl, (by omega), (by omega)⟩

abbrev Q173 (τ : Nat → Option Nat) (ρ : Nat → Nat → Nat) (h : pv_H) (a0 : Nat) : Option Value → pv_H → Prop := fun r h' => h = h' ∧ ∃ z : Int, r = some (.int (pv_I z)) ∧ 0 ≤ z ∧ z ≤ 0 ∧ (z = 0)
set_option maxHeartbeats 4000000 in
set_option maxRecDepth 20000 in
/-- AngleNet.slotsInUse()I -/
theorem ct173 {τ : Nat → Option Nat} {ρ : Nat → Nat → Nat} {K : Nat → Nat} {h : pv_H} {a0 : Nat} (hT : pv_Ty τ ρ h) (hA0 : τ a0 = some 0) (hP0 : ∀ i : Nat, i < 4 → pv_fI h (ρ (ρ a0 5) i) 0 = 0) : pv_C K 173 [.ref a0] h (Q173 τ ρ h a0) := by
  refine pw_entry 2 ?_
  show pv_T K 173 0 (pv_fl [some (.ref a0), none, none]) [] h (Q173 τ ρ h a0)
  have hR0_5 : τ (ρ a0 5) = some 12 := hT.rf (t' := 12) hA0 rfl rfl
  have L4 : ∀ (nn : Nat) (xL1_4 xL2_4 : Int), (0 ≤ xL1_4 ∧ xL1_4 ≤ 0) → (0 ≤ xL2_4 ∧ xL2_4 ≤ 4) → 4 - xL2_4 < nn → pv_T K 173 4 (pv_fl [some (.ref a0), some (.int (pv_I xL1_4)), some (.int (pv_I xL2_4))]) [] h (Q173 τ ρ h a0) := by
    intro nn
    induction nn with
    | zero => intro xL1_4 xL2_4 rL1_4 rL2_4 hm; exfalso; omega
    | succ nn ih4 =>
      intro xL1_4 xL2_4 rL1_4 rL2_4 hm4
      have J27 : ∀ (xS0_27 : Int) (o1_27 : Option Value), (0 ≤ xL2_4 ∧ xL2_4 ≤ 3) → (0 ≤ xS0_27 ∧ xS0_27 ≤ 0) → (0 ≤ xL1_4 ∧ xL1_4 ≤ 0) → pv_T K 173 27 (pv_fl [some (.ref a0), o1_27, some (.int (pv_I xL2_4))]) [.int (pv_I xS0_27), .int (pv_I xL1_4)] h (Q173 τ ρ h a0) := by
        intro xS0_27 o1_27 rL2_27 rS0_27 rS1_27
        refine pw_iadd d173_27 ?_
        refine pw_istore_n d173_28 m173 rfl rfl ?_
        refine pw_iinc d173_29 m173 rfl rfl rfl ?_
        refine pw_goto d173_32 rfl ?_
        exact ih4 ((xL1_4 + xS0_27)) ((xL2_4 + 1)) (by omega) (by omega) (by omega)
      refine pw_iload_n d173_4 rfl ?_
      refine pw_iconst d173_5 ?_
      refine pw_icmp_ge d173_6 rfl (by omega) (by omega) (fun c6 => ?_) (fun c6 => ?_)
      · refine pw_iload_n d173_35 rfl ?_
        exact pw_ireturn d173_36 tt173 ⟨rfl, xL1_4, rfl, (by omega), (by omega), (by omega)⟩
      · refine pw_iload_n d173_9 rfl ?_
        refine pw_aload_n d173_10 rfl ?_
        refine pw_getR d173_11 g173_36 hT hA0 rfl rfl (fun t11 => ?_)
        have t11 : τ (ρ a0 5) = some 12 := t11
        refine pw_iload_n d173_14 rfl ?_
        refine pw_aald d173_15 hT t11 rfl (by decide) rfl (by omega) (by omega) (fun u15 => ?_)
        have u15 : τ (ρ (ρ a0 5) (xL2_4).toNat) = some 3 := u15
        refine pw_getI d173_16 g173_309 hT u15 rfl rfl (fun u16 vu16 => ?_)
        have y16 := hP0 ((xL2_4).toNat) (by omega)
        refine pw_if_eq d173_19 rfl (by omega) (fun c19 => ?_) (fun c19 => ?_)
        · refine pw_iconst d173_26 ?_
          exact J27 (0) _ (by omega) (by omega) (by omega)
        · exfalso; omega
  refine pw_iconst d173_0 ?_
  refine pw_istore_n d173_1 m173 rfl rfl ?_
  refine pw_iconst d173_2 ?_
  refine pw_istore_n d173_3 m173 rfl rfl ?_
  exact L4 _ (0) (0) (by omega) (by omega) (pv_mu _)

abbrev Q171 (τ : Nat → Option Nat) (ρ : Nat → Nat → Nat) (h : pv_H) (a0 : Nat) (x1 : Int) : Option Value → pv_H → Prop := fun r h' => h = h' ∧ ∃ z : Int, r = some (.int (pv_I z)) ∧ (-1) ≤ z ∧ z ≤ 0 ∧ (z = if 0 ≤ x1 ∧ x1 ≤ 10 then 0 else -1)
set_option maxHeartbeats 4000000 in
set_option maxRecDepth 20000 in
/-- AngleNet.count(I)I -/
theorem ct171 {τ : Nat → Option Nat} {ρ : Nat → Nat → Nat} {K : Nat → Nat} {h : pv_H} {a0 : Nat} {x1 : Int} (hT : pv_Ty τ ρ h) (hA0 : τ a0 = some 0) (hX1 : (-2147483648) ≤ x1 ∧ x1 ≤ 2147483647) (hP0 : pv_fI h (ρ a0 1) 0 = 0) (hP1 : pv_fI h (ρ a0 1) 1 = 0) (hP2 : pv_fI h (ρ a0 1) 2 = 0) (hP3 : pv_fI h (ρ a0 1) 3 = 0) (hP4 : pv_fI h (ρ a0 1) 4 = 0) (hP5 : pv_fI h (ρ a0 1) 14 = 0) (hP6 : pv_fI h (ρ a0 1) 15 = 0) (hP7 : pv_fI h (ρ a0 0) 0 = 0) (hP8 : ∀ i : Nat, i < 4 → pv_fI h (ρ (ρ a0 5) i) 0 = 0) : pv_C K 171 [.ref a0, .int (pv_I x1)] h (Q171 τ ρ h a0 x1) := by
  refine pw_entry 0 ?_
  show pv_T K 171 0 (pv_fl [some (.ref a0), some (.int (pv_I x1))]) [] h (Q171 τ ρ h a0 x1)
  have hR0_1 : τ (ρ a0 1) = some 2 := hT.rf (t' := 2) hA0 rfl rfl
  have hR0_0 : τ (ρ a0 0) = some 1 := hT.rf (t' := 1) hA0 rfl rfl
  refine pw_iload_n d171_0 rfl ?_
  by_cases c1 : x1 < 0 ∨ 10 < x1
  · refine pw_tabOut d171_1 (by omega) c1 rfl ?_
    refine pw_iconst d171_153 ?_
    exact pw_ireturn d171_154 tt171 ⟨rfl, (-1), rfl, (by omega), (by omega), (by omega)⟩
  by_cases c1_0 : x1 = 0
  · refine pw_tabIn (x := x1) d171_1 (by omega) c1 (by rw [c1_0]; rfl) rfl ?_
    refine pw_aload_n d171_60 rfl ?_
    refine pw_getR d171_61 g171_19 hT hA0 rfl rfl (fun t61 => ?_)
    have t61 : τ (ρ a0 1) = some 2 := t61
    refine pw_getI d171_64 g171_160 hT t61 rfl rfl (fun u64 vu64 => ?_)
    exact pw_ireturn d171_67 tt171 ⟨rfl, (pv_fI h (ρ a0 1) 0), rfl, (by omega), (by omega), (by omega)⟩
  by_cases c1_1 : x1 = 1
  · refine pw_tabIn (x := x1) d171_1 (by omega) c1 (by rw [c1_1]; rfl) rfl ?_
    refine pw_aload_n d171_68 rfl ?_
    refine pw_getR d171_69 g171_19 hT hA0 rfl rfl (fun t69 => ?_)
    have t69 : τ (ρ a0 1) = some 2 := t69
    refine pw_getI d171_72 g171_163 hT t69 rfl rfl (fun u72 vu72 => ?_)
    exact pw_ireturn d171_75 tt171 ⟨rfl, (pv_fI h (ρ a0 1) 1), rfl, (by omega), (by omega), (by omega)⟩
  by_cases c1_2 : x1 = 2
  · refine pw_tabIn (x := x1) d171_1 (by omega) c1 (by rw [c1_2]; rfl) rfl ?_
    refine pw_aload_n d171_76 rfl ?_
    refine pw_getR d171_77 g171_19 hT hA0 rfl rfl (fun t77 => ?_)
    have t77 : τ (ρ a0 1) = some 2 := t77
    refine pw_callV0 d171_80 k171_229 hT t77 rfl rfl rfl (ct68 (τ := τ) (ρ := ρ) hT t77 (by first | assumption | omega)) (fun r80 h80 q80 => ?_)
    obtain ⟨eh80, z80, ez80, lz80, uz80⟩ := q80
    subst eh80
    subst ez80
    exact pw_ireturn d171_83 tt171 ⟨rfl, z80, rfl, (by omega), (by omega), (by omega)⟩
  by_cases c1_3 : x1 = 3
  · refine pw_tabIn (x := x1) d171_1 (by omega) c1 (by rw [c1_3]; rfl) rfl ?_
    refine pw_aload_n d171_84 rfl ?_
    refine pw_getR d171_85 g171_19 hT hA0 rfl rfl (fun t85 => ?_)
    have t85 : τ (ρ a0 1) = some 2 := t85
    refine pw_getI d171_88 g171_81 hT t85 rfl rfl (fun u88 vu88 => ?_)
    exact pw_ireturn d171_91 tt171 ⟨rfl, (pv_fI h (ρ a0 1) 2), rfl, (by omega), (by omega), (by omega)⟩
  by_cases c1_4 : x1 = 4
  · refine pw_tabIn (x := x1) d171_1 (by omega) c1 (by rw [c1_4]; rfl) rfl ?_
    refine pw_aload_n d171_92 rfl ?_
    refine pw_getR d171_93 g171_10 hT hA0 rfl rfl (fun t93 => ?_)
    have t93 : τ (ρ a0 0) = some 1 := t93
    refine pw_getI d171_96 g171_62 hT t93 rfl rfl (fun u96 vu96 => ?_)
    exact pw_ireturn d171_99 tt171 ⟨rfl, (pv_fI h (ρ a0 0) 0), rfl, (by omega), (by omega), (by omega)⟩
  by_cases c1_5 : x1 = 5
  · refine pw_tabIn (x := x1) d171_1 (by omega) c1 (by rw [c1_5]; rfl) rfl ?_
    refine pw_aload_n d171_100 rfl ?_
    refine pw_getR d171_101 g171_19 hT hA0 rfl rfl (fun t101 => ?_)
    have t101 : τ (ρ a0 1) = some 2 := t101
    refine pw_getI d171_104 g171_207 hT t101 rfl rfl (fun u104 vu104 => ?_)
    exact pw_ireturn d171_107 tt171 ⟨rfl, (pv_fI h (ρ a0 1) 14), rfl, (by omega), (by omega), (by omega)⟩
  by_cases c1_6 : x1 = 6
  · refine pw_tabIn (x := x1) d171_1 (by omega) c1 (by rw [c1_6]; rfl) rfl ?_
    refine pw_aload_n d171_108 rfl ?_
    refine pw_getR d171_109 g171_19 hT hA0 rfl rfl (fun t109 => ?_)
    have t109 : τ (ρ a0 1) = some 2 := t109
    refine pw_getI d171_112 g171_217 hT t109 rfl rfl (fun u112 vu112 => ?_)
    refine pw_aload_n d171_115 rfl ?_
    refine pw_getR d171_116 g171_19 hT hA0 rfl rfl (fun t116 => ?_)
    have t116 : τ (ρ a0 1) = some 2 := t116
    refine pw_getI d171_119 g171_207 hT t116 rfl rfl (fun u119 vu119 => ?_)
    refine pw_isub d171_122 ?_
    exact pw_ireturn d171_123 tt171 ⟨rfl, ((pv_fI h (ρ a0 1) 15) - (pv_fI h (ρ a0 1) 14)), rfl, (by omega), (by omega), (by omega)⟩
  by_cases c1_7 : x1 = 7
  · refine pw_tabIn (x := x1) d171_1 (by omega) c1 (by rw [c1_7]; rfl) rfl ?_
    refine pw_aload_n d171_124 rfl ?_
    refine pw_getR d171_125 g171_19 hT hA0 rfl rfl (fun t125 => ?_)
    have t125 : τ (ρ a0 1) = some 2 := t125
    refine pw_getI d171_128 g171_335 hT t125 rfl rfl (fun u128 vu128 => ?_)
    exact pw_ireturn d171_131 tt171 ⟨rfl, (pv_fI h (ρ a0 1) 3), rfl, (by omega), (by omega), (by omega)⟩
  by_cases c1_8 : x1 = 8
  · refine pw_tabIn (x := x1) d171_1 (by omega) c1 (by rw [c1_8]; rfl) rfl ?_
    refine pw_aload_n d171_132 rfl ?_
    refine pw_getR d171_133 g171_19 hT hA0 rfl rfl (fun t133 => ?_)
    have t133 : τ (ρ a0 1) = some 2 := t133
    refine pw_getI d171_136 g171_338 hT t133 rfl rfl (fun u136 vu136 => ?_)
    exact pw_ireturn d171_139 tt171 ⟨rfl, (pv_fI h (ρ a0 1) 4), rfl, (by omega), (by omega), (by omega)⟩
  by_cases c1_9 : x1 = 9
  · refine pw_tabIn (x := x1) d171_1 (by omega) c1 (by rw [c1_9]; rfl) rfl ?_
    refine pw_aload_n d171_140 rfl ?_
    refine pw_getR d171_141 g171_19 hT hA0 rfl rfl (fun t141 => ?_)
    have t141 : τ (ρ a0 1) = some 2 := t141
    refine pw_callV0 d171_144 k171_341 hT t141 rfl rfl rfl (ct172 (τ := τ) (ρ := ρ) hT t141 (by first | assumption | omega)) (fun r144 h144 q144 => ?_)
    obtain ⟨eh144, z144, ez144, lz144, uz144⟩ := q144
    subst eh144
    subst ez144
    exact pw_ireturn d171_147 tt171 ⟨rfl, z144, rfl, (by omega), (by omega), (by omega)⟩
  by_cases c1_10 : x1 = 10
  · refine pw_tabIn (x := x1) d171_1 (by omega) c1 (by rw [c1_10]; rfl) rfl ?_
    refine pw_aload_n d171_148 rfl ?_
    refine pw_callV0 d171_149 k171_344 hT hA0 rfl rfl rfl (ct173 (τ := τ) (ρ := ρ) hT hA0 (by first | assumption | omega)) (fun r149 h149 q149 => ?_)
    obtain ⟨eh149, z149, ez149, lz149, uz149, pz149_0⟩ := q149
    subst eh149
    subst ez149
    exact pw_ireturn d171_152 tt171 ⟨rfl, z149, rfl, (by omega), (by omega), (by omega)⟩
  exfalso; omega

abbrev Q174 (τ : Nat → Option Nat) (ρ : Nat → Nat → Nat) (h : pv_H) (a0 : Nat) (x1 : Int) : Option Value → pv_H → Prop := fun r h' => pv_Ty τ ρ h' ∧ pv_Fr τ [128, 129, 130, 131, 132, 142, 143, 767, 1343, 1407, 1471, 1535, 1599, 1663, 1727, 1791, 1855] h h' ∧ ∃ z : Int, r = some (.int (pv_I z)) ∧ (-2) ≤ z ∧ z ≤ 0 ∧ (z = if 0 ≤ x1 ∧ x1 ≤ 2 then 0 else -2)
set_option maxHeartbeats 4000000 in
set_option maxRecDepth 20000 in
/-- AngleNet.keep(I)I -/
theorem ct174 {τ : Nat → Option Nat} {ρ : Nat → Nat → Nat} {K : Nat → Nat} {h : pv_H} {a0 : Nat} {x1 : Int} (hT : pv_Ty τ ρ h) (hA0 : τ a0 = some 0) (hX1 : (-2147483648) ≤ x1 ∧ x1 ≤ 2147483647) : pv_C K 174 [.ref a0, .int (pv_I x1)] h (Q174 τ ρ h a0 x1) := by
  refine pw_entry 0 ?_
  show pv_T K 174 0 (pv_fl [some (.ref a0), some (.int (pv_I x1))]) [] h (Q174 τ ρ h a0 x1)
  have hF0 : pv_Fr τ [128, 129, 130, 131, 132, 142, 143, 767, 1343, 1407, 1471, 1535, 1599, 1663, 1727, 1791, 1855] h h := pv_Fr.rf
  refine pw_iload_n d174_0 rfl ?_
  refine pw_if_lt d174_1 rfl (by omega) (fun c1 => ?_) (fun c1 => ?_)
  · refine pw_bipush d174_9 (by decide) ?_
    exact pw_ireturn d174_11 tt174 ⟨hT, hF0, (-2), rfl, (by omega), (by omega), (by omega)⟩
  · refine pw_iload_n d174_4 rfl ?_
    refine pw_iconst d174_5 ?_
    refine pw_icmp_lt d174_6 rfl (by omega) (by omega) (fun c6 => ?_) (fun c6 => ?_)
    · refine pw_aload_n d174_12 rfl ?_
      refine pw_getR d174_13 g174_26 hT hA0 rfl rfl (fun t13 => ?_)
      have t13 : τ (ρ a0 3) = some 10 := t13
      refine pw_iload_n d174_16 rfl ?_
      refine pw_aald d174_17 hT t13 rfl (by decide) rfl (by omega) (by omega) (fun u17 => ?_)
      have u17 : τ (ρ (ρ a0 3) (x1).toNat) = some 2 := u17
      refine pw_aload_n d174_18 rfl ?_
      refine pw_getR d174_19 g174_19 hT hA0 rfl rfl (fun t19 => ?_)
      have t19 : τ (ρ a0 1) = some 2 := t19
      refine pw_callV1 d174_22 k174_77 hT u17 rfl rfl rfl (ct52 (τ := τ) (ρ := ρ) hT u17 t19) (fun r22 h22 q22 => ?_)
      obtain ⟨T22, F22, ez22, pz22_0⟩ := q22
      subst ez22
      have f22 := hF0.tr (F22.up (by decide))
      refine pw_aload_n d174_25 rfl ?_
      refine pw_getR d174_26 g174_30 T22 hA0 rfl rfl (fun t26 => ?_)
      have t26 : τ (ρ a0 4) = some 11 := t26
      refine pw_iload_n d174_29 rfl ?_
      refine pw_iconst d174_30 ?_
      refine pw_bastZ d174_31 T22 t26 rfl rfl rfl (by omega) (by omega) (by omega) (fun h31 T31 F31 E31 => ?_)
      have f31 := f22.tr (F31.up (by decide))
      refine pw_iconst d174_32 ?_
      exact pw_ireturn d174_33 tt174 ⟨T31, f31, 0, rfl, (by omega), (by omega), (by omega)⟩
    · refine pw_bipush d174_9 (by decide) ?_
      exact pw_ireturn d174_11 tt174 ⟨hT, hF0, (-2), rfl, (by omega), (by omega), (by omega)⟩

abbrev Q175 (τ : Nat → Option Nat) (ρ : Nat → Nat → Nat) (h : pv_H) (a0 : Nat) (x1 : Int) : Option Value → pv_H → Prop := fun r h' => h = h' ∧ ∃ z : Int, r = some (.int (pv_I z)) ∧ (-6) ≤ z ∧ z ≤ (-2) ∧ (z = if 0 ≤ x1 ∧ x1 ≤ 2 then -6 else -2)
set_option maxHeartbeats 4000000 in
set_option maxRecDepth 20000 in
/-- AngleNet.back(I)I -/
theorem ct175 {τ : Nat → Option Nat} {ρ : Nat → Nat → Nat} {K : Nat → Nat} {h : pv_H} {a0 : Nat} {x1 : Int} (hT : pv_Ty τ ρ h) (hA0 : τ a0 = some 0) (hX1 : (-2147483648) ≤ x1 ∧ x1 ≤ 2147483647) (hP0 : ∀ i : Nat, i < 3 → pv_aI h (ρ a0 4) i = 0) : pv_C K 175 [.ref a0, .int (pv_I x1)] h (Q175 τ ρ h a0 x1) := by
  refine pw_entry 0 ?_
  show pv_T K 175 0 (pv_fl [some (.ref a0), some (.int (pv_I x1))]) [] h (Q175 τ ρ h a0 x1)
  have hR0_4 : τ (ρ a0 4) = some 11 := hT.rf (t' := 11) hA0 rfl rfl
  refine pw_iload_n d175_0 rfl ?_
  refine pw_if_lt d175_1 rfl (by omega) (fun c1 => ?_) (fun c1 => ?_)
  · refine pw_bipush d175_9 (by decide) ?_
    exact pw_ireturn d175_11 tt175 ⟨rfl, (-2), rfl, (by omega), (by omega), (by omega)⟩
  · refine pw_iload_n d175_4 rfl ?_
    refine pw_iconst d175_5 ?_
    refine pw_icmp_lt d175_6 rfl (by omega) (by omega) (fun c6 => ?_) (fun c6 => ?_)
    · refine pw_aload_n d175_12 rfl ?_
      refine pw_getR d175_13 g175_30 hT hA0 rfl rfl (fun t13 => ?_)
      have t13 : τ (ρ a0 4) = some 11 := t13
      refine pw_iload_n d175_16 rfl ?_
      refine pw_bald d175_17 hT t13 rfl (by decide) rfl (by omega) (by omega) (fun u17 vu17 => ?_)
      have y17 := hP0 ((x1).toNat) (by omega)
      refine pw_if_ne d175_18 rfl (by omega) (fun c18 => ?_) (fun c18 => ?_)
      · exfalso; omega
      · refine pw_bipush d175_21 (by decide) ?_
        exact pw_ireturn d175_23 tt175 ⟨rfl, (-6), rfl, (by omega), (by omega), (by omega)⟩
    · refine pw_bipush d175_9 (by decide) ?_
      exact pw_ireturn d175_11 tt175 ⟨rfl, (-2), rfl, (by omega), (by omega), (by omega)⟩

abbrev Q177 (τ : Nat → Option Nat) (ρ : Nat → Nat → Nat) (h : pv_H) (a0 : Nat) (x1 : Int) (x2 : Int) : Option Value → pv_H → Prop := fun r h' => pv_Ty τ ρ h' ∧ pv_Fr τ [192, 193, 194, 2047] h h' ∧ r = none
set_option maxHeartbeats 4000000 in
set_option maxRecDepth 20000 in
/-- AngleNet$Row.begin(II)V -/
theorem ct177 {τ : Nat → Option Nat} {ρ : Nat → Nat → Nat} {K : Nat → Nat} {h : pv_H} {a0 : Nat} {x1 : Int} {x2 : Int} (hT : pv_Ty τ ρ h) (hA0 : τ a0 = some 3) (hX1 : 0 ≤ x1 ∧ x1 ≤ 3) (hX2 : 0 ≤ x2 ∧ x2 ≤ 60) : pv_C K 177 [.ref a0, .int (pv_I x1), .int (pv_I x2)] h (Q177 τ ρ h a0 x1 x2) := by
  refine pw_entry 0 ?_
  show pv_T K 177 0 (pv_fl [some (.ref a0), some (.int (pv_I x1)), some (.int (pv_I x2))]) [] h (Q177 τ ρ h a0 x1 x2)
  have hF0 : pv_Fr τ [192, 193, 194, 2047] h h := pv_Fr.rf
  refine pw_aload_n d177_0 rfl ?_
  refine pw_iconst d177_1 ?_
  refine pw_putZ d177_2 g177_15 w3_0 hT hA0 rfl rfl rfl (by omega) (by omega) (fun h2 T2 F2 E2 => ?_)
  have f2 := hF0.tr (F2.up (by decide))
  refine pw_aload_n d177_5 rfl ?_
  refine pw_iload_n d177_6 rfl ?_
  refine pw_putI d177_7 g177_19 w3_1 T2 hA0 rfl rfl rfl (by omega) (by omega) (fun h7 T7 F7 E7 => ?_)
  have f7 := f2.tr (F7.up (by decide))
  have q7 := ((F7 a0 3 hA0).1 0 (by decide)).1
  refine pw_aload_n d177_10 rfl ?_
  refine pw_iload_n d177_11 rfl ?_
  refine pw_putI d177_12 g177_23 w3_2 T7 hA0 rfl rfl rfl (by omega) (by omega) (fun h12 T12 F12 E12 => ?_)
  have f12 := f7.tr (F12.up (by decide))
  have q12 := ((F12 a0 3 hA0).1 0 (by decide)).1
  have q12b := ((F12 a0 3 hA0).1 1 (by decide)).1
  refine pw_aload_n d177_15 rfl ?_
  refine pw_getR d177_16 g177_9 T12 hA0 rfl rfl (fun t16 => ?_)
  have t16 : τ (ρ a0 3) = some 31 := t16
  refine pw_lconst (z := 0) d177_19 (by decide) ?_
  refine pw_callS2 d177_20 k177_26 rfl rfl (ct148v31 (τ := τ) (ρ := ρ) T12 t16 (by omega)) (fun r20 h20 q20 => ?_)
  obtain ⟨T20, F20, ez20⟩ := q20
  subst ez20
  have f20 := f12.tr (F20.up (by decide))
  have q20b := ((F20 a0 3 hA0).1 0 (by decide)).1
  have q20c := ((F20 a0 3 hA0).1 1 (by decide)).1
  have q20d := ((F20 a0 3 hA0).1 2 (by decide)).1
  exact pw_return d177_23 tt177 ⟨T20, f20, rfl⟩

abbrev Q176 (τ : Nat → Option Nat) (ρ : Nat → Nat → Nat) (h : pv_H) (a0 : Nat) (x1 : Int) (x2 : Int) (x3 : Int) : Option Value → pv_H → Prop := fun r h' => pv_Ty τ ρ h' ∧ pv_Fr τ [192, 193, 194, 2047] h h' ∧ ∃ z : Int, r = some (.int (pv_I z)) ∧ (-3) ≤ z ∧ z ≤ 0 ∧ (z = if 0 ≤ x1 ∧ x1 ≤ 3 ∧ 0 ≤ x2 ∧ x2 ≤ 3 ∧ x3 ≤ 60 then (if x3 < 0 then -3 else 0) else -2)
set_option maxHeartbeats 4000000 in
set_option maxRecDepth 20000 in
/-- AngleNet.row(III)I -/
theorem ct176 {τ : Nat → Option Nat} {ρ : Nat → Nat → Nat} {K : Nat → Nat} {h : pv_H} {a0 : Nat} {x1 : Int} {x2 : Int} {x3 : Int} (hT : pv_Ty τ ρ h) (hA0 : τ a0 = some 0) (hX1 : (-2147483648) ≤ x1 ∧ x1 ≤ 2147483647) (hX2 : (-2147483648) ≤ x2 ∧ x2 ≤ 2147483647) (hX3 : (-2147483648) ≤ x3 ∧ x3 ≤ 2147483647) : pv_C K 176 [.ref a0, .int (pv_I x1), .int (pv_I x2), .int (pv_I x3)] h (Q176 τ ρ h a0 x1 x2 x3) := by
  refine pw_entry 0 ?_
  show pv_T K 176 0 (pv_fl [some (.ref a0), some (.int (pv_I x1)), some (.int (pv_I x2)), some (.int (pv_I x3))]) [] h (Q176 τ ρ h a0 x1 x2 x3)
  have hF0 : pv_Fr τ [192, 193, 194, 2047] h h := pv_Fr.rf
  refine pw_iload_n d176_0 rfl ?_
  refine pw_callS1 d176_1 k176_306 rfl rfl (ct165 (τ := τ) (ρ := ρ) (by omega)) (fun r1 h1 q1 => ?_)
  obtain ⟨eh1, z1, ez1, lz1, uz1, pz1_0⟩ := q1
  subst eh1
  subst ez1
  refine pw_if_eq d176_4 rfl (by omega) (fun c4 => ?_) (fun c4 => ?_)
  · refine pw_bipush d176_22 (by decide) ?_
    exact pw_ireturn d176_24 tt176 ⟨hT, hF0, (-2), rfl, (by omega), (by omega), (by omega)⟩
  · refine pw_iload_n d176_7 rfl ?_
    refine pw_if_lt d176_8 rfl (by omega) (fun c8 => ?_) (fun c8 => ?_)
    · refine pw_bipush d176_22 (by decide) ?_
      exact pw_ireturn d176_24 tt176 ⟨hT, hF0, (-2), rfl, (by omega), (by omega), (by omega)⟩
    · refine pw_iload_n d176_11 rfl ?_
      refine pw_iconst d176_12 ?_
      refine pw_icmp_ge d176_13 rfl (by omega) (by omega) (fun c13 => ?_) (fun c13 => ?_)
      · refine pw_bipush d176_22 (by decide) ?_
        exact pw_ireturn d176_24 tt176 ⟨hT, hF0, (-2), rfl, (by omega), (by omega), (by omega)⟩
      · refine pw_iload_n d176_16 rfl ?_
        refine pw_bipush d176_17 (by decide) ?_
        refine pw_icmp_le d176_19 rfl (by omega) (by omega) (fun c19 => ?_) (fun c19 => ?_)
        · refine pw_iload_n d176_25 rfl ?_
          refine pw_if_ge d176_26 rfl (by omega) (fun c26 => ?_) (fun c26 => ?_)
          · refine pw_aload_n d176_32 rfl ?_
            refine pw_getR d176_33 g176_36 hT hA0 rfl rfl (fun t33 => ?_)
            have t33 : τ (ρ a0 5) = some 12 := t33
            refine pw_iload_n d176_36 rfl ?_
            refine pw_aald d176_37 hT t33 rfl (by decide) rfl (by omega) (by omega) (fun u37 => ?_)
            have u37 : τ (ρ (ρ a0 5) (x1).toNat) = some 3 := u37
            refine pw_iload_n d176_38 rfl ?_
            refine pw_iload_n d176_39 rfl ?_
            refine pw_callV2 d176_40 k176_347 hT u37 rfl rfl rfl (ct177 (τ := τ) (ρ := ρ) hT u37 (by omega) (by omega)) (fun r40 h40 q40 => ?_)
            obtain ⟨T40, F40, ez40⟩ := q40
            subst ez40
            have f40 := hF0.tr (F40.up (by decide))
            refine pw_iconst d176_43 ?_
            exact pw_ireturn d176_44 tt176 ⟨T40, f40, 0, rfl, (by omega), (by omega), (by omega)⟩
          · refine pw_bipush d176_29 (by decide) ?_
            exact pw_ireturn d176_31 tt176 ⟨hT, hF0, (-3), rfl, (by omega), (by omega), (by omega)⟩
        · refine pw_bipush d176_22 (by decide) ?_
          exact pw_ireturn d176_24 tt176 ⟨hT, hF0, (-2), rfl, (by omega), (by omega), (by omega)⟩

abbrev Q178 (τ : Nat → Option Nat) (ρ : Nat → Nat → Nat) (h : pv_H) (a0 : Nat) (x1 : Int) (x2 : Int) (x3 : Int) : Option Value → pv_H → Prop := fun r h' => h = h' ∧ ∃ z : Int, r = some (.int (pv_I z)) ∧ (-6) ≤ z ∧ z ≤ (-2) ∧ (z = if 0 ≤ x1 ∧ x1 ≤ 3 then -6 else -2)
set_option maxHeartbeats 4000000 in
set_option maxRecDepth 20000 in
/-- AngleNet.write(IIJ)I -/
theorem ct178 {τ : Nat → Option Nat} {ρ : Nat → Nat → Nat} {K : Nat → Nat} {h : pv_H} {a0 : Nat} {x1 : Int} {x2 : Int} {x3 : Int} (hT : pv_Ty τ ρ h) (hA0 : τ a0 = some 0) (hX1 : (-2147483648) ≤ x1 ∧ x1 ≤ 2147483647) (hX2 : (-2147483648) ≤ x2 ∧ x2 ≤ 2147483647) (hX3 : (-9223372036854775808) ≤ x3 ∧ x3 ≤ 9223372036854775807) (hP0 : ∀ i : Nat, i < 4 → pv_fI h (ρ (ρ a0 5) i) 0 = 0) : pv_C K 178 [.ref a0, .int (pv_I x1), .int (pv_I x2), .long (pv_J x3)] h (Q178 τ ρ h a0 x1 x2 x3) := by
  refine pw_entry 1 ?_
  show pv_T K 178 0 (pv_fl [some (.ref a0), some (.int (pv_I x1)), some (.int (pv_I x2)), some (.long (pv_J x3)), none, none]) [] h (Q178 τ ρ h a0 x1 x2 x3)
  have hR0_5 : τ (ρ a0 5) = some 12 := hT.rf (t' := 12) hA0 rfl rfl
  refine pw_iload_n d178_0 rfl ?_
  refine pw_callS1 d178_1 k178_306 rfl rfl (ct165 (τ := τ) (ρ := ρ) (by omega)) (fun r1 h1 q1 => ?_)
  obtain ⟨eh1, z1, ez1, lz1, uz1, pz1_0⟩ := q1
  subst eh1
  subst ez1
  refine pw_if_ne d178_4 rfl (by omega) (fun c4 => ?_) (fun c4 => ?_)
  · refine pw_aload_n d178_10 rfl ?_
    refine pw_getR d178_11 g178_36 hT hA0 rfl rfl (fun t11 => ?_)
    have t11 : τ (ρ a0 5) = some 12 := t11
    refine pw_iload_n d178_14 rfl ?_
    refine pw_aald d178_15 hT t11 rfl (by decide) rfl (by omega) (by omega) (fun u15 => ?_)
    have u15 : τ (ρ (ρ a0 5) (x1).toNat) = some 3 := u15
    refine pw_astore d178_16 m178 rfl rfl ?_
    refine pw_aload d178_18 rfl ?_
    refine pw_getI d178_20 g178_309 hT u15 rfl rfl (fun u20 vu20 => ?_)
    have y20 := hP0 ((x1).toNat) (by omega)
    refine pw_if_ne d178_23 rfl (by omega) (fun c23 => ?_) (fun c23 => ?_)
    · exfalso; omega
    · refine pw_bipush d178_26 (by decide) ?_
      exact pw_ireturn d178_28 tt178 ⟨rfl, (-6), rfl, (by omega), (by omega), (by omega)⟩
  · refine pw_bipush d178_7 (by decide) ?_
    exact pw_ireturn d178_9 tt178 ⟨rfl, (-2), rfl, (by omega), (by omega), (by omega)⟩

abbrev Q180 (τ : Nat → Option Nat) (ρ : Nat → Nat → Nat) (h : pv_H) (a0 : Nat) (x1 : Int) (x2 : Int) (x3 : Int) (x4 : Int) (x5 : Int) : Option Value → pv_H → Prop := fun r h' => h = h' ∧ ∃ z : Int, r = some (.int (pv_I z)) ∧ (-6) ≤ z ∧ z ≤ (-2) ∧ (z = if 0 ≤ x1 ∧ x1 ≤ 3 ∧ 0 ≤ x3 ∧ x3 ≤ 3 then -6 else -2)
set_option maxHeartbeats 4000000 in
set_option maxRecDepth 20000 in
/-- AngleNet.paste(IIIII)I -/
theorem ct180 {τ : Nat → Option Nat} {ρ : Nat → Nat → Nat} {K : Nat → Nat} {h : pv_H} {a0 : Nat} {x1 : Int} {x2 : Int} {x3 : Int} {x4 : Int} {x5 : Int} (hT : pv_Ty τ ρ h) (hA0 : τ a0 = some 0) (hX1 : (-2147483648) ≤ x1 ∧ x1 ≤ 2147483647) (hX2 : (-2147483648) ≤ x2 ∧ x2 ≤ 2147483647) (hX3 : (-2147483648) ≤ x3 ∧ x3 ≤ 2147483647) (hX4 : (-2147483648) ≤ x4 ∧ x4 ≤ 2147483647) (hX5 : (-2147483648) ≤ x5 ∧ x5 ≤ 2147483647) (hP0 : ∀ i : Nat, i < 4 → pv_fI h (ρ (ρ a0 5) i) 0 = 0) : pv_C K 180 [.ref a0, .int (pv_I x1), .int (pv_I x2), .int (pv_I x3), .int (pv_I x4), .int (pv_I x5)] h (Q180 τ ρ h a0 x1 x2 x3 x4 x5) := by
  refine pw_entry 2 ?_
  show pv_T K 180 0 (pv_fl [some (.ref a0), some (.int (pv_I x1)), some (.int (pv_I x2)), some (.int (pv_I x3)), some (.int (pv_I x4)), some (.int (pv_I x5)), none, none]) [] h (Q180 τ ρ h a0 x1 x2 x3 x4 x5)
  have hR0_5 : τ (ρ a0 5) = some 12 := hT.rf (t' := 12) hA0 rfl rfl
  refine pw_iload_n d180_0 rfl ?_
  refine pw_callS1 d180_1 k180_306 rfl rfl (ct165 (τ := τ) (ρ := ρ) (by omega)) (fun r1 h1 q1 => ?_)
  obtain ⟨eh1, z1, ez1, lz1, uz1, pz1_0⟩ := q1
  subst eh1
  subst ez1
  refine pw_if_eq d180_4 rfl (by omega) (fun c4 => ?_) (fun c4 => ?_)
  · refine pw_bipush d180_14 (by decide) ?_
    exact pw_ireturn d180_16 tt180 ⟨rfl, (-2), rfl, (by omega), (by omega), (by omega)⟩
  · refine pw_iload_n d180_7 rfl ?_
    refine pw_callS1 d180_8 k180_306 rfl rfl (ct165 (τ := τ) (ρ := ρ) (by omega)) (fun r8 h8 q8 => ?_)
    obtain ⟨eh8, z8, ez8, lz8, uz8, pz8_0⟩ := q8
    subst eh8
    subst ez8
    refine pw_if_ne d180_11 rfl (by omega) (fun c11 => ?_) (fun c11 => ?_)
    · refine pw_aload_n d180_17 rfl ?_
      refine pw_getR d180_18 g180_36 hT hA0 rfl rfl (fun t18 => ?_)
      have t18 : τ (ρ a0 5) = some 12 := t18
      refine pw_iload_n d180_21 rfl ?_
      refine pw_aald d180_22 hT t18 rfl (by decide) rfl (by omega) (by omega) (fun u22 => ?_)
      have u22 : τ (ρ (ρ a0 5) (x1).toNat) = some 3 := u22
      refine pw_astore d180_23 m180 rfl rfl ?_
      refine pw_aload_n d180_25 rfl ?_
      refine pw_getR d180_26 g180_36 hT hA0 rfl rfl (fun t26 => ?_)
      have t26 : τ (ρ a0 5) = some 12 := t26
      refine pw_iload_n d180_29 rfl ?_
      refine pw_aald d180_30 hT t26 rfl (by decide) rfl (by omega) (by omega) (fun u30 => ?_)
      have u30 : τ (ρ (ρ a0 5) (x3).toNat) = some 3 := u30
      refine pw_astore d180_31 m180 rfl rfl ?_
      refine pw_aload d180_33 rfl ?_
      refine pw_getI d180_35 g180_309 hT u22 rfl rfl (fun u35 vu35 => ?_)
      have y35 := hP0 ((x1).toNat) (by omega)
      refine pw_if_eq d180_38 rfl (by omega) (fun c38 => ?_) (fun c38 => ?_)
      · refine pw_bipush d180_49 (by decide) ?_
        exact pw_ireturn d180_51 tt180 ⟨rfl, (-6), rfl, (by omega), (by omega), (by omega)⟩
      · exfalso; omega
    · refine pw_bipush d180_14 (by decide) ?_
      exact pw_ireturn d180_16 tt180 ⟨rfl, (-2), rfl, (by omega), (by omega), (by omega)⟩
