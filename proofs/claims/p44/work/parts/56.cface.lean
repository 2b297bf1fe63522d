abbrev Q8 (τ : Nat → Option Nat) (ρ : Nat → Nat → Nat) (h : pv_H) (a0 : Nat) (x1 : Int) (x2 : Int) (x3 : Int) (x4 : Int) (x5 : Int) : Option Value → pv_H → Prop := fun r h' => pv_Ty τ ρ h' ∧ pv_Fr τ [64, 1983] h h' ∧ ∃ z : Int, r = some (.int (pv_I z)) ∧ (-1) ≤ z ∧ z ≤ 1600
set_option maxHeartbeats 4000000 in
set_option maxRecDepth 20000 in
/-- AngleNet.feed(IIIII)I -/
theorem ct8 {τ : Nat → Option Nat} {ρ : Nat → Nat → Nat} {K : Nat → Nat} {h : pv_H} {a0 : Nat} {x1 : Int} {x2 : Int} {x3 : Int} {x4 : Int} {x5 : Int} (hT : pv_Ty τ ρ h) (hA0 : τ a0 = some 0) (hX1 : (-2147483648) ≤ x1 ∧ x1 ≤ 2147483647) (hX2 : (-2147483648) ≤ x2 ∧ x2 ≤ 2147483647) (hX3 : (-2147483648) ≤ x3 ∧ x3 ≤ 2147483647) (hX4 : (-2147483648) ≤ x4 ∧ x4 ≤ 2147483647) (hX5 : (-2147483648) ≤ x5 ∧ x5 ≤ 2147483647) : pv_C K 8 [.ref a0, .int (pv_I x1), .int (pv_I x2), .int (pv_I x3), .int (pv_I x4), .int (pv_I x5)] h (Q8 τ ρ h a0 x1 x2 x3 x4 x5) := by
  refine pw_entry 0 ?_
  show pv_T K 8 0 (pv_fl [some (.ref a0), some (.int (pv_I x1)), some (.int (pv_I x2)), some (.int (pv_I x3)), some (.int (pv_I x4)), some (.int (pv_I x5))]) [] h (Q8 τ ρ h a0 x1 x2 x3 x4 x5)
  have hF0 : pv_Fr τ [64, 1983] h h := pv_Fr.rf
  refine pw_aload_n d8_0 rfl ?_
  refine pw_getR d8_1 g8_10 hT hA0 rfl rfl (fun t1 => ?_)
  have t1 : τ (ρ a0 0) = some 1 := t1
  refine pw_getI d8_4 g8_62 hT t1 rfl rfl (fun u4 vu4 => ?_)
  refine pw_bipush d8_7 (by decide) ?_
  refine pw_iadd d8_9 ?_
  refine pw_sipush d8_10 (by decide) ?_
  refine pw_icmp_le d8_13 rfl (by omega) (by omega) (fun c13 => ?_) (fun c13 => ?_)
  · refine pw_aload_n d8_18 rfl ?_
    refine pw_getR d8_19 g8_10 hT hA0 rfl rfl (fun t19 => ?_)
    have t19 : τ (ρ a0 0) = some 1 := t19
    refine pw_iload_n d8_22 rfl ?_
    refine pw_callV1 d8_23 k8_66 hT t19 rfl rfl rfl (ct9 (τ := τ) (ρ := ρ) hT t19 (by omega)) (fun r23 h23 q23 => ?_)
    obtain ⟨T23, F23, ez23⟩ := q23
    subst ez23
    have f23 := hF0.tr (F23.up (by decide))
    refine pw_aload_n d8_26 rfl ?_
    refine pw_getR d8_27 g8_10 T23 hA0 rfl rfl (fun t27 => ?_)
    have t27 : τ (ρ a0 0) = some 1 := t27
    refine pw_iload_n d8_30 rfl ?_
    refine pw_callV1 d8_31 k8_66 T23 t27 rfl rfl rfl (ct9 (τ := τ) (ρ := ρ) T23 t27 (by omega)) (fun r31 h31 q31 => ?_)
    obtain ⟨T31, F31, ez31⟩ := q31
    subst ez31
    have f31 := f23.tr (F31.up (by decide))
    refine pw_aload_n d8_34 rfl ?_
    refine pw_getR d8_35 g8_10 T31 hA0 rfl rfl (fun t35 => ?_)
    have t35 : τ (ρ a0 0) = some 1 := t35
    refine pw_iload_n d8_38 rfl ?_
    refine pw_callV1 d8_39 k8_66 T31 t35 rfl rfl rfl (ct9 (τ := τ) (ρ := ρ) T31 t35 (by omega)) (fun r39 h39 q39 => ?_)
    obtain ⟨T39, F39, ez39⟩ := q39
    subst ez39
    have f39 := f31.tr (F39.up (by decide))
    refine pw_aload_n d8_42 rfl ?_
    refine pw_getR d8_43 g8_10 T39 hA0 rfl rfl (fun t43 => ?_)
    have t43 : τ (ρ a0 0) = some 1 := t43
    refine pw_iload d8_46 rfl ?_
    refine pw_callV1 d8_48 k8_66 T39 t43 rfl rfl rfl (ct9 (τ := τ) (ρ := ρ) T39 t43 (by omega)) (fun r48 h48 q48 => ?_)
    obtain ⟨T48, F48, ez48⟩ := q48
    subst ez48
    have f48 := f39.tr (F48.up (by decide))
    refine pw_aload_n d8_51 rfl ?_
    refine pw_getR d8_52 g8_10 T48 hA0 rfl rfl (fun t52 => ?_)
    have t52 : τ (ρ a0 0) = some 1 := t52
    refine pw_iload d8_55 rfl ?_
    refine pw_callV1 d8_57 k8_66 T48 t52 rfl rfl rfl (ct9 (τ := τ) (ρ := ρ) T48 t52 (by omega)) (fun r57 h57 q57 => ?_)
    obtain ⟨T57, F57, ez57⟩ := q57
    subst ez57
    have f57 := f48.tr (F57.up (by decide))
    refine pw_aload_n d8_60 rfl ?_
    refine pw_getR d8_61 g8_10 T57 hA0 rfl rfl (fun t61 => ?_)
    have t61 : τ (ρ a0 0) = some 1 := t61
    refine pw_getI d8_64 g8_62 T57 t61 rfl rfl (fun u64 vu64 => ?_)
    exact pw_ireturn d8_67 tt8 ⟨T57, f57, (pv_fI h57 (ρ a0 0) 0), rfl, (by omega), (by omega)⟩
  · refine pw_iconst d8_16 ?_
    exact pw_ireturn d8_17 tt8 ⟨hT, hF0, (-1), rfl, (by omega), (by omega)⟩

abbrev Q10 (τ : Nat → Option Nat) (ρ : Nat → Nat → Nat) (h : pv_H) (a0 : Nat) (x1 : Int) : Option Value → pv_H → Prop := fun r h' => pv_Ty τ ρ h' ∧ pv_Fr τ [64] h h' ∧ ∃ z : Int, r = some (.int (pv_I z)) ∧ (-1) ≤ z ∧ z ≤ 1600
set_option maxHeartbeats 4000000 in
set_option maxRecDepth 20000 in
/-- AngleNet.end(I)I -/
theorem ct10 {τ : Nat → Option Nat} {ρ : Nat → Nat → Nat} {K : Nat → Nat} {h : pv_H} {a0 : Nat} {x1 : Int} (hT : pv_Ty τ ρ h) (hA0 : τ a0 = some 0) (hX1 : (-2147483648) ≤ x1 ∧ x1 ≤ 2147483647) : pv_C K 10 [.ref a0, .int (pv_I x1)] h (Q10 τ ρ h a0 x1) := by
  refine pw_entry 0 ?_
  show pv_T K 10 0 (pv_fl [some (.ref a0), some (.int (pv_I x1))]) [] h (Q10 τ ρ h a0 x1)
  have hF0 : pv_Fr τ [64] h h := pv_Fr.rf
  refine pw_iload_n d10_0 rfl ?_
  refine pw_if_lt d10_1 rfl (by omega) (fun c1 => ?_) (fun c1 => ?_)
  · refine pw_iconst d10_15 ?_
    exact pw_ireturn d10_16 tt10 ⟨hT, hF0, (-1), rfl, (by omega), (by omega)⟩
  · refine pw_iload_n d10_4 rfl ?_
    refine pw_aload_n d10_5 rfl ?_
    refine pw_getR d10_6 g10_10 hT hA0 rfl rfl (fun t6 => ?_)
    have t6 : τ (ρ a0 0) = some 1 := t6
    refine pw_getI d10_9 g10_62 hT t6 rfl rfl (fun u9 vu9 => ?_)
    refine pw_icmp_le d10_12 rfl (by omega) (by omega) (fun c12 => ?_) (fun c12 => ?_)
    · refine pw_aload_n d10_17 rfl ?_
      refine pw_getR d10_18 g10_10 hT hA0 rfl rfl (fun t18 => ?_)
      have t18 : τ (ρ a0 0) = some 1 := t18
      refine pw_iload_n d10_21 rfl ?_
      refine pw_putI d10_22 g10_62 w1_0 hT t18 rfl rfl rfl (by omega) (by omega) (fun h22 T22 F22 E22 => ?_)
      have f22 := hF0.tr (F22.up (by decide))
      refine pw_iload_n d10_25 rfl ?_
      exact pw_ireturn d10_26 tt10 ⟨T22, f22, x1, rfl, (by omega), (by omega)⟩
    · refine pw_iconst d10_15 ?_
      exact pw_ireturn d10_16 tt10 ⟨hT, hF0, (-1), rfl, (by omega), (by omega)⟩

abbrev Q11 (τ : Nat → Option Nat) (ρ : Nat → Nat → Nat) (h : pv_H) (a0 : Nat) : Option Value → pv_H → Prop := fun r h' => pv_Ty τ ρ h' ∧ pv_Fr τ [64, 65, 66, 69, 70, 71, 72, 73, 74, 128, 129, 130, 131, 132, 142, 143, 1343, 1407, 1471, 1535, 1599, 1663, 1727, 1791, 1855] h h' ∧ ∃ z : Int, r = some (.int (pv_I z)) ∧ (-2147483648) ≤ z ∧ z ≤ 2147483647
set_option maxHeartbeats 4000000 in
set_option maxRecDepth 20000 in
/-- AngleNet.net()I -/
theorem ct11 {τ : Nat → Option Nat} {ρ : Nat → Nat → Nat} {K : Nat → Nat} {h : pv_H} {a0 : Nat} (hK : pv_Kok K) (hT : pv_Ty τ ρ h) (hA0 : τ a0 = some 0) : pv_C K 11 [.ref a0] h (Q11 τ ρ h a0) := by
  refine pw_entry 0 ?_
  show pv_T K 11 0 (pv_fl [some (.ref a0)]) [] h (Q11 τ ρ h a0)
  have hF0 : pv_Fr τ [64, 65, 66, 69, 70, 71, 72, 73, 74, 128, 129, 130, 131, 132, 142, 143, 1343, 1407, 1471, 1535, 1599, 1663, 1727, 1791, 1855] h h := pv_Fr.rf
  refine pw_aload_n d11_0 rfl ?_
  refine pw_getR d11_1 g11_10 hT hA0 rfl rfl (fun t1 => ?_)
  have t1 : τ (ρ a0 0) = some 1 := t1
  refine pw_callV0 d11_4 k11_70 hT t1 rfl rfl rfl (ct12 (τ := τ) (ρ := ρ) hK hT t1) (fun r4 h4 q4 => ?_)
  obtain ⟨T4, F4, z4, ez4, lz4, uz4⟩ := q4
  subst ez4
  have f4 := hF0.tr (F4.up (by decide))
  refine pw_if_ne d11_7 rfl (by omega) (fun c7 => ?_) (fun c7 => ?_)
  · refine pw_aload_n d11_13 rfl ?_
    refine pw_getR d11_14 g11_10 T4 hA0 rfl rfl (fun t14 => ?_)
    have t14 : τ (ρ a0 0) = some 1 := t14
    refine pw_iconst d11_17 ?_
    refine pw_putI d11_18 g11_62 w1_0 T4 t14 rfl rfl rfl (by omega) (by omega) (fun h18 T18 F18 E18 => ?_)
    have f18 := f4.tr (F18.up (by decide))
    refine pw_aload_n d11_21 rfl ?_
    refine pw_getR d11_22 g11_19 T18 hA0 rfl rfl (fun t22 => ?_)
    have t22 : τ (ρ a0 1) = some 2 := t22
    refine pw_aload_n d11_25 rfl ?_
    refine pw_getR d11_26 g11_10 T18 hA0 rfl rfl (fun t26 => ?_)
    have t26 : τ (ρ a0 0) = some 1 := t26
    refine pw_getR d11_29 g11_74 T18 t26 rfl rfl (fun t29 => ?_)
    have t29 : τ (ρ (ρ a0 0) 3) = some 2 := t29
    refine pw_callV1 d11_32 k11_77 T18 t22 rfl rfl rfl (ct52 (τ := τ) (ρ := ρ) T18 t22 t29) (fun r32 h32 q32 => ?_)
    obtain ⟨T32, F32, ez32⟩ := q32
    subst ez32
    have f32 := f18.tr (F32.up (by decide))
    have q32b := ((F32 (ρ a0 0) 1 t26).1 0 (by decide)).1
    refine pw_aload_n d11_35 rfl ?_
    refine pw_getR d11_36 g11_19 T32 hA0 rfl rfl (fun t36 => ?_)
    have t36 : τ (ρ a0 1) = some 2 := t36
    refine pw_getI d11_39 g11_81 T32 t36 rfl rfl (fun u39 vu39 => ?_)
    exact pw_ireturn d11_42 tt11 ⟨T32, f32, (pv_fI h32 (ρ a0 1) 2), rfl, (by omega), (by omega)⟩
  · refine pw_bipush d11_10 (by decide) ?_
    exact pw_ireturn d11_12 tt11 ⟨T4, f4, (-4), rfl, (by omega), (by omega)⟩

abbrev Q53 (τ : Nat → Option Nat) (ρ : Nat → Nat → Nat) (h : pv_H) (a0 : Nat) (x1 : Int) : Option Value → pv_H → Prop := fun r h' => h = h' ∧ ∃ z : Int, r = some (.int (pv_I z)) ∧ (-1) ≤ z ∧ z ≤ 1600
set_option maxHeartbeats 4000000 in
set_option maxRecDepth 20000 in
/-- AngleNet.fault(I)I -/
theorem ct53 {τ : Nat → Option Nat} {ρ : Nat → Nat → Nat} {K : Nat → Nat} {h : pv_H} {a0 : Nat} {x1 : Int} (hT : pv_Ty τ ρ h) (hA0 : τ a0 = some 0) (hX1 : (-2147483648) ≤ x1 ∧ x1 ≤ 2147483647) : pv_C K 53 [.ref a0, .int (pv_I x1)] h (Q53 τ ρ h a0 x1) := by
  refine pw_entry 0 ?_
  show pv_T K 53 0 (pv_fl [some (.ref a0), some (.int (pv_I x1))]) [] h (Q53 τ ρ h a0 x1)
  refine pw_iload_n d53_0 rfl ?_
  refine pw_if_ne d53_1 rfl (by omega) (fun c1 => ?_) (fun c1 => ?_)
  · refine pw_iload_n d53_12 rfl ?_
    refine pw_iconst d53_13 ?_
    refine pw_icmp_ne d53_14 rfl (by omega) (by omega) (fun c14 => ?_) (fun c14 => ?_)
    · refine pw_iconst d53_27 ?_
      exact pw_ireturn d53_28 tt53 ⟨rfl, (-1), rfl, (by omega), (by omega)⟩
    · refine pw_aload_n d53_17 rfl ?_
      refine pw_getR d53_18 g53_10 hT hA0 rfl rfl (fun t18 => ?_)
      have t18 : τ (ρ a0 0) = some 1 := t18
      refine pw_getI d53_21 g53_87 hT t18 rfl rfl (fun u21 vu21 => ?_)
      refine pw_goto d53_24 rfl ?_
      exact pw_ireturn d53_28 tt53 ⟨rfl, (pv_fI h (ρ a0 0) 2), rfl, (by omega), (by omega)⟩
  · refine pw_aload_n d53_4 rfl ?_
    refine pw_getR d53_5 g53_10 hT hA0 rfl rfl (fun t5 => ?_)
    have t5 : τ (ρ a0 0) = some 1 := t5
    refine pw_getI d53_8 g53_84 hT t5 rfl rfl (fun u8 vu8 => ?_)
    exact pw_ireturn d53_11 tt53 ⟨rfl, (pv_fI h (ρ a0 0) 1), rfl, (by omega), (by omega)⟩

abbrev Q54 (τ : Nat → Option Nat) (ρ : Nat → Nat → Nat) (h : pv_H) (a0 : Nat) (x1 : Int) (x2 : Int) : Option Value → pv_H → Prop := fun r h' => h = h' ∧ ∃ z : Int, r = some (.int (pv_I z)) ∧ (-2) ≤ z ∧ z ≤ 540
set_option maxHeartbeats 4000000 in
set_option maxRecDepth 20000 in
/-- AngleNet.third(II)I -/
theorem ct54 {τ : Nat → Option Nat} {ρ : Nat → Nat → Nat} {K : Nat → Nat} {h : pv_H} {a0 : Nat} {x1 : Int} {x2 : Int} (hT : pv_Ty τ ρ h) (hA0 : τ a0 = some 0) (hX1 : (-2147483648) ≤ x1 ∧ x1 ≤ 2147483647) (hX2 : (-2147483648) ≤ x2 ∧ x2 ≤ 2147483647) : pv_C K 54 [.ref a0, .int (pv_I x1), .int (pv_I x2)] h (Q54 τ ρ h a0 x1 x2) := by
  refine pw_entry 0 ?_
  show pv_T K 54 0 (pv_fl [some (.ref a0), some (.int (pv_I x1)), some (.int (pv_I x2))]) [] h (Q54 τ ρ h a0 x1 x2)
  refine pw_aload_n d54_0 rfl ?_
  refine pw_getR d54_1 g54_19 hT hA0 rfl rfl (fun t1 => ?_)
  have t1 : τ (ρ a0 1) = some 2 := t1
  refine pw_iload_n d54_4 rfl ?_
  refine pw_callV1 d54_5 k54_90 hT t1 rfl rfl rfl (ct55 (τ := τ) (ρ := ρ) hT t1 (by omega)) (fun r5 h5 q5 => ?_)
  obtain ⟨eh5, z5, ez5, lz5, uz5, pz5_0⟩ := q5
  subst eh5
  subst ez5
  refine pw_if_eq d54_8 rfl (by omega) (fun c8 => ?_) (fun c8 => ?_)
  · refine pw_bipush d54_20 (by decide) ?_
    exact pw_ireturn d54_22 tt54 ⟨rfl, (-2), rfl, (by omega), (by omega)⟩
  · refine pw_iload_n d54_11 rfl ?_
    refine pw_if_lt d54_12 rfl (by omega) (fun c12 => ?_) (fun c12 => ?_)
    · refine pw_bipush d54_20 (by decide) ?_
      exact pw_ireturn d54_22 tt54 ⟨rfl, (-2), rfl, (by omega), (by omega)⟩
    · refine pw_iload_n d54_15 rfl ?_
      refine pw_iconst d54_16 ?_
      refine pw_icmp_le d54_17 rfl (by omega) (by omega) (fun c17 => ?_) (fun c17 => ?_)
      · refine pw_iload_n d54_23 rfl ?_
        refine pw_iconst d54_24 ?_
        refine pw_icmp_ne d54_25 rfl (by omega) (by omega) (fun c25 => ?_) (fun c25 => ?_)
        · refine pw_aload_n d54_40 rfl ?_
          refine pw_getR d54_41 g54_19 hT hA0 rfl rfl (fun t41 => ?_)
          have t41 : τ (ρ a0 1) = some 2 := t41
          refine pw_getR d54_44 g54_98 hT t41 rfl rfl (fun t44 => ?_)
          have t44 : τ (ρ (ρ a0 1) 5) = some 20 := t44
          refine pw_iconst d54_47 ?_
          refine pw_iload_n d54_48 rfl ?_
          refine pw_imul d54_49 ?_
          refine pw_iload_n d54_50 rfl ?_
          refine pw_iadd d54_51 ?_
          refine pw_iald d54_52 hT t44 rfl rfl (by omega) (by omega) (fun u52 vu52 => ?_)
          exact pw_ireturn d54_53 tt54 ⟨rfl, (pv_aI h (ρ (ρ a0 1) 5) (((3 * x1) + x2)).toNat), rfl, (by omega), (by omega)⟩
        · refine pw_aload_n d54_28 rfl ?_
          refine pw_getR d54_29 g54_19 hT hA0 rfl rfl (fun t29 => ?_)
          have t29 : τ (ρ a0 1) = some 2 := t29
          refine pw_getR d54_32 g54_94 hT t29 rfl rfl (fun t32 => ?_)
          have t32 : τ (ρ (ρ a0 1) 6) = some 21 := t32
          refine pw_iload_n d54_35 rfl ?_
          refine pw_iald d54_36 hT t32 rfl rfl (by omega) (by omega) (fun u36 vu36 => ?_)
          refine pw_goto d54_37 rfl ?_
          exact pw_ireturn d54_53 tt54 ⟨rfl, (pv_aI h (ρ (ρ a0 1) 6) (x1).toNat), rfl, (by omega), (by omega)⟩
      · refine pw_bipush d54_20 (by decide) ?_
        exact pw_ireturn d54_22 tt54 ⟨rfl, (-2), rfl, (by omega), (by omega)⟩

abbrev Q56 (τ : Nat → Option Nat) (ρ : Nat → Nat → Nat) (h : pv_H) (a0 : Nat) (x1 : Int) (x2 : Int) : Option Value → pv_H → Prop := fun r h' => h = h' ∧ ∃ z : Int, r = some (.int (pv_I z)) ∧ (-2147483648) ≤ z ∧ z ≤ 2147483647
set_option maxHeartbeats 4000000 in
set_option maxRecDepth 20000 in
/-- AngleNet.post(II)I -/
theorem ct56 {τ : Nat → Option Nat} {ρ : Nat → Nat → Nat} {K : Nat → Nat} {h : pv_H} {a0 : Nat} {x1 : Int} {x2 : Int} (hT : pv_Ty τ ρ h) (hA0 : τ a0 = some 0) (hX1 : (-2147483648) ≤ x1 ∧ x1 ≤ 2147483647) (hX2 : (-2147483648) ≤ x2 ∧ x2 ≤ 2147483647) : pv_C K 56 [.ref a0, .int (pv_I x1), .int (pv_I x2)] h (Q56 τ ρ h a0 x1 x2) := by
  refine pw_entry 0 ?_
  show pv_T K 56 0 (pv_fl [some (.ref a0), some (.int (pv_I x1)), some (.int (pv_I x2))]) [] h (Q56 τ ρ h a0 x1 x2)
  refine pw_aload_n d56_0 rfl ?_
  refine pw_getR d56_1 g56_19 hT hA0 rfl rfl (fun t1 => ?_)
  have t1 : τ (ρ a0 1) = some 2 := t1
  refine pw_iload_n d56_4 rfl ?_
  refine pw_callV1 d56_5 k56_101 hT t1 rfl rfl rfl (ct48 (τ := τ) (ρ := ρ) hT t1 (by omega)) (fun r5 h5 q5 => ?_)
  obtain ⟨eh5, z5, ez5, lz5, uz5, pz5_0⟩ := q5
  subst eh5
  subst ez5
  refine pw_if_ne d56_8 rfl (by omega) (fun c8 => ?_) (fun c8 => ?_)
  · refine pw_iload_n d56_14 rfl ?_
    by_cases c15 : x2 < 0 ∨ 5 < x2
    · refine pw_tabOut d56_15 (by omega) c15 rfl ?_
      refine pw_bipush d56_110 (by decide) ?_
      exact pw_ireturn d56_112 tt56 ⟨rfl, (-2), rfl, (by omega), (by omega)⟩
    by_cases c15_0 : x2 = 0
    · refine pw_tabIn (x := x2) d56_15 (by omega) c15 (by rw [c15_0]; rfl) rfl ?_
      refine pw_aload_n d56_52 rfl ?_
      refine pw_getR d56_53 g56_19 hT hA0 rfl rfl (fun t53 => ?_)
      have t53 : τ (ρ a0 1) = some 2 := t53
      refine pw_getR d56_56 g56_104 hT t53 rfl rfl (fun t56 => ?_)
      have t56 : τ (ρ (ρ a0 1) 7) = some 22 := t56
      refine pw_iload_n d56_59 rfl ?_
      refine pw_iald d56_60 hT t56 rfl rfl (by omega) (by omega) (fun u60 vu60 => ?_)
      exact pw_ireturn d56_61 tt56 ⟨rfl, (pv_aI h (ρ (ρ a0 1) 7) (x1).toNat), rfl, (by omega), (by omega)⟩
    by_cases c15_1 : x2 = 1
    · refine pw_tabIn (x := x2) d56_15 (by omega) c15 (by rw [c15_1]; rfl) rfl ?_
      refine pw_aload_n d56_62 rfl ?_
      refine pw_getR d56_63 g56_19 hT hA0 rfl rfl (fun t63 => ?_)
      have t63 : τ (ρ a0 1) = some 2 := t63
      refine pw_getR d56_66 g56_107 hT t63 rfl rfl (fun t66 => ?_)
      have t66 : τ (ρ (ρ a0 1) 8) = some 23 := t66
      refine pw_iload_n d56_69 rfl ?_
      refine pw_iald d56_70 hT t66 rfl rfl (by omega) (by omega) (fun u70 vu70 => ?_)
      exact pw_ireturn d56_71 tt56 ⟨rfl, (pv_aI h (ρ (ρ a0 1) 8) (x1).toNat), rfl, (by omega), (by omega)⟩
    by_cases c15_2 : x2 = 2
    · refine pw_tabIn (x := x2) d56_15 (by omega) c15 (by rw [c15_2]; rfl) rfl ?_
      refine pw_aload_n d56_72 rfl ?_
      refine pw_getR d56_73 g56_19 hT hA0 rfl rfl (fun t73 => ?_)
      have t73 : τ (ρ a0 1) = some 2 := t73
      refine pw_getR d56_76 g56_110 hT t73 rfl rfl (fun t76 => ?_)
      have t76 : τ (ρ (ρ a0 1) 9) = some 24 := t76
      refine pw_iload_n d56_79 rfl ?_
      refine pw_iald d56_80 hT t76 rfl rfl (by omega) (by omega) (fun u80 vu80 => ?_)
      exact pw_ireturn d56_81 tt56 ⟨rfl, (pv_aI h (ρ (ρ a0 1) 9) (x1).toNat), rfl, (by omega), (by omega)⟩
    by_cases c15_3 : x2 = 3
    · refine pw_tabIn (x := x2) d56_15 (by omega) c15 (by rw [c15_3]; rfl) rfl ?_
      refine pw_aload_n d56_82 rfl ?_
      refine pw_getR d56_83 g56_19 hT hA0 rfl rfl (fun t83 => ?_)
      have t83 : τ (ρ a0 1) = some 2 := t83
      refine pw_getR d56_86 g56_113 hT t83 rfl rfl (fun t86 => ?_)
      have t86 : τ (ρ (ρ a0 1) 10) = some 25 := t86
      refine pw_iload_n d56_89 rfl ?_
      refine pw_iald d56_90 hT t86 rfl rfl (by omega) (by omega) (fun u90 vu90 => ?_)
      exact pw_ireturn d56_91 tt56 ⟨rfl, (pv_aI h (ρ (ρ a0 1) 10) (x1).toNat), rfl, (by omega), (by omega)⟩
    by_cases c15_4 : x2 = 4
    · refine pw_tabIn (x := x2) d56_15 (by omega) c15 (by rw [c15_4]; rfl) rfl ?_
      refine pw_aload_n d56_92 rfl ?_
      refine pw_getR d56_93 g56_19 hT hA0 rfl rfl (fun t93 => ?_)
      have t93 : τ (ρ a0 1) = some 2 := t93
      refine pw_iload_n d56_96 rfl ?_
      refine pw_callV1 d56_97 k56_116 hT t93 rfl rfl rfl (ct57 (τ := τ) (ρ := ρ) hT t93 (by omega)) (fun r97 h97 q97 => ?_)
      obtain ⟨eh97, z97, ez97, lz97, uz97⟩ := q97
      subst eh97
      subst ez97
      exact pw_ireturn d56_100 tt56 ⟨rfl, z97, rfl, (by omega), (by omega)⟩
    by_cases c15_5 : x2 = 5
    · refine pw_tabIn (x := x2) d56_15 (by omega) c15 (by rw [c15_5]; rfl) rfl ?_
      refine pw_aload_n d56_101 rfl ?_
      refine pw_getR d56_102 g56_19 hT hA0 rfl rfl (fun t102 => ?_)
      have t102 : τ (ρ a0 1) = some 2 := t102
      refine pw_iload_n d56_105 rfl ?_
      refine pw_callV1 d56_106 k56_120 hT t102 rfl rfl rfl (ct59 (τ := τ) (ρ := ρ) hT t102 (by omega)) (fun r106 h106 q106 => ?_)
      obtain ⟨eh106, z106, ez106, lz106, uz106⟩ := q106
      subst eh106
      subst ez106
      exact pw_ireturn d56_109 tt56 ⟨rfl, z106, rfl, (by omega), (by omega)⟩
    exfalso; omega
  · refine pw_bipush d56_11 (by decide) ?_
    exact pw_ireturn d56_13 tt56 ⟨rfl, (-2), rfl, (by omega), (by omega)⟩

abbrev Q60 (τ : Nat → Option Nat) (ρ : Nat → Nat → Nat) (h : pv_H) (a0 : Nat) (x1 : Int) (x2 : Int) : Option Value → pv_H → Prop := fun r h' => h = h' ∧ ∃ z : Int, r = some (.int (pv_I z)) ∧ (-2147483648) ≤ z ∧ z ≤ 2147483647
set_option maxHeartbeats 4000000 in
set_option maxRecDepth 20000 in
/-- AngleNet.side(II)I -/
theorem ct60 {τ : Nat → Option Nat} {ρ : Nat → Nat → Nat} {K : Nat → Nat} {h : pv_H} {a0 : Nat} {x1 : Int} {x2 : Int} (hT : pv_Ty τ ρ h) (hA0 : τ a0 = some 0) (hX1 : (-2147483648) ≤ x1 ∧ x1 ≤ 2147483647) (hX2 : (-2147483648) ≤ x2 ∧ x2 ≤ 2147483647) : pv_C K 60 [.ref a0, .int (pv_I x1), .int (pv_I x2)] h (Q60 τ ρ h a0 x1 x2) := by
  refine pw_entry 0 ?_
  show pv_T K 60 0 (pv_fl [some (.ref a0), some (.int (pv_I x1)), some (.int (pv_I x2))]) [] h (Q60 τ ρ h a0 x1 x2)
  refine pw_aload_n d60_0 rfl ?_
  refine pw_getR d60_1 g60_19 hT hA0 rfl rfl (fun t1 => ?_)
  have t1 : τ (ρ a0 1) = some 2 := t1
  refine pw_iload_n d60_4 rfl ?_
  refine pw_callV1 d60_5 k60_101 hT t1 rfl rfl rfl (ct48 (τ := τ) (ρ := ρ) hT t1 (by omega)) (fun r5 h5 q5 => ?_)
  obtain ⟨eh5, z5, ez5, lz5, uz5, pz5_0⟩ := q5
  subst eh5
  subst ez5
  refine pw_if_eq d60_8 rfl (by omega) (fun c8 => ?_) (fun c8 => ?_)
  · refine pw_bipush d60_27 (by decide) ?_
    exact pw_ireturn d60_29 tt60 ⟨rfl, (-2), rfl, (by omega), (by omega)⟩
  · refine pw_aload_n d60_11 rfl ?_
    refine pw_getR d60_12 g60_19 hT hA0 rfl rfl (fun t12 => ?_)
    have t12 : τ (ρ a0 1) = some 2 := t12
    refine pw_iload_n d60_15 rfl ?_
    refine pw_callV1 d60_16 k60_101 hT t12 rfl rfl rfl (ct48 (τ := τ) (ρ := ρ) hT t12 (by omega)) (fun r16 h16 q16 => ?_)
    obtain ⟨eh16, z16, ez16, lz16, uz16, pz16_0⟩ := q16
    subst eh16
    subst ez16
    refine pw_if_eq d60_19 rfl (by omega) (fun c19 => ?_) (fun c19 => ?_)
    · refine pw_bipush d60_27 (by decide) ?_
      exact pw_ireturn d60_29 tt60 ⟨rfl, (-2), rfl, (by omega), (by omega)⟩
    · refine pw_iload_n d60_22 rfl ?_
      refine pw_iload_n d60_23 rfl ?_
      refine pw_icmp_ne d60_24 rfl (by omega) (by omega) (fun c24 => ?_) (fun c24 => ?_)
      · refine pw_aload_n d60_30 rfl ?_
        refine pw_getR d60_31 g60_19 hT hA0 rfl rfl (fun t31 => ?_)
        have t31 : τ (ρ a0 1) = some 2 := t31
        refine pw_getR d60_34 g60_123 hT t31 rfl rfl (fun t34 => ?_)
        have t34 : τ (ρ (ρ a0 1) 12) = some 27 := t34
        refine pw_bipush d60_37 (by decide) ?_
        refine pw_iload_n d60_39 rfl ?_
        refine pw_imul d60_40 ?_
        refine pw_iload_n d60_41 rfl ?_
        refine pw_iadd d60_42 ?_
        refine pw_iald d60_43 hT t34 rfl rfl (by omega) (by omega) (fun u43 vu43 => ?_)
        exact pw_ireturn d60_44 tt60 ⟨rfl, (pv_aI h (ρ (ρ a0 1) 12) (((10 * x1) + x2)).toNat), rfl, (by omega), (by omega)⟩
      · refine pw_bipush d60_27 (by decide) ?_
        exact pw_ireturn d60_29 tt60 ⟨rfl, (-2), rfl, (by omega), (by omega)⟩

abbrev Q61 (τ : Nat → Option Nat) (ρ : Nat → Nat → Nat) (h : pv_H) (a0 : Nat) (x1 : Int) : Option Value → pv_H → Prop := fun r h' => h = h' ∧ ∃ z : Int, r = some (.int (pv_I z)) ∧ (-1) ≤ z ∧ z ≤ 99
set_option maxHeartbeats 4000000 in
set_option maxRecDepth 20000 in
/-- AngleNet.sides(I)I -/
theorem ct61 {τ : Nat → Option Nat} {ρ : Nat → Nat → Nat} {K : Nat → Nat} {h : pv_H} {a0 : Nat} {x1 : Int} (hT : pv_Ty τ ρ h) (hA0 : τ a0 = some 0) (hX1 : (-2147483648) ≤ x1 ∧ x1 ≤ 2147483647) : pv_C K 61 [.ref a0, .int (pv_I x1)] h (Q61 τ ρ h a0 x1) := by
  refine pw_entry 0 ?_
  show pv_T K 61 0 (pv_fl [some (.ref a0), some (.int (pv_I x1))]) [] h (Q61 τ ρ h a0 x1)
  refine pw_aload_n d61_0 rfl ?_
  refine pw_getR d61_1 g61_19 hT hA0 rfl rfl (fun t1 => ?_)
  have t1 : τ (ρ a0 1) = some 2 := t1
  refine pw_iload_n d61_4 rfl ?_
  refine pw_callV1 d61_5 k61_126 hT t1 rfl rfl rfl (ct62 (τ := τ) (ρ := ρ) hT t1 (by omega)) (fun r5 h5 q5 => ?_)
  obtain ⟨eh5, z5, ez5, lz5, uz5⟩ := q5
  subst eh5
  subst ez5
  exact pw_ireturn d61_8 tt61 ⟨rfl, z5, rfl, (by omega), (by omega)⟩

abbrev Q63 (τ : Nat → Option Nat) (ρ : Nat → Nat → Nat) (h : pv_H) (a0 : Nat) (x1 : Int) : Option Value → pv_H → Prop := fun r h' => pv_Ty τ ρ h' ∧ pv_Fr τ [2111, 2175] h h' ∧ ∃ z : Int, r = some (.int (pv_I z)) ∧ (-2147483648) ≤ z ∧ z ≤ 2147483647
set_option maxHeartbeats 4000000 in
set_option maxRecDepth 20000 in
/-- AngleNet.surface(I)I -/
theorem ct63 {τ : Nat → Option Nat} {ρ : Nat → Nat → Nat} {K : Nat → Nat} {h : pv_H} {a0 : Nat} {x1 : Int} (hT : pv_Ty τ ρ h) (hA0 : τ a0 = some 0) (hX1 : (-2147483648) ≤ x1 ∧ x1 ≤ 2147483647) : pv_C K 63 [.ref a0, .int (pv_I x1)] h (Q63 τ ρ h a0 x1) := by
  refine pw_entry 0 ?_
  show pv_T K 63 0 (pv_fl [some (.ref a0), some (.int (pv_I x1))]) [] h (Q63 τ ρ h a0 x1)
  have hF0 : pv_Fr τ [2111, 2175] h h := pv_Fr.rf
  refine pw_aload_n d63_0 rfl ?_
  refine pw_getR d63_1 g63_19 hT hA0 rfl rfl (fun t1 => ?_)
  have t1 : τ (ρ a0 1) = some 2 := t1
  refine pw_callV0 d63_4 k63_129 hT t1 rfl rfl rfl (ct64 (τ := τ) (ρ := ρ) hT t1) (fun r4 h4 q4 => ?_)
  obtain ⟨eh4, z4, ez4, lz4, uz4⟩ := q4
  subst eh4
  subst ez4
  refine pw_if_ne d63_7 rfl (by omega) (fun c7 => ?_) (fun c7 => ?_)
  · refine pw_iload_n d63_13 rfl ?_
    by_cases c14 : x1 < 0 ∨ 6 < x1
    · refine pw_tabOut d63_14 (by omega) c14 rfl ?_
      refine pw_bipush d63_174 (by decide) ?_
      exact pw_ireturn d63_176 tt63 ⟨hT, hF0, (-2), rfl, (by omega), (by omega)⟩
    by_cases c14_0 : x1 = 0
    · refine pw_tabIn (x := x1) d63_14 (by omega) c14 (by rw [c14_0]; rfl) rfl ?_
      refine pw_aload_n d63_56 rfl ?_
      refine pw_getR d63_57 g63_44 hT hA0 rfl rfl (fun t57 => ?_)
      have t57 : τ (ρ a0 6) = some 4 := t57
      refine pw_aload_n d63_60 rfl ?_
      refine pw_getR d63_61 g63_19 hT hA0 rfl rfl (fun t61 => ?_)
      have t61 : τ (ρ a0 1) = some 2 := t61
      refine pw_callV1 d63_64 k63_132 hT t57 rfl rfl rfl (ct65 (τ := τ) (ρ := ρ) hT t57 t61) (fun r64 h64 q64 => ?_)
      obtain ⟨eh64, z64, ez64, lz64, uz64⟩ := q64
      subst eh64
      subst ez64
      exact pw_ireturn d63_67 tt63 ⟨hT, hF0, z64, rfl, (by omega), (by omega)⟩
    by_cases c14_1 : x1 = 1
    · refine pw_tabIn (x := x1) d63_14 (by omega) c14 (by rw [c14_1]; rfl) rfl ?_
      refine pw_aload_n d63_68 rfl ?_
      refine pw_getR d63_69 g63_44 hT hA0 rfl rfl (fun t69 => ?_)
      have t69 : τ (ρ a0 6) = some 4 := t69
      refine pw_aload_n d63_72 rfl ?_
      refine pw_getR d63_73 g63_19 hT hA0 rfl rfl (fun t73 => ?_)
      have t73 : τ (ρ a0 1) = some 2 := t73
      refine pw_callV1 d63_76 k63_136 hT t69 rfl rfl rfl (ct69 (τ := τ) (ρ := ρ) hT t69 t73) (fun r76 h76 q76 => ?_)
      obtain ⟨eh76, z76, ez76, lz76, uz76⟩ := q76
      subst eh76
      subst ez76
      refine pw_if_eq d63_79 rfl (by omega) (fun c79 => ?_) (fun c79 => ?_)
      · refine pw_iconst d63_86 ?_
        exact pw_ireturn d63_87 tt63 ⟨hT, hF0, 0, rfl, (by omega), (by omega)⟩
      · refine pw_iconst d63_82 ?_
        refine pw_goto d63_83 rfl ?_
        exact pw_ireturn d63_87 tt63 ⟨hT, hF0, 1, rfl, (by omega), (by omega)⟩
    by_cases c14_2 : x1 = 2
    · refine pw_tabIn (x := x1) d63_14 (by omega) c14 (by rw [c14_2]; rfl) rfl ?_
      refine pw_aload_n d63_88 rfl ?_
      refine pw_getR d63_89 g63_44 hT hA0 rfl rfl (fun t89 => ?_)
      have t89 : τ (ρ a0 6) = some 4 := t89
      refine pw_aload_n d63_92 rfl ?_
      refine pw_getR d63_93 g63_19 hT hA0 rfl rfl (fun t93 => ?_)
      have t93 : τ (ρ a0 1) = some 2 := t93
      refine pw_callV1 d63_96 k63_140 hT t89 rfl rfl rfl (ct71 (τ := τ) (ρ := ρ) hT t89 t93) (fun r96 h96 q96 => ?_)
      obtain ⟨eh96, z96, ez96, lz96, uz96⟩ := q96
      subst eh96
      subst ez96
      exact pw_ireturn d63_99 tt63 ⟨hT, hF0, z96, rfl, (by omega), (by omega)⟩
    by_cases c14_3 : x1 = 3
    · refine pw_tabIn (x := x1) d63_14 (by omega) c14 (by rw [c14_3]; rfl) rfl ?_
      refine pw_aload_n d63_100 rfl ?_
      refine pw_getR d63_101 g63_44 hT hA0 rfl rfl (fun t101 => ?_)
      have t101 : τ (ρ a0 6) = some 4 := t101
      refine pw_aload_n d63_104 rfl ?_
      refine pw_getR d63_105 g63_19 hT hA0 rfl rfl (fun t105 => ?_)
      have t105 : τ (ρ a0 1) = some 2 := t105
      refine pw_callV1 d63_108 k63_143 hT t101 rfl rfl rfl (ct73 (τ := τ) (ρ := ρ) hT t101 t105) (fun r108 h108 q108 => ?_)
      obtain ⟨T108, F108, z108, ez108, lz108, uz108⟩ := q108
      subst ez108
      have f108 := hF0.tr (F108.up (by decide))
      refine pw_if_eq d63_111 rfl (by omega) (fun c111 => ?_) (fun c111 => ?_)
      · refine pw_iconst d63_118 ?_
        exact pw_ireturn d63_119 tt63 ⟨T108, f108, 0, rfl, (by omega), (by omega)⟩
      · refine pw_iconst d63_114 ?_
        refine pw_goto d63_115 rfl ?_
        exact pw_ireturn d63_119 tt63 ⟨T108, f108, 1, rfl, (by omega), (by omega)⟩
    by_cases c14_4 : x1 = 4
    · refine pw_tabIn (x := x1) d63_14 (by omega) c14 (by rw [c14_4]; rfl) rfl ?_
      refine pw_aload_n d63_120 rfl ?_
      refine pw_getR d63_121 g63_44 hT hA0 rfl rfl (fun t121 => ?_)
      have t121 : τ (ρ a0 6) = some 4 := t121
      refine pw_aload_n d63_124 rfl ?_
      refine pw_getR d63_125 g63_19 hT hA0 rfl rfl (fun t125 => ?_)
      have t125 : τ (ρ a0 1) = some 2 := t125
      refine pw_callV1 d63_128 k63_146 hT t121 rfl rfl rfl (ct78 (τ := τ) (ρ := ρ) hT t121 t125) (fun r128 h128 q128 => ?_)
      obtain ⟨eh128, z128, ez128, lz128, uz128⟩ := q128
      subst eh128
      subst ez128
      exact pw_ireturn d63_131 tt63 ⟨hT, hF0, z128, rfl, (by omega), (by omega)⟩
    by_cases c14_5 : x1 = 5
    · refine pw_tabIn (x := x1) d63_14 (by omega) c14 (by rw [c14_5]; rfl) rfl ?_
      refine pw_aload_n d63_132 rfl ?_
      refine pw_getR d63_133 g63_44 hT hA0 rfl rfl (fun t133 => ?_)
      have t133 : τ (ρ a0 6) = some 4 := t133
      refine pw_aload_n d63_136 rfl ?_
      refine pw_getR d63_137 g63_19 hT hA0 rfl rfl (fun t137 => ?_)
      have t137 : τ (ρ a0 1) = some 2 := t137
      refine pw_callV1 d63_140 k63_136 hT t133 rfl rfl rfl (ct69 (τ := τ) (ρ := ρ) hT t133 t137) (fun r140 h140 q140 => ?_)
      obtain ⟨eh140, z140, ez140, lz140, uz140⟩ := q140
      subst eh140
      subst ez140
      refine pw_if_eq d63_143 rfl (by omega) (fun c143 => ?_) (fun c143 => ?_)
      · refine pw_iconst d63_160 ?_
        exact pw_ireturn d63_161 tt63 ⟨hT, hF0, (-1), rfl, (by omega), (by omega)⟩
      · refine pw_aload_n d63_146 rfl ?_
        refine pw_getR d63_147 g63_44 hT hA0 rfl rfl (fun t147 => ?_)
        have t147 : τ (ρ a0 6) = some 4 := t147
        refine pw_aload_n d63_150 rfl ?_
        refine pw_getR d63_151 g63_19 hT hA0 rfl rfl (fun t151 => ?_)
        have t151 : τ (ρ a0 1) = some 2 := t151
        refine pw_callV1 d63_154 k63_149 hT t147 rfl rfl rfl (ct81 (τ := τ) (ρ := ρ) hT t147 t151) (fun r154 h154 q154 => ?_)
        obtain ⟨eh154, z154, ez154, lz154, uz154⟩ := q154
        subst eh154
        subst ez154
        refine pw_goto d63_157 rfl ?_
        exact pw_ireturn d63_161 tt63 ⟨hT, hF0, z154, rfl, (by omega), (by omega)⟩
    by_cases c14_6 : x1 = 6
    · refine pw_tabIn (x := x1) d63_14 (by omega) c14 (by rw [c14_6]; rfl) rfl ?_
      refine pw_aload_n d63_162 rfl ?_
      refine pw_getR d63_163 g63_44 hT hA0 rfl rfl (fun t163 => ?_)
      have t163 : τ (ρ a0 6) = some 4 := t163
      refine pw_aload_n d63_166 rfl ?_
      refine pw_getR d63_167 g63_19 hT hA0 rfl rfl (fun t167 => ?_)
      have t167 : τ (ρ a0 1) = some 2 := t167
      refine pw_callV1 d63_170 k63_152 hT t163 rfl rfl rfl (ct83 (τ := τ) (ρ := ρ) hT t163 t167) (fun r170 h170 q170 => ?_)
      obtain ⟨T170, F170, z170, ez170, lz170, uz170⟩ := q170
      subst ez170
      have f170 := hF0.tr (F170.up (by decide))
      exact pw_ireturn d63_173 tt63 ⟨T170, f170, z170, rfl, (by omega), (by omega)⟩
    exfalso; omega
  · refine pw_bipush d63_10 (by decide) ?_
    exact pw_ireturn d63_12 tt63 ⟨hT, hF0, (-2), rfl, (by omega), (by omega)⟩

abbrev Q84 (τ : Nat → Option Nat) (ρ : Nat → Nat → Nat) (h : pv_H) (a0 : Nat) (x1 : Int) (x2 : Int) : Option Value → pv_H → Prop := fun r h' => h = h' ∧ ∃ z : Int, r = some (.int (pv_I z)) ∧ (-2) ≤ z ∧ z ≤ 32
set_option maxHeartbeats 4000000 in
set_option maxRecDepth 20000 in
/-- AngleNet.round(II)I -/
theorem ct84 {τ : Nat → Option Nat} {ρ : Nat → Nat → Nat} {K : Nat → Nat} {h : pv_H} {a0 : Nat} {x1 : Int} {x2 : Int} (hT : pv_Ty τ ρ h) (hA0 : τ a0 = some 0) (hX1 : (-2147483648) ≤ x1 ∧ x1 ≤ 2147483647) (hX2 : (-2147483648) ≤ x2 ∧ x2 ≤ 2147483647) : pv_C K 84 [.ref a0, .int (pv_I x1), .int (pv_I x2)] h (Q84 τ ρ h a0 x1 x2) := by
  refine pw_entry 0 ?_
  show pv_T K 84 0 (pv_fl [some (.ref a0), some (.int (pv_I x1)), some (.int (pv_I x2))]) [] h (Q84 τ ρ h a0 x1 x2)
  refine pw_aload_n d84_0 rfl ?_
  refine pw_getR d84_1 g84_19 hT hA0 rfl rfl (fun t1 => ?_)
  have t1 : τ (ρ a0 1) = some 2 := t1
  refine pw_iload_n d84_4 rfl ?_
  refine pw_callV1 d84_5 k84_101 hT t1 rfl rfl rfl (ct48 (τ := τ) (ρ := ρ) hT t1 (by omega)) (fun r5 h5 q5 => ?_)
  obtain ⟨eh5, z5, ez5, lz5, uz5, pz5_0⟩ := q5
  subst eh5
  subst ez5
  refine pw_if_ne d84_8 rfl (by omega) (fun c8 => ?_) (fun c8 => ?_)
  · refine pw_aload_n d84_14 rfl ?_
    refine pw_getR d84_15 g84_44 hT hA0 rfl rfl (fun t15 => ?_)
    have t15 : τ (ρ a0 6) = some 4 := t15
    refine pw_aload_n d84_18 rfl ?_
    refine pw_getR d84_19 g84_19 hT hA0 rfl rfl (fun t19 => ?_)
    have t19 : τ (ρ a0 1) = some 2 := t19
    refine pw_callV1 d84_22 k84_136 hT t15 rfl rfl rfl (ct69 (τ := τ) (ρ := ρ) hT t15 t19) (fun r22 h22 q22 => ?_)
    obtain ⟨eh22, z22, ez22, lz22, uz22⟩ := q22
    subst eh22
    subst ez22
    refine pw_if_ne d84_25 rfl (by omega) (fun c25 => ?_) (fun c25 => ?_)
    · refine pw_aload_n d84_30 rfl ?_
      refine pw_getR d84_31 g84_44 hT hA0 rfl rfl (fun t31 => ?_)
      have t31 : τ (ρ a0 6) = some 4 := t31
      refine pw_aload_n d84_34 rfl ?_
      refine pw_getR d84_35 g84_19 hT hA0 rfl rfl (fun t35 => ?_)
      have t35 : τ (ρ a0 1) = some 2 := t35
      refine pw_iload_n d84_38 rfl ?_
      refine pw_iload_n d84_39 rfl ?_
      refine pw_callV3 d84_40 k84_155 hT t31 rfl rfl rfl (ct85 (τ := τ) (ρ := ρ) hT t31 t35 (by omega) (by omega)) (fun r40 h40 q40 => ?_)
      obtain ⟨eh40, z40, ez40, lz40, uz40⟩ := q40
      subst eh40
      subst ez40
      exact pw_ireturn d84_43 tt84 ⟨rfl, z40, rfl, (by omega), (by omega)⟩
    · refine pw_iconst d84_28 ?_
      exact pw_ireturn d84_29 tt84 ⟨rfl, (-1), rfl, (by omega), (by omega)⟩
  · refine pw_bipush d84_11 (by decide) ?_
    exact pw_ireturn d84_13 tt84 ⟨rfl, (-2), rfl, (by omega), (by omega)⟩

abbrev Q91 (τ : Nat → Option Nat) (ρ : Nat → Nat → Nat) (h : pv_H) (a0 : Nat) : Option Value → pv_H → Prop := fun r h' => h = h' ∧ ∃ z : Int, r = some (.int (pv_I z)) ∧ (-2147483648) ≤ z ∧ z ≤ 2147483647
set_option maxHeartbeats 4000000 in
set_option maxRecDepth 20000 in
/-- AngleNet.over()I -/
theorem ct91 {τ : Nat → Option Nat} {ρ : Nat → Nat → Nat} {K : Nat → Nat} {h : pv_H} {a0 : Nat} (hT : pv_Ty τ ρ h) (hA0 : τ a0 = some 0) : pv_C K 91 [.ref a0] h (Q91 τ ρ h a0) := by
  refine pw_entry 2 ?_
  show pv_T K 91 0 (pv_fl [some (.ref a0), none, none]) [] h (Q91 τ ρ h a0)
  have L78 : ∀ (nn : Nat) (xL1_78 xL2_78 : Int), ((-2147483648) ≤ xL1_78 ∧ xL1_78 ≤ 2147483647) → (0 ≤ xL2_78 ∧ xL2_78 ≤ 18) → 18 - xL2_78 < nn → pv_T K 91 78 (pv_fl [some (.ref a0), some (.int (pv_I xL1_78)), some (.int (pv_I xL2_78))]) [] h (Q91 τ ρ h a0) := by
    intro nn
    induction nn with
    | zero => intro xL1_78 xL2_78 rL1_78 rL2_78 hm; exfalso; omega
    | succ nn ih78 =>
      intro xL1_78 xL2_78 rL1_78 rL2_78 hm78
      refine pw_iload_n d91_78 rfl ?_
      refine pw_aload_n d91_79 rfl ?_
      refine pw_getR d91_80 g91_19 hT hA0 rfl rfl (fun t80 => ?_)
      have t80 : τ (ρ a0 1) = some 2 := t80
      refine pw_getI d91_83 g91_163 hT t80 rfl rfl (fun u83 vu83 => ?_)
      refine pw_icmp_ge d91_86 rfl (by omega) (by omega) (fun c86 => ?_) (fun c86 => ?_)
      · refine pw_iload_n d91_107 rfl ?_
        exact pw_ireturn d91_108 tt91 ⟨rfl, xL1_78, rfl, (by omega), (by omega)⟩
      · refine pw_iload_n d91_89 rfl ?_
        refine pw_aload_n d91_90 rfl ?_
        refine pw_getR d91_91 g91_19 hT hA0 rfl rfl (fun t91 => ?_)
        have t91 : τ (ρ a0 1) = some 2 := t91
        refine pw_getR d91_94 g91_94 hT t91 rfl rfl (fun t94 => ?_)
        have t94 : τ (ρ (ρ a0 1) 6) = some 21 := t94
        refine pw_iload_n d91_97 rfl ?_
        refine pw_iald d91_98 hT t94 rfl rfl (by omega) (by omega) (fun u98 vu98 => ?_)
        refine pw_isub d91_99 ?_
        refine pw_any (fun z100 hz100 ez100 => ?_)
        refine pw_istore_n d91_100 m91 rfl rfl ?_
        refine pw_iinc d91_101 m91 rfl rfl rfl ?_
        refine pw_goto d91_104 rfl ?_
        exact ih78 (z100) ((xL2_78 + 1)) (by omega) (by omega) (by omega)
  have L17 : ∀ (nn : Nat) (xL1_17 xL2_17 : Int), ((-2147483648) ≤ xL1_17 ∧ xL1_17 ≤ 2147483647) → (0 ≤ xL2_17 ∧ xL2_17 ≤ 10) → 10 - xL2_17 < nn → pv_T K 91 17 (pv_fl [some (.ref a0), some (.int (pv_I xL1_17)), some (.int (pv_I xL2_17))]) [] h (Q91 τ ρ h a0) := by
    intro nn
    induction nn with
    | zero => intro xL1_17 xL2_17 rL1_17 rL2_17 hm; exfalso; omega
    | succ nn ih17 =>
      intro xL1_17 xL2_17 rL1_17 rL2_17 hm17
      have J70 : ∀ (xL1_70 : Int), ((-2147483648) ≤ xL1_70 ∧ xL1_70 ≤ 2147483647) → (0 ≤ xL2_17 ∧ xL2_17 ≤ 9) → pv_T K 91 70 (pv_fl [some (.ref a0), some (.int (pv_I xL1_70)), some (.int (pv_I xL2_17))]) [] h (Q91 τ ρ h a0) := by
        intro xL1_70 rL1_70 rL2_70
        refine pw_iinc d91_70 m91 rfl rfl rfl ?_
        refine pw_goto d91_73 rfl ?_
        exact ih17 (xL1_70) ((xL2_17 + 1)) (by omega) (by omega) (by omega)
      refine pw_iload_n d91_17 rfl ?_
      refine pw_aload_n d91_18 rfl ?_
      refine pw_getR d91_19 g91_19 hT hA0 rfl rfl (fun t19 => ?_)
      have t19 : τ (ρ a0 1) = some 2 := t19
      refine pw_getI d91_22 g91_160 hT t19 rfl rfl (fun u22 vu22 => ?_)
      refine pw_icmp_ge d91_25 rfl (by omega) (by omega) (fun c25 => ?_) (fun c25 => ?_)
      · refine pw_iconst d91_76 ?_
        refine pw_istore_n d91_77 m91 rfl rfl ?_
        exact L78 _ (xL1_17) (0) (by omega) (by omega) (pv_mu _)
      · refine pw_aload_n d91_28 rfl ?_
        refine pw_getR d91_29 g91_19 hT hA0 rfl rfl (fun t29 => ?_)
        have t29 : τ (ρ a0 1) = some 2 := t29
        refine pw_getR d91_32 g91_104 hT t29 rfl rfl (fun t32 => ?_)
        have t32 : τ (ρ (ρ a0 1) 7) = some 22 := t32
        refine pw_iload_n d91_35 rfl ?_
        refine pw_iald d91_36 hT t32 rfl rfl (by omega) (by omega) (fun u36 vu36 => ?_)
        refine pw_iconst d91_37 ?_
        refine pw_icmp_eq d91_38 rfl (by omega) (by omega) (fun c38 => ?_) (fun c38 => ?_)
        · refine pw_aload_n d91_56 rfl ?_
          refine pw_getR d91_57 g91_19 hT hA0 rfl rfl (fun t57 => ?_)
          have t57 : τ (ρ a0 1) = some 2 := t57
          refine pw_iload_n d91_60 rfl ?_
          refine pw_callV1 d91_61 k91_116 hT t57 rfl rfl rfl (ct57 (τ := τ) (ρ := ρ) hT t57 (by omega)) (fun r61 h61 q61 => ?_)
          obtain ⟨eh61, z61, ez61, lz61, uz61⟩ := q61
          subst eh61
          subst ez61
          refine pw_if_le d91_64 rfl (by omega) (fun c64 => ?_) (fun c64 => ?_)
          · exact J70 (xL1_17) (by omega) (by omega)
          · refine pw_ldc (v := pv_I (-1000000)) d91_67 n91_67 ?_
            exact pw_ireturn d91_69 tt91 ⟨rfl, (-1000000), rfl, (by omega), (by omega)⟩
        · refine pw_iload_n d91_41 rfl ?_
          refine pw_aload_n d91_42 rfl ?_
          refine pw_getR d91_43 g91_19 hT hA0 rfl rfl (fun t43 => ?_)
          have t43 : τ (ρ a0 1) = some 2 := t43
          refine pw_getR d91_46 g91_104 hT t43 rfl rfl (fun t46 => ?_)
          have t46 : τ (ρ (ρ a0 1) 7) = some 22 := t46
          refine pw_iload_n d91_49 rfl ?_
          refine pw_iald d91_50 hT t46 rfl rfl (by omega) (by omega) (fun u50 vu50 => ?_)
          refine pw_iadd d91_51 ?_
          refine pw_any (fun z52 hz52 ez52 => ?_)
          refine pw_istore_n d91_52 m91 rfl rfl ?_
          refine pw_goto d91_53 rfl ?_
          exact J70 (z52) (by omega) (by omega)
  refine pw_aload_n d91_0 rfl ?_
  refine pw_getR d91_1 g91_19 hT hA0 rfl rfl (fun t1 => ?_)
  have t1 : τ (ρ a0 1) = some 2 := t1
  refine pw_callV0 d91_4 k91_129 hT t1 rfl rfl rfl (ct64 (τ := τ) (ρ := ρ) hT t1) (fun r4 h4 q4 => ?_)
  obtain ⟨eh4, z4, ez4, lz4, uz4⟩ := q4
  subst eh4
  subst ez4
  refine pw_if_ne d91_7 rfl (by omega) (fun c7 => ?_) (fun c7 => ?_)
  · refine pw_iconst d91_13 ?_
    refine pw_istore_n d91_14 m91 rfl rfl ?_
    refine pw_iconst d91_15 ?_
    refine pw_istore_n d91_16 m91 rfl rfl ?_
    exact L17 _ (0) (0) (by omega) (by omega) (pv_mu _)
  · refine pw_ldc (v := pv_I (-1000000)) d91_10 n91_10 ?_
    exact pw_ireturn d91_12 tt91 ⟨rfl, (-1000000), rfl, (by omega), (by omega)⟩

abbrev Q92 (τ : Nat → Option Nat) (ρ : Nat → Nat → Nat) (h : pv_H) (a0 : Nat) : Option Value → pv_H → Prop := fun r h' => pv_Ty τ ρ h' ∧ pv_Fr τ [323, 324, 325, 326, 327, 2239, 2303, 2367] h h' ∧ ∃ z : Int, r = some (.int (pv_I z)) ∧ (-2) ≤ z ∧ z ≤ 1
set_option maxHeartbeats 4000000 in
set_option maxRecDepth 20000 in
/-- AngleNet.can()I -/
theorem ct92 {τ : Nat → Option Nat} {ρ : Nat → Nat → Nat} {K : Nat → Nat} {h : pv_H} {a0 : Nat} (hT : pv_Ty τ ρ h) (hA0 : τ a0 = some 0) : pv_C K 92 [.ref a0] h (Q92 τ ρ h a0) := by
  refine pw_entry 0 ?_
  show pv_T K 92 0 (pv_fl [some (.ref a0)]) [] h (Q92 τ ρ h a0)
  have hF0 : pv_Fr τ [323, 324, 325, 326, 327, 2239, 2303, 2367] h h := pv_Fr.rf
  refine pw_aload_n d92_0 rfl ?_
  refine pw_getR d92_1 g92_19 hT hA0 rfl rfl (fun t1 => ?_)
  have t1 : τ (ρ a0 1) = some 2 := t1
  refine pw_callV0 d92_4 k92_129 hT t1 rfl rfl rfl (ct64 (τ := τ) (ρ := ρ) hT t1) (fun r4 h4 q4 => ?_)
  obtain ⟨eh4, z4, ez4, lz4, uz4⟩ := q4
  subst eh4
  subst ez4
  refine pw_if_ne d92_7 rfl (by omega) (fun c7 => ?_) (fun c7 => ?_)
  · refine pw_aload_n d92_13 rfl ?_
    refine pw_getR d92_14 g92_51 hT hA0 rfl rfl (fun t14 => ?_)
    have t14 : τ (ρ a0 7) = some 5 := t14
    refine pw_aload_n d92_17 rfl ?_
    refine pw_getR d92_18 g92_19 hT hA0 rfl rfl (fun t18 => ?_)
    have t18 : τ (ρ a0 1) = some 2 := t18
    refine pw_callV1 d92_21 k92_166 hT t14 rfl rfl rfl (ct93 (τ := τ) (ρ := ρ) hT t14 t18) (fun r21 h21 q21 => ?_)
    obtain ⟨T21, F21, z21, ez21, lz21, uz21⟩ := q21
    subst ez21
    have f21 := hF0.tr (F21.up (by decide))
    refine pw_iconst d92_24 ?_
    refine pw_icmp_ne d92_25 rfl (by omega) (by omega) (fun c25 => ?_) (fun c25 => ?_)
    · refine pw_iconst d92_32 ?_
      exact pw_ireturn d92_33 tt92 ⟨T21, f21, 0, rfl, (by omega), (by omega)⟩
    · refine pw_iconst d92_28 ?_
      refine pw_goto d92_29 rfl ?_
      exact pw_ireturn d92_33 tt92 ⟨T21, f21, 1, rfl, (by omega), (by omega)⟩
  · refine pw_bipush d92_10 (by decide) ?_
    exact pw_ireturn d92_12 tt92 ⟨hT, hF0, (-2), rfl, (by omega), (by omega)⟩

abbrev Q103 (τ : Nat → Option Nat) (ρ : Nat → Nat → Nat) (h : pv_H) (a0 : Nat) (x1 : Int) : Option Value → pv_H → Prop := fun r h' => pv_Ty τ ρ h' ∧ pv_Fr τ [323, 324, 325, 326, 327, 2239, 2303, 2367] h h' ∧ ∃ z : Int, r = some (.int (pv_I z)) ∧ (-214748364) ≤ z ∧ z ≤ 214748364
set_option maxHeartbeats 4000000 in
set_option maxRecDepth 20000 in
/-- AngleNet.bars(I)I -/
theorem ct103 {τ : Nat → Option Nat} {ρ : Nat → Nat → Nat} {K : Nat → Nat} {h : pv_H} {a0 : Nat} {x1 : Int} (hT : pv_Ty τ ρ h) (hA0 : τ a0 = some 0) (hX1 : (-2147483648) ≤ x1 ∧ x1 ≤ 2147483647) : pv_C K 103 [.ref a0, .int (pv_I x1)] h (Q103 τ ρ h a0 x1) := by
  refine pw_entry 1 ?_
  show pv_T K 103 0 (pv_fl [some (.ref a0), some (.int (pv_I x1)), none]) [] h (Q103 τ ρ h a0 x1)
  have hF0 : pv_Fr τ [323, 324, 325, 326, 327, 2239, 2303, 2367] h h := pv_Fr.rf
  refine pw_aload_n d103_0 rfl ?_
  refine pw_getR d103_1 g103_19 hT hA0 rfl rfl (fun t1 => ?_)
  have t1 : τ (ρ a0 1) = some 2 := t1
  refine pw_callV0 d103_4 k103_129 hT t1 rfl rfl rfl (ct64 (τ := τ) (ρ := ρ) hT t1) (fun r4 h4 q4 => ?_)
  obtain ⟨eh4, z4, ez4, lz4, uz4⟩ := q4
  subst eh4
  subst ez4
  refine pw_if_eq d103_7 rfl (by omega) (fun c7 => ?_) (fun c7 => ?_)
  · refine pw_bipush d103_19 (by decide) ?_
    exact pw_ireturn d103_21 tt103 ⟨hT, hF0, (-2), rfl, (by omega), (by omega)⟩
  · refine pw_iload_n d103_10 rfl ?_
    refine pw_if_lt d103_11 rfl (by omega) (fun c11 => ?_) (fun c11 => ?_)
    · refine pw_bipush d103_19 (by decide) ?_
      exact pw_ireturn d103_21 tt103 ⟨hT, hF0, (-2), rfl, (by omega), (by omega)⟩
    · refine pw_iload_n d103_14 rfl ?_
      refine pw_iconst d103_15 ?_
      refine pw_icmp_le d103_16 rfl (by omega) (by omega) (fun c16 => ?_) (fun c16 => ?_)
      · refine pw_aload_n d103_22 rfl ?_
        refine pw_getR d103_23 g103_51 hT hA0 rfl rfl (fun t23 => ?_)
        have t23 : τ (ρ a0 7) = some 5 := t23
        refine pw_aload_n d103_26 rfl ?_
        refine pw_getR d103_27 g103_19 hT hA0 rfl rfl (fun t27 => ?_)
        have t27 : τ (ρ a0 1) = some 2 := t27
        refine pw_callV1 d103_30 k103_166 hT t23 rfl rfl rfl (ct93 (τ := τ) (ρ := ρ) hT t23 t27) (fun r30 h30 q30 => ?_)
        obtain ⟨T30, F30, z30, ez30, lz30, uz30⟩ := q30
        subst ez30
        have f30 := hF0.tr (F30.up (by decide))
        refine pw_istore_n d103_33 m103 rfl rfl ?_
        refine pw_iload_n d103_34 rfl ?_
        refine pw_iconst d103_35 ?_
        refine pw_icmp_ne d103_36 rfl (by omega) (by omega) (fun c36 => ?_) (fun c36 => ?_)
        · refine pw_iload_n d103_41 rfl ?_
          refine pw_if_ne d103_42 rfl (by omega) (fun c42 => ?_) (fun c42 => ?_)
          · refine pw_iload_n d103_52 rfl ?_
            refine pw_bipush d103_53 (by decide) ?_
            refine pw_iremT d103_55 (by omega) (by omega) (by omega) (fun z55 hz55 ez55 => ?_)
            exact pw_ireturn d103_56 tt103 ⟨T30, f30, z55, rfl, (by omega), (by omega)⟩
          · refine pw_iload_n d103_45 rfl ?_
            refine pw_bipush d103_46 (by decide) ?_
            refine pw_idivT d103_48 (by omega) (by omega) (by omega) (fun z48 hz48 ez48 => ?_)
            refine pw_goto d103_49 rfl ?_
            exact pw_ireturn d103_56 tt103 ⟨T30, f30, z48, rfl, (by omega), (by omega)⟩
        · refine pw_iconst d103_39 ?_
          exact pw_ireturn d103_40 tt103 ⟨T30, f30, (-1), rfl, (by omega), (by omega)⟩
      · refine pw_bipush d103_19 (by decide) ?_
        exact pw_ireturn d103_21 tt103 ⟨hT, hF0, (-2), rfl, (by omega), (by omega)⟩

abbrev Q104 (τ : Nat → Option Nat) (ρ : Nat → Nat → Nat) (h : pv_H) (a0 : Nat) (x1 : Int) (x2 : Int) (x3 : Int) : Option Value → pv_H → Prop := fun r h' => pv_Ty τ ρ h' ∧ pv_Fr τ [323, 324, 325, 326, 327, 2239, 2303, 2367] h h' ∧ ∃ z : Int, r = some (.int (pv_I z)) ∧ (-2147483648) ≤ z ∧ z ≤ 2147483647
set_option maxHeartbeats 4000000 in
set_option maxRecDepth 20000 in
/-- AngleNet.range(III)I -/
theorem ct104 {τ : Nat → Option Nat} {ρ : Nat → Nat → Nat} {K : Nat → Nat} {h : pv_H} {a0 : Nat} {x1 : Int} {x2 : Int} {x3 : Int} (hT : pv_Ty τ ρ h) (hA0 : τ a0 = some 0) (hX1 : (-2147483648) ≤ x1 ∧ x1 ≤ 2147483647) (hX2 : (-2147483648) ≤ x2 ∧ x2 ≤ 2147483647) (hX3 : (-2147483648) ≤ x3 ∧ x3 ≤ 2147483647) : pv_C K 104 [.ref a0, .int (pv_I x1), .int (pv_I x2), .int (pv_I x3)] h (Q104 τ ρ h a0 x1 x2 x3) := by
  refine pw_entry 0 ?_
  show pv_T K 104 0 (pv_fl [some (.ref a0), some (.int (pv_I x1)), some (.int (pv_I x2)), some (.int (pv_I x3))]) [] h (Q104 τ ρ h a0 x1 x2 x3)
  have hF0 : pv_Fr τ [323, 324, 325, 326, 327, 2239, 2303, 2367] h h := pv_Fr.rf
  have J64 : ∀ (xS0_64 xS1_64 : Int) (o0_64 o1_64 o2_64 o3_64 : Option Value), (0 ≤ xS0_64 ∧ xS0_64 ≤ 1) → (0 ≤ xS1_64 ∧ xS1_64 ≤ 9) → (0 ≤ x1 ∧ x1 ≤ 17) → (τ (ρ a0 1) = some 2) → (τ (ρ a0 7) = some 5) → pv_T K 104 64 (pv_fl [o0_64, o1_64, o2_64, o3_64]) [.int (pv_I xS0_64), .int (pv_I xS1_64), .int (pv_I x1), .ref (ρ a0 1), .ref (ρ a0 7)] h (Q104 τ ρ h a0 x1 x2 x3) := by
    intro xS0_64 xS1_64 o0_64 o1_64 o2_64 o3_64 rS0_64 rS1_64 rS2_64 t_64_ρa01 t_64_ρa07
    refine pw_callV4 d104_64 k104_169 hT t_64_ρa07 rfl rfl rfl (ct105 (τ := τ) (ρ := ρ) hT t_64_ρa07 t_64_ρa01 (by omega) (by omega) (by omega)) (fun r64 h64 q64 => ?_)
    obtain ⟨T64, F64, z64, ez64, lz64, uz64⟩ := q64
    subst ez64
    have f64 := hF0.tr (F64.up (by decide))
    exact pw_ireturn d104_67 tt104 ⟨T64, f64, z64, rfl, (by omega), (by omega)⟩
  refine pw_aload_n d104_0 rfl ?_
  refine pw_getR d104_1 g104_19 hT hA0 rfl rfl (fun t1 => ?_)
  have t1 : τ (ρ a0 1) = some 2 := t1
  refine pw_iload_n d104_4 rfl ?_
  refine pw_callV1 d104_5 k104_90 hT t1 rfl rfl rfl (ct55 (τ := τ) (ρ := ρ) hT t1 (by omega)) (fun r5 h5 q5 => ?_)
  obtain ⟨eh5, z5, ez5, lz5, uz5, pz5_0⟩ := q5
  subst eh5
  subst ez5
  refine pw_if_eq d104_8 rfl (by omega) (fun c8 => ?_) (fun c8 => ?_)
  · refine pw_bipush d104_29 (by decide) ?_
    exact pw_ireturn d104_31 tt104 ⟨hT, hF0, (-2), rfl, (by omega), (by omega)⟩
  · refine pw_iload_n d104_11 rfl ?_
    refine pw_if_lt d104_12 rfl (by omega) (fun c12 => ?_) (fun c12 => ?_)
    · refine pw_bipush d104_29 (by decide) ?_
      exact pw_ireturn d104_31 tt104 ⟨hT, hF0, (-2), rfl, (by omega), (by omega)⟩
    · refine pw_iload_n d104_15 rfl ?_
      refine pw_iconst d104_16 ?_
      refine pw_icmp_gt d104_17 rfl (by omega) (by omega) (fun c17 => ?_) (fun c17 => ?_)
      · refine pw_bipush d104_29 (by decide) ?_
        exact pw_ireturn d104_31 tt104 ⟨hT, hF0, (-2), rfl, (by omega), (by omega)⟩
      · refine pw_iload_n d104_20 rfl ?_
        refine pw_if_lt d104_21 rfl (by omega) (fun c21 => ?_) (fun c21 => ?_)
        · refine pw_bipush d104_29 (by decide) ?_
          exact pw_ireturn d104_31 tt104 ⟨hT, hF0, (-2), rfl, (by omega), (by omega)⟩
        · refine pw_iload_n d104_24 rfl ?_
          refine pw_iconst d104_25 ?_
          refine pw_icmp_le d104_26 rfl (by omega) (by omega) (fun c26 => ?_) (fun c26 => ?_)
          · refine pw_aload_n d104_32 rfl ?_
            refine pw_getR d104_33 g104_51 hT hA0 rfl rfl (fun t33 => ?_)
            have t33 : τ (ρ a0 7) = some 5 := t33
            refine pw_aload_n d104_36 rfl ?_
            refine pw_getR d104_37 g104_19 hT hA0 rfl rfl (fun t37 => ?_)
            have t37 : τ (ρ a0 1) = some 2 := t37
            refine pw_iload_n d104_40 rfl ?_
            refine pw_aload_n d104_41 rfl ?_
            refine pw_getR d104_42 g104_19 hT hA0 rfl rfl (fun t42 => ?_)
            have t42 : τ (ρ a0 1) = some 2 := t42
            refine pw_getR d104_45 g104_98 hT t42 rfl rfl (fun t45 => ?_)
            have t45 : τ (ρ (ρ a0 1) 5) = some 20 := t45
            refine pw_iconst d104_48 ?_
            refine pw_iload_n d104_49 rfl ?_
            refine pw_imul d104_50 ?_
            refine pw_iload_n d104_51 rfl ?_
            refine pw_iadd d104_52 ?_
            refine pw_iald d104_53 hT t45 rfl rfl (by omega) (by omega) (fun u53 vu53 => ?_)
            refine pw_iload_n d104_54 rfl ?_
            refine pw_iconst d104_55 ?_
            refine pw_icmp_ne d104_56 rfl (by omega) (by omega) (fun c56 => ?_) (fun c56 => ?_)
            · refine pw_iconst d104_63 ?_
              exact J64 (0) ((pv_aI h (ρ (ρ a0 1) 5) (((3 * x1) + x2)).toNat)) _ _ _ _ (by omega) (by omega) (by omega) t42 t33
            · refine pw_iconst d104_59 ?_
              refine pw_goto d104_60 rfl ?_
              exact J64 (1) ((pv_aI h (ρ (ρ a0 1) 5) (((3 * x1) + x2)).toNat)) _ _ _ _ (by omega) (by omega) (by omega) t42 t33
          · refine pw_bipush d104_29 (by decide) ?_
            exact pw_ireturn d104_31 tt104 ⟨hT, hF0, (-2), rfl, (by omega), (by omega)⟩

abbrev Q108 (τ : Nat → Option Nat) (ρ : Nat → Nat → Nat) (h : pv_H) (a0 : Nat) (x1 : Int) (x2 : Int) : Option Value → pv_H → Prop := fun r h' => pv_Ty τ ρ h' ∧ pv_Fr τ [1471] h h' ∧ ∃ z : Int, r = some (.int (pv_I z)) ∧ (-2) ≤ z ∧ z ≤ 3600
set_option maxHeartbeats 4000000 in
set_option maxRecDepth 20000 in
/-- AngleNet.tells(II)I -/
theorem ct108 {τ : Nat → Option Nat} {ρ : Nat → Nat → Nat} {K : Nat → Nat} {h : pv_H} {a0 : Nat} {x1 : Int} {x2 : Int} (hT : pv_Ty τ ρ h) (hA0 : τ a0 = some 0) (hX1 : (-2147483648) ≤ x1 ∧ x1 ≤ 2147483647) (hX2 : (-2147483648) ≤ x2 ∧ x2 ≤ 2147483647) : pv_C K 108 [.ref a0, .int (pv_I x1), .int (pv_I x2)] h (Q108 τ ρ h a0 x1 x2) := by
  refine pw_entry 1 ?_
  show pv_T K 108 0 (pv_fl [some (.ref a0), some (.int (pv_I x1)), some (.int (pv_I x2)), none]) [] h (Q108 τ ρ h a0 x1 x2)
  have hF0 : pv_Fr τ [1471] h h := pv_Fr.rf
  have J52 : ∀ (xL3_52 xS0_52 : Int) (o0_52 o1_52 o2_52 : Option Value), ((-1) ≤ xL3_52 ∧ xL3_52 ≤ 3600) → ((-1) ≤ xS0_52 ∧ xS0_52 ≤ 3600) → (0 ≤ x1 ∧ x1 ≤ 9) → (τ (ρ (ρ a0 1) 7) = some 22) → pv_T K 108 52 (pv_fl [o0_52, o1_52, o2_52, some (.int (pv_I xL3_52))]) [.int (pv_I xS0_52), .int (pv_I x1), .ref (ρ (ρ a0 1) 7)] h (Q108 τ ρ h a0 x1 x2) := by
    intro xL3_52 xS0_52 o0_52 o1_52 o2_52 rL3_52 rS0_52 rS1_52 t_52_ρρa017
    refine pw_iast d108_52 hT t_52_ρρa017 rfl rfl rfl (by omega) (by omega) (by omega) (by omega) (fun h52 T52 F52 E52 => ?_)
    have f52 := hF0.tr (F52.up (by decide))
    refine pw_iload_n d108_53 rfl ?_
    exact pw_ireturn d108_54 tt108 ⟨T52, f52, xL3_52, rfl, (by omega), (by omega)⟩
  refine pw_aload_n d108_0 rfl ?_
  refine pw_getR d108_1 g108_19 hT hA0 rfl rfl (fun t1 => ?_)
  have t1 : τ (ρ a0 1) = some 2 := t1
  refine pw_iload_n d108_4 rfl ?_
  refine pw_callV1 d108_5 k108_101 hT t1 rfl rfl rfl (ct48 (τ := τ) (ρ := ρ) hT t1 (by omega)) (fun r5 h5 q5 => ?_)
  obtain ⟨eh5, z5, ez5, lz5, uz5, pz5_0⟩ := q5
  subst eh5
  subst ez5
  refine pw_if_eq d108_8 rfl (by omega) (fun c8 => ?_) (fun c8 => ?_)
  · refine pw_bipush d108_22 (by decide) ?_
    exact pw_ireturn d108_24 tt108 ⟨hT, hF0, (-2), rfl, (by omega), (by omega)⟩
  · refine pw_iload_n d108_11 rfl ?_
    refine pw_if_lt d108_12 rfl (by omega) (fun c12 => ?_) (fun c12 => ?_)
    · refine pw_bipush d108_22 (by decide) ?_
      exact pw_ireturn d108_24 tt108 ⟨hT, hF0, (-2), rfl, (by omega), (by omega)⟩
    · refine pw_iload_n d108_15 rfl ?_
      refine pw_sipush d108_16 (by decide) ?_
      refine pw_icmp_le d108_19 rfl (by omega) (by omega) (fun c19 => ?_) (fun c19 => ?_)
      · refine pw_aload_n d108_25 rfl ?_
        refine pw_getR d108_26 g108_19 hT hA0 rfl rfl (fun t26 => ?_)
        have t26 : τ (ρ a0 1) = some 2 := t26
        refine pw_getR d108_29 g108_104 hT t26 rfl rfl (fun t29 => ?_)
        have t29 : τ (ρ (ρ a0 1) 7) = some 22 := t29
        refine pw_iload_n d108_32 rfl ?_
        refine pw_iald d108_33 hT t29 rfl rfl (by omega) (by omega) (fun u33 vu33 => ?_)
        refine pw_istore_n d108_34 m108 rfl rfl ?_
        refine pw_aload_n d108_35 rfl ?_
        refine pw_getR d108_36 g108_19 hT hA0 rfl rfl (fun t36 => ?_)
        have t36 : τ (ρ a0 1) = some 2 := t36
        refine pw_getR d108_39 g108_104 hT t36 rfl rfl (fun t39 => ?_)
        have t39 : τ (ρ (ρ a0 1) 7) = some 22 := t39
        refine pw_iload_n d108_42 rfl ?_
        refine pw_iload_n d108_43 rfl ?_
        refine pw_if_ne d108_44 rfl (by omega) (fun c44 => ?_) (fun c44 => ?_)
        · refine pw_iload_n d108_51 rfl ?_
          exact J52 ((pv_aI h (ρ (ρ a0 1) 7) (x1).toNat)) (x2) _ _ _ (by omega) (by omega) (by omega) t39
        · refine pw_iconst d108_47 ?_
          refine pw_goto d108_48 rfl ?_
          exact J52 ((pv_aI h (ρ (ρ a0 1) 7) (x1).toNat)) ((-1)) _ _ _ (by omega) (by omega) (by omega) t39
      · refine pw_bipush d108_22 (by decide) ?_
        exact pw_ireturn d108_24 tt108 ⟨hT, hF0, (-2), rfl, (by omega), (by omega)⟩

abbrev Q109 (τ : Nat → Option Nat) (ρ : Nat → Nat → Nat) (h : pv_H) (a0 : Nat) (x1 : Int) (x2 : Int) : Option Value → pv_H → Prop := fun r h' => pv_Ty τ ρ h' ∧ pv_Fr τ [323, 324, 325, 326, 327, 2239, 2303, 2367] h h' ∧ ∃ z : Int, r = some (.int (pv_I z)) ∧ (-2) ≤ z ∧ z ≤ 3600
set_option maxHeartbeats 4000000 in
set_option maxRecDepth 20000 in
/-- AngleNet.free(II)I -/
theorem ct109 {τ : Nat → Option Nat} {ρ : Nat → Nat → Nat} {K : Nat → Nat} {h : pv_H} {a0 : Nat} {x1 : Int} {x2 : Int} (hT : pv_Ty τ ρ h) (hA0 : τ a0 = some 0) (hX1 : (-2147483648) ≤ x1 ∧ x1 ≤ 2147483647) (hX2 : (-2147483648) ≤ x2 ∧ x2 ≤ 2147483647) : pv_C K 109 [.ref a0, .int (pv_I x1), .int (pv_I x2)] h (Q109 τ ρ h a0 x1 x2) := by
  refine pw_entry 0 ?_
  show pv_T K 109 0 (pv_fl [some (.ref a0), some (.int (pv_I x1)), some (.int (pv_I x2))]) [] h (Q109 τ ρ h a0 x1 x2)
  have hF0 : pv_Fr τ [323, 324, 325, 326, 327, 2239, 2303, 2367] h h := pv_Fr.rf
  have J53 : ∀ (xS0_53 : Int) (o0_53 o1_53 o2_53 : Option Value), (0 ≤ xS0_53 ∧ xS0_53 ≤ 1) → (0 ≤ x1 ∧ x1 ≤ 9) → (τ (ρ a0 1) = some 2) → (τ (ρ a0 7) = some 5) → pv_T K 109 53 (pv_fl [o0_53, o1_53, o2_53]) [.int (pv_I xS0_53), .int (pv_I x1), .ref (ρ a0 1), .ref (ρ a0 7)] h (Q109 τ ρ h a0 x1 x2) := by
    intro xS0_53 o0_53 o1_53 o2_53 rS0_53 rS1_53 t_53_ρa01 t_53_ρa07
    refine pw_callV3 d109_53 k109_173 hT t_53_ρa07 rfl rfl rfl (ct110 (τ := τ) (ρ := ρ) hT t_53_ρa07 t_53_ρa01 (by omega) (by omega)) (fun r53 h53 q53 => ?_)
    obtain ⟨T53, F53, z53, ez53, lz53, uz53⟩ := q53
    subst ez53
    have f53 := hF0.tr (F53.up (by decide))
    exact pw_ireturn d109_56 tt109 ⟨T53, f53, z53, rfl, (by omega), (by omega)⟩
  refine pw_aload_n d109_0 rfl ?_
  refine pw_getR d109_1 g109_19 hT hA0 rfl rfl (fun t1 => ?_)
  have t1 : τ (ρ a0 1) = some 2 := t1
  refine pw_iload_n d109_4 rfl ?_
  refine pw_callV1 d109_5 k109_101 hT t1 rfl rfl rfl (ct48 (τ := τ) (ρ := ρ) hT t1 (by omega)) (fun r5 h5 q5 => ?_)
  obtain ⟨eh5, z5, ez5, lz5, uz5, pz5_0⟩ := q5
  subst eh5
  subst ez5
  refine pw_if_eq d109_8 rfl (by omega) (fun c8 => ?_) (fun c8 => ?_)
  · refine pw_bipush d109_31 (by decide) ?_
    exact pw_ireturn d109_33 tt109 ⟨hT, hF0, (-2), rfl, (by omega), (by omega)⟩
  · refine pw_iload_n d109_11 rfl ?_
    refine pw_if_lt d109_12 rfl (by omega) (fun c12 => ?_) (fun c12 => ?_)
    · refine pw_bipush d109_31 (by decide) ?_
      exact pw_ireturn d109_33 tt109 ⟨hT, hF0, (-2), rfl, (by omega), (by omega)⟩
    · refine pw_iload_n d109_15 rfl ?_
      refine pw_iconst d109_16 ?_
      refine pw_icmp_gt d109_17 rfl (by omega) (by omega) (fun c17 => ?_) (fun c17 => ?_)
      · refine pw_bipush d109_31 (by decide) ?_
        exact pw_ireturn d109_33 tt109 ⟨hT, hF0, (-2), rfl, (by omega), (by omega)⟩
      · refine pw_aload_n d109_20 rfl ?_
        refine pw_getR d109_21 g109_19 hT hA0 rfl rfl (fun t21 => ?_)
        have t21 : τ (ρ a0 1) = some 2 := t21
        refine pw_iload_n d109_24 rfl ?_
        refine pw_callV1 d109_25 k109_116 hT t21 rfl rfl rfl (ct57 (τ := τ) (ρ := ρ) hT t21 (by omega)) (fun r25 h25 q25 => ?_)
        obtain ⟨eh25, z25, ez25, lz25, uz25⟩ := q25
        subst eh25
        subst ez25
        refine pw_if_ne d109_28 rfl (by omega) (fun c28 => ?_) (fun c28 => ?_)
        · refine pw_aload_n d109_34 rfl ?_
          refine pw_getR d109_35 g109_51 hT hA0 rfl rfl (fun t35 => ?_)
          have t35 : τ (ρ a0 7) = some 5 := t35
          refine pw_aload_n d109_38 rfl ?_
          refine pw_getR d109_39 g109_19 hT hA0 rfl rfl (fun t39 => ?_)
          have t39 : τ (ρ a0 1) = some 2 := t39
          refine pw_iload_n d109_42 rfl ?_
          refine pw_iload_n d109_43 rfl ?_
          refine pw_iconst d109_44 ?_
          refine pw_icmp_ne d109_45 rfl (by omega) (by omega) (fun c45 => ?_) (fun c45 => ?_)
          · refine pw_iconst d109_52 ?_
            exact J53 (0) _ _ _ (by omega) (by omega) t39 t35
          · refine pw_iconst d109_48 ?_
            refine pw_goto d109_49 rfl ?_
            exact J53 (1) _ _ _ (by omega) (by omega) t39 t35
        · refine pw_bipush d109_31 (by decide) ?_
          exact pw_ireturn d109_33 tt109 ⟨hT, hF0, (-2), rfl, (by omega), (by omega)⟩

abbrev Q111 (τ : Nat → Option Nat) (ρ : Nat → Nat → Nat) (h : pv_H) (a0 : Nat) (x1 : Int) (x2 : Int) (x3 : Int) : Option Value → pv_H → Prop := fun r h' => h = h' ∧ ∃ z : Int, r = some (.int (pv_I z)) ∧ (-2147483648) ≤ z ∧ z ≤ 2147483647 ∧ (z ≠ -1000000 → 0 ≤ x1 ∧ x1 ≤ 9 ∧ 0 ≤ x2 ∧ x2 ≤ 9 ∧ 0 ≤ x3 ∧ x3 ≤ 9)
set_option maxHeartbeats 4000000 in
set_option maxRecDepth 20000 in
/-- AngleNet.turn(III)I -/
theorem ct111 {τ : Nat → Option Nat} {ρ : Nat → Nat → Nat} {K : Nat → Nat} {h : pv_H} {a0 : Nat} {x1 : Int} {x2 : Int} {x3 : Int} (hT : pv_Ty τ ρ h) (hA0 : τ a0 = some 0) (hX1 : (-2147483648) ≤ x1 ∧ x1 ≤ 2147483647) (hX2 : (-2147483648) ≤ x2 ∧ x2 ≤ 2147483647) (hX3 : (-2147483648) ≤ x3 ∧ x3 ≤ 2147483647) : pv_C K 111 [.ref a0, .int (pv_I x1), .int (pv_I x2), .int (pv_I x3)] h (Q111 τ ρ h a0 x1 x2 x3) := by
  refine pw_entry 0 ?_
  show pv_T K 111 0 (pv_fl [some (.ref a0), some (.int (pv_I x1)), some (.int (pv_I x2)), some (.int (pv_I x3))]) [] h (Q111 τ ρ h a0 x1 x2 x3)
  refine pw_aload_n d111_0 rfl ?_
  refine pw_getR d111_1 g111_19 hT hA0 rfl rfl (fun t1 => ?_)
  have t1 : τ (ρ a0 1) = some 2 := t1
  refine pw_iload_n d111_4 rfl ?_
  refine pw_callV1 d111_5 k111_177 hT t1 rfl rfl rfl (ct112 (τ := τ) (ρ := ρ) hT t1 (by omega)) (fun r5 h5 q5 => ?_)
  obtain ⟨eh5, z5, ez5, lz5, uz5, pz5_0⟩ := q5
  subst eh5
  subst ez5
  refine pw_if_eq d111_8 rfl (by omega) (fun c8 => ?_) (fun c8 => ?_)
  · refine pw_ldc (v := pv_I (-1000000)) d111_48 n111_48 ?_
    exact pw_ireturn d111_50 tt111 ⟨rfl, (-1000000), rfl, (by omega), (by omega), (by omega)⟩
  · refine pw_aload_n d111_11 rfl ?_
    refine pw_getR d111_12 g111_19 hT hA0 rfl rfl (fun t12 => ?_)
    have t12 : τ (ρ a0 1) = some 2 := t12
    refine pw_iload_n d111_15 rfl ?_
    refine pw_callV1 d111_16 k111_177 hT t12 rfl rfl rfl (ct112 (τ := τ) (ρ := ρ) hT t12 (by omega)) (fun r16 h16 q16 => ?_)
    obtain ⟨eh16, z16, ez16, lz16, uz16, pz16_0⟩ := q16
    subst eh16
    subst ez16
    refine pw_if_eq d111_19 rfl (by omega) (fun c19 => ?_) (fun c19 => ?_)
    · refine pw_ldc (v := pv_I (-1000000)) d111_48 n111_48 ?_
      exact pw_ireturn d111_50 tt111 ⟨rfl, (-1000000), rfl, (by omega), (by omega), (by omega)⟩
    · refine pw_aload_n d111_22 rfl ?_
      refine pw_getR d111_23 g111_19 hT hA0 rfl rfl (fun t23 => ?_)
      have t23 : τ (ρ a0 1) = some 2 := t23
      refine pw_iload_n d111_26 rfl ?_
      refine pw_callV1 d111_27 k111_177 hT t23 rfl rfl rfl (ct112 (τ := τ) (ρ := ρ) hT t23 (by omega)) (fun r27 h27 q27 => ?_)
      obtain ⟨eh27, z27, ez27, lz27, uz27, pz27_0⟩ := q27
      subst eh27
      subst ez27
      refine pw_if_eq d111_30 rfl (by omega) (fun c30 => ?_) (fun c30 => ?_)
      · refine pw_ldc (v := pv_I (-1000000)) d111_48 n111_48 ?_
        exact pw_ireturn d111_50 tt111 ⟨rfl, (-1000000), rfl, (by omega), (by omega), (by omega)⟩
      · refine pw_iload_n d111_33 rfl ?_
        refine pw_iload_n d111_34 rfl ?_
        refine pw_icmp_eq d111_35 rfl (by omega) (by omega) (fun c35 => ?_) (fun c35 => ?_)
        · refine pw_ldc (v := pv_I (-1000000)) d111_48 n111_48 ?_
          exact pw_ireturn d111_50 tt111 ⟨rfl, (-1000000), rfl, (by omega), (by omega), (by omega)⟩
        · refine pw_iload_n d111_38 rfl ?_
          refine pw_iload_n d111_39 rfl ?_
          refine pw_icmp_eq d111_40 rfl (by omega) (by omega) (fun c40 => ?_) (fun c40 => ?_)
          · refine pw_ldc (v := pv_I (-1000000)) d111_48 n111_48 ?_
            exact pw_ireturn d111_50 tt111 ⟨rfl, (-1000000), rfl, (by omega), (by omega), (by omega)⟩
          · refine pw_iload_n d111_43 rfl ?_
            refine pw_iload_n d111_44 rfl ?_
            refine pw_icmp_ne d111_45 rfl (by omega) (by omega) (fun c45 => ?_) (fun c45 => ?_)
            · refine pw_aload_n d111_51 rfl ?_
              refine pw_getR d111_52 g111_19 hT hA0 rfl rfl (fun t52 => ?_)
              have t52 : τ (ρ a0 1) = some 2 := t52
              refine pw_iload_n d111_55 rfl ?_
              refine pw_iload_n d111_56 rfl ?_
              refine pw_iload_n d111_57 rfl ?_
              refine pw_callS4 d111_58 k111_180 rfl rfl (ct113 (τ := τ) (ρ := ρ) hT t52 (by omega) (by omega) (by omega)) (fun r58 h58 q58 => ?_)
              obtain ⟨eh58, z58, ez58, lz58, uz58⟩ := q58
              subst eh58
              subst ez58
              exact pw_ireturn d111_61 tt111 ⟨rfl, z58, rfl, (by omega), (by omega), (by omega)⟩
            · refine pw_ldc (v := pv_I (-1000000)) d111_48 n111_48 ?_
              exact pw_ireturn d111_50 tt111 ⟨rfl, (-1000000), rfl, (by omega), (by omega), (by omega)⟩

abbrev Q114 (τ : Nat → Option Nat) (ρ : Nat → Nat → Nat) (h : pv_H) (a0 : Nat) (x1 : Int) (x2 : Int) (x3 : Int) (x4 : Int) : Option Value → pv_H → Prop := fun r h' => h = h' ∧ ∃ z : Int, r = some (.int (pv_I z)) ∧ (-2147483648) ≤ z ∧ z ≤ 2147483647
set_option maxHeartbeats 4000000 in
set_option maxRecDepth 20000 in
/-- AngleNet.inside(IIII)I -/
theorem ct114 {τ : Nat → Option Nat} {ρ : Nat → Nat → Nat} {K : Nat → Nat} {h : pv_H} {a0 : Nat} {x1 : Int} {x2 : Int} {x3 : Int} {x4 : Int} (hT : pv_Ty τ ρ h) (hA0 : τ a0 = some 0) (hX1 : (-2147483648) ≤ x1 ∧ x1 ≤ 2147483647) (hX2 : (-2147483648) ≤ x2 ∧ x2 ≤ 2147483647) (hX3 : (-2147483648) ≤ x3 ∧ x3 ≤ 2147483647) (hX4 : (-2147483648) ≤ x4 ∧ x4 ≤ 2147483647) : pv_C K 114 [.ref a0, .int (pv_I x1), .int (pv_I x2), .int (pv_I x3), .int (pv_I x4)] h (Q114 τ ρ h a0 x1 x2 x3 x4) := by
  refine pw_entry 1 ?_
  show pv_T K 114 0 (pv_fl [some (.ref a0), some (.int (pv_I x1)), some (.int (pv_I x2)), some (.int (pv_I x3)), some (.int (pv_I x4)), none]) [] h (Q114 τ ρ h a0 x1 x2 x3 x4)
  refine pw_aload_n d114_0 rfl ?_
  refine pw_getR d114_1 g114_19 hT hA0 rfl rfl (fun t1 => ?_)
  have t1 : τ (ρ a0 1) = some 2 := t1
  refine pw_iload d114_4 rfl ?_
  refine pw_callV1 d114_6 k114_177 hT t1 rfl rfl rfl (ct112 (τ := τ) (ρ := ρ) hT t1 (by omega)) (fun r6 h6 q6 => ?_)
  obtain ⟨eh6, z6, ez6, lz6, uz6, pz6_0⟩ := q6
  subst eh6
  subst ez6
  refine pw_if_eq d114_9 rfl (by omega) (fun c9 => ?_) (fun c9 => ?_)
  · refine pw_ldc (v := pv_I (-1000000)) d114_30 n114_30 ?_
    exact pw_ireturn d114_32 tt114 ⟨rfl, (-1000000), rfl, (by omega), (by omega)⟩
  · refine pw_iload d114_12 rfl ?_
    refine pw_iload_n d114_14 rfl ?_
    refine pw_icmp_eq d114_15 rfl (by omega) (by omega) (fun c15 => ?_) (fun c15 => ?_)
    · refine pw_ldc (v := pv_I (-1000000)) d114_30 n114_30 ?_
      exact pw_ireturn d114_32 tt114 ⟨rfl, (-1000000), rfl, (by omega), (by omega)⟩
    · refine pw_iload d114_18 rfl ?_
      refine pw_iload_n d114_20 rfl ?_
      refine pw_icmp_eq d114_21 rfl (by omega) (by omega) (fun c21 => ?_) (fun c21 => ?_)
      · refine pw_ldc (v := pv_I (-1000000)) d114_30 n114_30 ?_
        exact pw_ireturn d114_32 tt114 ⟨rfl, (-1000000), rfl, (by omega), (by omega)⟩
      · refine pw_iload d114_24 rfl ?_
        refine pw_iload_n d114_26 rfl ?_
        refine pw_icmp_ne d114_27 rfl (by omega) (by omega) (fun c27 => ?_) (fun c27 => ?_)
        · refine pw_aload_n d114_33 rfl ?_
          refine pw_iload_n d114_34 rfl ?_
          refine pw_iload_n d114_35 rfl ?_
          refine pw_iload_n d114_36 rfl ?_
          refine pw_callV3 d114_37 k114_186 hT hA0 rfl rfl rfl (ct111 (τ := τ) (ρ := ρ) hT hA0 (by omega) (by omega) (by omega)) (fun r37 h37 q37 => ?_)
          obtain ⟨eh37, z37, ez37, lz37, uz37, pz37_0⟩ := q37
          subst eh37
          subst ez37
          refine pw_istore d114_40 m114 rfl rfl ?_
          refine pw_iload d114_42 rfl ?_
          refine pw_ldc (v := pv_I (-1000000)) d114_44 n114_44 ?_
          refine pw_icmp_eq d114_46 rfl (by omega) (by omega) (fun c46 => ?_) (fun c46 => ?_)
          · refine pw_ldc (v := pv_I (-1000000)) d114_54 n114_54 ?_
            exact pw_ireturn d114_56 tt114 ⟨rfl, (-1000000), rfl, (by omega), (by omega)⟩
          · refine pw_iload d114_49 rfl ?_
            refine pw_if_ne d114_51 rfl (by omega) (fun c51 => ?_) (fun c51 => ?_)
            · refine pw_aload_n d114_57 rfl ?_
              refine pw_getR d114_58 g114_19 hT hA0 rfl rfl (fun t58 => ?_)
              have t58 : τ (ρ a0 1) = some 2 := t58
              refine pw_iload_n d114_61 rfl ?_
              refine pw_iload_n d114_62 rfl ?_
              refine pw_iload_n d114_63 rfl ?_
              refine pw_iload d114_64 rfl ?_
              refine pw_callS5 d114_66 k114_190 rfl rfl (ct115 (τ := τ) (ρ := ρ) hT t58 (by omega) (by omega) (by omega) (by omega)) (fun r66 h66 q66 => ?_)
              obtain ⟨eh66, z66, ez66, lz66, uz66⟩ := q66
              subst eh66
              subst ez66
              exact pw_ireturn d114_69 tt114 ⟨rfl, z66, rfl, (by omega), (by omega)⟩
            · refine pw_ldc (v := pv_I (-1000000)) d114_54 n114_54 ?_
              exact pw_ireturn d114_56 tt114 ⟨rfl, (-1000000), rfl, (by omega), (by omega)⟩
        · refine pw_ldc (v := pv_I (-1000000)) d114_30 n114_30 ?_
          exact pw_ireturn d114_32 tt114 ⟨rfl, (-1000000), rfl, (by omega), (by omega)⟩

abbrev Q136 (τ : Nat → Option Nat) (ρ : Nat → Nat → Nat) (h : pv_H) (a0 : Nat) (x1 : Int) (x2 : Int) (x3 : Int) : Option Value → pv_H → Prop := fun r h' => pv_Ty τ ρ h' ∧ pv_Fr τ [1727] h h' ∧ ∃ z : Int, r = some (.int (pv_I z)) ∧ (-2) ≤ z ∧ z ≤ 360
set_option maxHeartbeats 4000000 in
set_option maxRecDepth 20000 in
/-- AngleNet.weigh(III)I -/
theorem ct136 {τ : Nat → Option Nat} {ρ : Nat → Nat → Nat} {K : Nat → Nat} {h : pv_H} {a0 : Nat} {x1 : Int} {x2 : Int} {x3 : Int} (hT : pv_Ty τ ρ h) (hA0 : τ a0 = some 0) (hX1 : (-2147483648) ≤ x1 ∧ x1 ≤ 2147483647) (hX2 : (-2147483648) ≤ x2 ∧ x2 ≤ 2147483647) (hX3 : (-2147483648) ≤ x3 ∧ x3 ≤ 2147483647) : pv_C K 136 [.ref a0, .int (pv_I x1), .int (pv_I x2), .int (pv_I x3)] h (Q136 τ ρ h a0 x1 x2 x3) := by
  refine pw_entry 1 ?_
  show pv_T K 136 0 (pv_fl [some (.ref a0), some (.int (pv_I x1)), some (.int (pv_I x2)), some (.int (pv_I x3)), none]) [] h (Q136 τ ρ h a0 x1 x2 x3)
  have hF0 : pv_Fr τ [1727] h h := pv_Fr.rf
  refine pw_aload_n d136_0 rfl ?_
  refine pw_getR d136_1 g136_19 hT hA0 rfl rfl (fun t1 => ?_)
  have t1 : τ (ρ a0 1) = some 2 := t1
  refine pw_iload_n d136_4 rfl ?_
  refine pw_iload_n d136_5 rfl ?_
  refine pw_callV2 d136_6 k136_194 hT t1 rfl rfl rfl (ct47 (τ := τ) (ρ := ρ) hT t1 (by omega) (by omega)) (fun r6 h6 q6 => ?_)
  obtain ⟨eh6, z6, ez6, lz6, uz6, pz6_0⟩ := q6
  subst eh6
  subst ez6
  refine pw_if_eq d136_9 rfl (by omega) (fun c9 => ?_) (fun c9 => ?_)
  · refine pw_bipush d136_23 (by decide) ?_
    exact pw_ireturn d136_25 tt136 ⟨hT, hF0, (-2), rfl, (by omega), (by omega)⟩
  · refine pw_iload_n d136_12 rfl ?_
    refine pw_if_lt d136_13 rfl (by omega) (fun c13 => ?_) (fun c13 => ?_)
    · refine pw_bipush d136_23 (by decide) ?_
      exact pw_ireturn d136_25 tt136 ⟨hT, hF0, (-2), rfl, (by omega), (by omega)⟩
    · refine pw_iload_n d136_16 rfl ?_
      refine pw_sipush d136_17 (by decide) ?_
      refine pw_icmp_le d136_20 rfl (by omega) (by omega) (fun c20 => ?_) (fun c20 => ?_)
      · refine pw_aload_n d136_26 rfl ?_
        refine pw_getR d136_27 g136_19 hT hA0 rfl rfl (fun t27 => ?_)
        have t27 : τ (ρ a0 1) = some 2 := t27
        refine pw_getR d136_30 g136_242 hT t27 rfl rfl (fun t30 => ?_)
        have t30 : τ (ρ (ρ a0 1) 11) = some 26 := t30
        refine pw_bipush d136_33 (by decide) ?_
        refine pw_iload_n d136_35 rfl ?_
        refine pw_imul d136_36 ?_
        refine pw_iload_n d136_37 rfl ?_
        refine pw_iadd d136_38 ?_
        refine pw_iald d136_39 hT t30 rfl rfl (by omega) (by omega) (fun u39 vu39 => ?_)
        refine pw_istore d136_40 m136 rfl rfl ?_
        refine pw_aload_n d136_42 rfl ?_
        refine pw_getR d136_43 g136_19 hT hA0 rfl rfl (fun t43 => ?_)
        have t43 : τ (ρ a0 1) = some 2 := t43
        refine pw_iload_n d136_46 rfl ?_
        refine pw_iload_n d136_47 rfl ?_
        refine pw_iload_n d136_48 rfl ?_
        refine pw_callV3 d136_49 k136_245 hT t43 rfl rfl rfl (ct49 (τ := τ) (ρ := ρ) hT t43 (by omega) (by omega) (by omega)) (fun r49 h49 q49 => ?_)
        obtain ⟨T49, F49, ez49⟩ := q49
        subst ez49
        have f49 := hF0.tr (F49.up (by decide))
        refine pw_iload d136_52 rfl ?_
        exact pw_ireturn d136_54 tt136 ⟨T49, f49, (pv_aI h (ρ (ρ a0 1) 11) (((10 * x1) + x2)).toNat), rfl, (by omega), (by omega)⟩
      · refine pw_bipush d136_23 (by decide) ?_
        exact pw_ireturn d136_25 tt136 ⟨hT, hF0, (-2), rfl, (by omega), (by omega)⟩

abbrev Q137 (τ : Nat → Option Nat) (ρ : Nat → Nat → Nat) (h : pv_H) (a0 : Nat) : Option Value → pv_H → Prop := fun r h' => h = h' ∧ ∃ z : Int, r = some (.int (pv_I z)) ∧ (-2) ≤ z ∧ z ≤ 4
set_option maxHeartbeats 4000000 in
set_option maxRecDepth 20000 in
/-- AngleNet.inscribed()I -/
theorem ct137 {τ : Nat → Option Nat} {ρ : Nat → Nat → Nat} {K : Nat → Nat} {h : pv_H} {a0 : Nat} (hT : pv_Ty τ ρ h) (hA0 : τ a0 = some 0) : pv_C K 137 [.ref a0] h (Q137 τ ρ h a0) := by
  refine pw_entry 0 ?_
  show pv_T K 137 0 (pv_fl [some (.ref a0)]) [] h (Q137 τ ρ h a0)
  refine pw_aload_n d137_0 rfl ?_
  refine pw_getR d137_1 g137_19 hT hA0 rfl rfl (fun t1 => ?_)
  have t1 : τ (ρ a0 1) = some 2 := t1
  refine pw_callV0 d137_4 k137_129 hT t1 rfl rfl rfl (ct64 (τ := τ) (ρ := ρ) hT t1) (fun r4 h4 q4 => ?_)
  obtain ⟨eh4, z4, ez4, lz4, uz4⟩ := q4
  subst eh4
  subst ez4
  refine pw_if_ne d137_7 rfl (by omega) (fun c7 => ?_) (fun c7 => ?_)
  · refine pw_aload_n d137_13 rfl ?_
    refine pw_getR d137_14 g137_44 hT hA0 rfl rfl (fun t14 => ?_)
    have t14 : τ (ρ a0 6) = some 4 := t14
    refine pw_aload_n d137_17 rfl ?_
    refine pw_getR d137_18 g137_19 hT hA0 rfl rfl (fun t18 => ?_)
    have t18 : τ (ρ a0 1) = some 2 := t18
    refine pw_callV1 d137_21 k137_249 hT t14 rfl rfl rfl (ct138 (τ := τ) (ρ := ρ) hT t14 t18) (fun r21 h21 q21 => ?_)
    obtain ⟨eh21, z21, ez21, lz21, uz21⟩ := q21
    subst eh21
    subst ez21
    refine pw_if_ne d137_24 rfl (by omega) (fun c24 => ?_) (fun c24 => ?_)
    · refine pw_aload_n d137_29 rfl ?_
      refine pw_getR d137_30 g137_19 hT hA0 rfl rfl (fun t30 => ?_)
      have t30 : τ (ρ a0 1) = some 2 := t30
      refine pw_callS1 d137_33 k137_252 rfl rfl (ct139 (τ := τ) (ρ := ρ) hT t30) (fun r33 h33 q33 => ?_)
      obtain ⟨eh33, z33, ez33, lz33, uz33⟩ := q33
      subst eh33
      subst ez33
      refine pw_iconst d137_36 ?_
      refine pw_icmp_eq d137_37 rfl (by omega) (by omega) (fun c37 => ?_) (fun c37 => ?_)
      · refine pw_aload_n d137_42 rfl ?_
        refine pw_getR d137_43 g137_19 hT hA0 rfl rfl (fun t43 => ?_)
        have t43 : τ (ρ a0 1) = some 2 := t43
        refine pw_callS1 d137_46 k137_257 rfl rfl (ct140 (τ := τ) (ρ := ρ) hT t43) (fun r46 h46 q46 => ?_)
        obtain ⟨eh46, z46, ez46, lz46, uz46⟩ := q46
        subst eh46
        subst ez46
        refine pw_iconst d137_49 ?_
        refine pw_icmp_eq d137_50 rfl (by omega) (by omega) (fun c50 => ?_) (fun c50 => ?_)
        · refine pw_aload_n d137_55 rfl ?_
          refine pw_getR d137_56 g137_19 hT hA0 rfl rfl (fun t56 => ?_)
          have t56 : τ (ρ a0 1) = some 2 := t56
          refine pw_callS1 d137_59 k137_260 rfl rfl (ct142 (τ := τ) (ρ := ρ) hT t56) (fun r59 h59 q59 => ?_)
          obtain ⟨eh59, z59, ez59, lz59, uz59⟩ := q59
          subst eh59
          subst ez59
          refine pw_iconst d137_62 ?_
          refine pw_icmp_eq d137_63 rfl (by omega) (by omega) (fun c63 => ?_) (fun c63 => ?_)
          · refine pw_iconst d137_70 ?_
            exact pw_ireturn d137_71 tt137 ⟨rfl, 0, rfl, (by omega), (by omega)⟩
          · refine pw_iconst d137_66 ?_
            refine pw_goto d137_67 rfl ?_
            exact pw_ireturn d137_71 tt137 ⟨rfl, 4, rfl, (by omega), (by omega)⟩
        · refine pw_iconst d137_53 ?_
          exact pw_ireturn d137_54 tt137 ⟨rfl, 3, rfl, (by omega), (by omega)⟩
      · refine pw_iconst d137_40 ?_
        exact pw_ireturn d137_41 tt137 ⟨rfl, 2, rfl, (by omega), (by omega)⟩
    · refine pw_iconst d137_27 ?_
      exact pw_ireturn d137_28 tt137 ⟨rfl, 1, rfl, (by omega), (by omega)⟩
  · refine pw_bipush d137_10 (by decide) ?_
    exact pw_ireturn d137_12 tt137 ⟨rfl, (-2), rfl, (by omega), (by omega)⟩

abbrev Q144 (τ : Nat → Option Nat) (ρ : Nat → Nat → Nat) (h : pv_H) (a0 : Nat) (x1 : Int) : Option Value → pv_H → Prop := fun r h' => h = h' ∧ ∃ z : Int, r = some (.int (pv_I z)) ∧ (-2147483648) ≤ z ∧ z ≤ 2147483647
set_option maxHeartbeats 4000000 in
set_option maxRecDepth 20000 in
/-- AngleNet.hinders(I)I -/
theorem ct144 {τ : Nat → Option Nat} {ρ : Nat → Nat → Nat} {K : Nat → Nat} {h : pv_H} {a0 : Nat} {x1 : Int} (hT : pv_Ty τ ρ h) (hA0 : τ a0 = some 0) (hX1 : (-2147483648) ≤ x1 ∧ x1 ≤ 2147483647) : pv_C K 144 [.ref a0, .int (pv_I x1)] h (Q144 τ ρ h a0 x1) := by
  refine pw_entry 0 ?_
  show pv_T K 144 0 (pv_fl [some (.ref a0), some (.int (pv_I x1))]) [] h (Q144 τ ρ h a0 x1)
  refine pw_aload_n d144_0 rfl ?_
  refine pw_getR d144_1 g144_19 hT hA0 rfl rfl (fun t1 => ?_)
  have t1 : τ (ρ a0 1) = some 2 := t1
  refine pw_callV0 d144_4 k144_129 hT t1 rfl rfl rfl (ct64 (τ := τ) (ρ := ρ) hT t1) (fun r4 h4 q4 => ?_)
  obtain ⟨eh4, z4, ez4, lz4, uz4⟩ := q4
  subst eh4
  subst ez4
  refine pw_if_eq d144_7 rfl (by omega) (fun c7 => ?_) (fun c7 => ?_)
  · refine pw_bipush d144_19 (by decide) ?_
    exact pw_ireturn d144_21 tt144 ⟨rfl, (-2), rfl, (by omega), (by omega)⟩
  · refine pw_iload_n d144_10 rfl ?_
    refine pw_if_lt d144_11 rfl (by omega) (fun c11 => ?_) (fun c11 => ?_)
    · refine pw_bipush d144_19 (by decide) ?_
      exact pw_ireturn d144_21 tt144 ⟨rfl, (-2), rfl, (by omega), (by omega)⟩
    · refine pw_iload_n d144_14 rfl ?_
      refine pw_iconst d144_15 ?_
      refine pw_icmp_le d144_16 rfl (by omega) (by omega) (fun c16 => ?_) (fun c16 => ?_)
      · refine pw_aload_n d144_22 rfl ?_
        refine pw_getR d144_23 g144_44 hT hA0 rfl rfl (fun t23 => ?_)
        have t23 : τ (ρ a0 6) = some 4 := t23
        refine pw_aload_n d144_26 rfl ?_
        refine pw_getR d144_27 g144_19 hT hA0 rfl rfl (fun t27 => ?_)
        have t27 : τ (ρ a0 1) = some 2 := t27
        refine pw_callV1 d144_30 k144_249 hT t23 rfl rfl rfl (ct138 (τ := τ) (ρ := ρ) hT t23 t27) (fun r30 h30 q30 => ?_)
        obtain ⟨eh30, z30, ez30, lz30, uz30⟩ := q30
        subst eh30
        subst ez30
        refine pw_if_ne d144_33 rfl (by omega) (fun c33 => ?_) (fun c33 => ?_)
        · refine pw_iload_n d144_38 rfl ?_
          by_cases c39_0 : x1 = 0
          · refine pw_lookIn (x := x1) d144_39 (by omega) (by decide) (by rw [c39_0]) rfl ?_
            refine pw_aload_n d144_64 rfl ?_
            refine pw_getR d144_65 g144_19 hT hA0 rfl rfl (fun t65 => ?_)
            have t65 : τ (ρ a0 1) = some 2 := t65
            refine pw_callS1 d144_68 k144_252 rfl rfl (ct139 (τ := τ) (ρ := ρ) hT t65) (fun r68 h68 q68 => ?_)
            obtain ⟨eh68, z68, ez68, lz68, uz68⟩ := q68
            subst eh68
            subst ez68
            exact pw_ireturn d144_71 tt144 ⟨rfl, z68, rfl, (by omega), (by omega)⟩
          by_cases c39_1 : x1 = 1
          · refine pw_lookIn (x := x1) d144_39 (by omega) (by decide) (by rw [c39_1]) rfl ?_
            refine pw_aload_n d144_72 rfl ?_
            refine pw_getR d144_73 g144_19 hT hA0 rfl rfl (fun t73 => ?_)
            have t73 : τ (ρ a0 1) = some 2 := t73
            refine pw_callS1 d144_76 k144_257 rfl rfl (ct140 (τ := τ) (ρ := ρ) hT t73) (fun r76 h76 q76 => ?_)
            obtain ⟨eh76, z76, ez76, lz76, uz76⟩ := q76
            subst eh76
            subst ez76
            exact pw_ireturn d144_79 tt144 ⟨rfl, z76, rfl, (by omega), (by omega)⟩
          by_cases c39_2 : x1 = 2
          · refine pw_lookIn (x := x1) d144_39 (by omega) (by decide) (by rw [c39_2]) rfl ?_
            refine pw_aload_n d144_80 rfl ?_
            refine pw_getR d144_81 g144_19 hT hA0 rfl rfl (fun t81 => ?_)
            have t81 : τ (ρ a0 1) = some 2 := t81
            refine pw_callS1 d144_84 k144_260 rfl rfl (ct142 (τ := τ) (ρ := ρ) hT t81) (fun r84 h84 q84 => ?_)
            obtain ⟨eh84, z84, ez84, lz84, uz84⟩ := q84
            subst eh84
            subst ez84
            exact pw_ireturn d144_87 tt144 ⟨rfl, z84, rfl, (by omega), (by omega)⟩
          exfalso; omega
        · refine pw_iconst d144_36 ?_
          exact pw_ireturn d144_37 tt144 ⟨rfl, (-1), rfl, (by omega), (by omega)⟩
      · refine pw_bipush d144_19 (by decide) ?_
        exact pw_ireturn d144_21 tt144 ⟨rfl, (-2), rfl, (by omega), (by omega)⟩

abbrev Q145 (τ : Nat → Option Nat) (ρ : Nat → Nat → Nat) (h : pv_H) (a0 : Nat) (x1 : Int) : Option Value → pv_H → Prop := fun r h' => h = h' ∧ ∃ z : Int, r = some (.int (pv_I z)) ∧ (-2147483648) ≤ z ∧ z ≤ 2147483647
set_option maxHeartbeats 4000000 in
set_option maxRecDepth 20000 in
/-- AngleNet.cut(I)I -/
theorem ct145 {τ : Nat → Option Nat} {ρ : Nat → Nat → Nat} {K : Nat → Nat} {h : pv_H} {a0 : Nat} {x1 : Int} (hT : pv_Ty τ ρ h) (hA0 : τ a0 = some 0) (hX1 : (-2147483648) ≤ x1 ∧ x1 ≤ 2147483647) : pv_C K 145 [.ref a0, .int (pv_I x1)] h (Q145 τ ρ h a0 x1) := by
  refine pw_entry 0 ?_
  show pv_T K 145 0 (pv_fl [some (.ref a0), some (.int (pv_I x1))]) [] h (Q145 τ ρ h a0 x1)
  refine pw_aload_n d145_0 rfl ?_
  refine pw_getR d145_1 g145_19 hT hA0 rfl rfl (fun t1 => ?_)
  have t1 : τ (ρ a0 1) = some 2 := t1
  refine pw_callV0 d145_4 k145_129 hT t1 rfl rfl rfl (ct64 (τ := τ) (ρ := ρ) hT t1) (fun r4 h4 q4 => ?_)
  obtain ⟨eh4, z4, ez4, lz4, uz4⟩ := q4
  subst eh4
  subst ez4
  refine pw_if_eq d145_7 rfl (by omega) (fun c7 => ?_) (fun c7 => ?_)
  · refine pw_bipush d145_27 (by decide) ?_
    exact pw_ireturn d145_29 tt145 ⟨rfl, (-2), rfl, (by omega), (by omega)⟩
  · refine pw_iload_n d145_10 rfl ?_
    refine pw_if_lt d145_11 rfl (by omega) (fun c11 => ?_) (fun c11 => ?_)
    · refine pw_bipush d145_27 (by decide) ?_
      exact pw_ireturn d145_29 tt145 ⟨rfl, (-2), rfl, (by omega), (by omega)⟩
    · refine pw_iload_n d145_14 rfl ?_
      refine pw_iconst d145_15 ?_
      refine pw_aload_n d145_16 rfl ?_
      refine pw_getR d145_17 g145_19 hT hA0 rfl rfl (fun t17 => ?_)
      have t17 : τ (ρ a0 1) = some 2 := t17
      refine pw_getI d145_20 g145_160 hT t17 rfl rfl (fun u20 vu20 => ?_)
      refine pw_ishl d145_23 (fun z23 hz23 ez23 => ?_)
      have bz23 := pv_shl1_b (n := 10) (m := 1024) (y := (pv_fI h (ρ a0 1) 0)) (by omega) (by omega) (by decide) (by decide) hz23 ez23
      refine pw_icmp_lt d145_24 rfl (by omega) (by omega) (fun c24 => ?_) (fun c24 => ?_)
      · refine pw_aload_n d145_30 rfl ?_
        refine pw_getR d145_31 g145_19 hT hA0 rfl rfl (fun t31 => ?_)
        have t31 : τ (ρ a0 1) = some 2 := t31
        refine pw_iload_n d145_34 rfl ?_
        refine pw_callS2 d145_35 k145_263 rfl rfl (ct141 (τ := τ) (ρ := ρ) hT t31 (by omega)) (fun r35 h35 q35 => ?_)
        obtain ⟨eh35, z35, ez35, lz35, uz35⟩ := q35
        subst eh35
        subst ez35
        exact pw_ireturn d145_38 tt145 ⟨rfl, z35, rfl, (by omega), (by omega)⟩
      · refine pw_bipush d145_27 (by decide) ?_
        exact pw_ireturn d145_29 tt145 ⟨rfl, (-2), rfl, (by omega), (by omega)⟩

abbrev Q146 (τ : Nat → Option Nat) (ρ : Nat → Nat → Nat) (h : pv_H) (a0 : Nat) : Option Value → pv_H → Prop := fun r h' => pv_Ty τ ρ h' ∧ pv_Fr τ [387, 2431, 2495, 2559] h h' ∧ ∃ z : Int, r = some (.long (pv_J z)) ∧ (-9223372036854775808) ≤ z ∧ z ≤ 9223372036854775807
set_option maxHeartbeats 4000000 in
set_option maxRecDepth 20000 in
/-- AngleNet.trees()J -/
theorem ct146 {τ : Nat → Option Nat} {ρ : Nat → Nat → Nat} {K : Nat → Nat} {h : pv_H} {a0 : Nat} (hT : pv_Ty τ ρ h) (hA0 : τ a0 = some 0) : pv_C K 146 [.ref a0] h (Q146 τ ρ h a0) := by
  refine pw_entry 2 ?_
  show pv_T K 146 0 (pv_fl [some (.ref a0), none, none]) [] h (Q146 τ ρ h a0)
  have hF0 : pv_Fr τ [387, 2431, 2495, 2559] h h := pv_Fr.rf
  refine pw_aload_n d146_0 rfl ?_
  refine pw_getR d146_1 g146_19 hT hA0 rfl rfl (fun t1 => ?_)
  have t1 : τ (ρ a0 1) = some 2 := t1
  refine pw_callV0 d146_4 k146_129 hT t1 rfl rfl rfl (ct64 (τ := τ) (ρ := ρ) hT t1) (fun r4 h4 q4 => ?_)
  obtain ⟨eh4, z4, ez4, lz4, uz4⟩ := q4
  subst eh4
  subst ez4
  refine pw_if_ne d146_7 rfl (by omega) (fun c7 => ?_) (fun c7 => ?_)
  · refine pw_aload_n d146_14 rfl ?_
    refine pw_getR d146_15 g146_44 hT hA0 rfl rfl (fun t15 => ?_)
    have t15 : τ (ρ a0 6) = some 4 := t15
    refine pw_aload_n d146_18 rfl ?_
    refine pw_getR d146_19 g146_19 hT hA0 rfl rfl (fun t19 => ?_)
    have t19 : τ (ρ a0 1) = some 2 := t19
    refine pw_callV1 d146_22 k146_140 hT t15 rfl rfl rfl (ct71 (τ := τ) (ρ := ρ) hT t15 t19) (fun r22 h22 q22 => ?_)
    obtain ⟨eh22, z22, ez22, lz22, uz22⟩ := q22
    subst eh22
    subst ez22
    refine pw_iconst d146_25 ?_
    refine pw_icmp_eq d146_26 rfl (by omega) (by omega) (fun c26 => ?_) (fun c26 => ?_)
    · refine pw_aload_n d146_31 rfl ?_
      refine pw_getR d146_32 g146_44 hT hA0 rfl rfl (fun t32 => ?_)
      have t32 : τ (ρ a0 6) = some 4 := t32
      refine pw_aload_n d146_35 rfl ?_
      refine pw_getR d146_36 g146_19 hT hA0 rfl rfl (fun t36 => ?_)
      have t36 : τ (ρ a0 1) = some 2 := t36
      refine pw_callV1 d146_39 k146_269 hT t32 rfl rfl rfl (ct66 (τ := τ) (ρ := ρ) hT t32 t36) (fun r39 h39 q39 => ?_)
      obtain ⟨eh39, z39, ez39, lz39, uz39⟩ := q39
      subst eh39
      subst ez39
      refine pw_istore_n d146_42 m146 rfl rfl ?_
      refine pw_iload_n d146_43 rfl ?_
      refine pw_callS1 d146_44 k146_272 rfl rfl (ct76 (τ := τ) (ρ := ρ) (by omega)) (fun r44 h44 q44 => ?_)
      obtain ⟨eh44, z44, ez44, lz44, uz44, pz44_0⟩ := q44
      subst eh44
      subst ez44
      refine pw_istore_n d146_47 m146 rfl rfl ?_
      refine pw_aload_n d146_48 rfl ?_
      refine pw_getR d146_49 g146_58 hT hA0 rfl rfl (fun t49 => ?_)
      have t49 : τ (ρ a0 8) = some 6 := t49
      refine pw_aload_n d146_52 rfl ?_
      refine pw_getR d146_53 g146_19 hT hA0 rfl rfl (fun t53 => ?_)
      have t53 : τ (ρ a0 1) = some 2 := t53
      refine pw_iload_n d146_56 rfl ?_
      refine pw_iload_n d146_57 rfl ?_
      refine pw_iload_n d146_58 rfl ?_
      refine pw_callV4 d146_59 k146_275 hT t49 rfl rfl rfl (ct147 (τ := τ) (ρ := ρ) hT t49 t53 (by omega) (by omega) (by omega)) (fun r59 h59 q59 => ?_)
      obtain ⟨T59, F59, z59, ez59, lz59, uz59⟩ := q59
      subst ez59
      have f59 := hF0.tr (F59.up (by decide))
      exact pw_lreturn d146_62 tt146 ⟨T59, f59, z59, rfl, (by omega), (by omega)⟩
    · refine pw_lconst (z := 0) d146_29 (by decide) ?_
      exact pw_lreturn d146_30 tt146 ⟨hT, hF0, 0, rfl, (by omega), (by omega)⟩
  · refine pw_ldc2 (v := pv_J (-2)) d146_10 n146_10 ?_
    exact pw_lreturn d146_13 tt146 ⟨hT, hF0, (-2), rfl, (by omega), (by omega)⟩

abbrev Q153 (τ : Nat → Option Nat) (ρ : Nat → Nat → Nat) (h : pv_H) (a0 : Nat) (x1 : Int) (x2 : Int) : Option Value → pv_H → Prop := fun r h' => h = h' ∧ ∃ z : Int, r = some (.int (pv_I z)) ∧ 0 ≤ z ∧ z ≤ 1
set_option maxHeartbeats 4000000 in
set_option maxRecDepth 20000 in
/-- AngleNet.hasFlow(II)Z -/
theorem ct153 {τ : Nat → Option Nat} {ρ : Nat → Nat → Nat} {K : Nat → Nat} {h : pv_H} {a0 : Nat} {x1 : Int} {x2 : Int} (hT : pv_Ty τ ρ h) (hA0 : τ a0 = some 0) (hX1 : (-2147483648) ≤ x1 ∧ x1 ≤ 2147483647) (hX2 : (-2147483648) ≤ x2 ∧ x2 ≤ 2147483647) : pv_C K 153 [.ref a0, .int (pv_I x1), .int (pv_I x2)] h (Q153 τ ρ h a0 x1 x2) := by
  refine pw_entry 0 ?_
  show pv_T K 153 0 (pv_fl [some (.ref a0), some (.int (pv_I x1)), some (.int (pv_I x2))]) [] h (Q153 τ ρ h a0 x1 x2)
  refine pw_aload_n d153_0 rfl ?_
  refine pw_getR d153_1 g153_19 hT hA0 rfl rfl (fun t1 => ?_)
  have t1 : τ (ρ a0 1) = some 2 := t1
  refine pw_iload_n d153_4 rfl ?_
  refine pw_callV1 d153_5 k153_101 hT t1 rfl rfl rfl (ct48 (τ := τ) (ρ := ρ) hT t1 (by omega)) (fun r5 h5 q5 => ?_)
  obtain ⟨eh5, z5, ez5, lz5, uz5, pz5_0⟩ := q5
  subst eh5
  subst ez5
  refine pw_if_eq d153_8 rfl (by omega) (fun c8 => ?_) (fun c8 => ?_)
  · refine pw_iconst d153_27 ?_
    exact pw_zreturn d153_28 tt153 (by omega) ⟨rfl, 0, rfl, (by omega), (by omega)⟩
  · refine pw_aload_n d153_11 rfl ?_
    refine pw_getR d153_12 g153_19 hT hA0 rfl rfl (fun t12 => ?_)
    have t12 : τ (ρ a0 1) = some 2 := t12
    refine pw_iload_n d153_15 rfl ?_
    refine pw_callV1 d153_16 k153_101 hT t12 rfl rfl rfl (ct48 (τ := τ) (ρ := ρ) hT t12 (by omega)) (fun r16 h16 q16 => ?_)
    obtain ⟨eh16, z16, ez16, lz16, uz16, pz16_0⟩ := q16
    subst eh16
    subst ez16
    refine pw_if_eq d153_19 rfl (by omega) (fun c19 => ?_) (fun c19 => ?_)
    · refine pw_iconst d153_27 ?_
      exact pw_zreturn d153_28 tt153 (by omega) ⟨rfl, 0, rfl, (by omega), (by omega)⟩
    · refine pw_iload_n d153_22 rfl ?_
      refine pw_iload_n d153_23 rfl ?_
      refine pw_icmp_ne d153_24 rfl (by omega) (by omega) (fun c24 => ?_) (fun c24 => ?_)
      · refine pw_aload_n d153_29 rfl ?_
        refine pw_getR d153_30 g153_44 hT hA0 rfl rfl (fun t30 => ?_)
        have t30 : τ (ρ a0 6) = some 4 := t30
        refine pw_aload_n d153_33 rfl ?_
        refine pw_getR d153_34 g153_19 hT hA0 rfl rfl (fun t34 => ?_)
        have t34 : τ (ρ a0 1) = some 2 := t34
        refine pw_iload_n d153_37 rfl ?_
        refine pw_callV2 d153_38 k153_282 hT t30 rfl rfl rfl (ct72 (τ := τ) (ρ := ρ) hT t30 t34 (by omega)) (fun r38 h38 q38 => ?_)
        obtain ⟨eh38, z38, ez38, lz38, uz38⟩ := q38
        subst eh38
        subst ez38
        refine pw_iload_n d153_41 rfl ?_
        refine pw_ishr d153_42 (fun z42 hz42 ez42 => ?_)
        refine pw_iconst d153_43 ?_
        refine pw_iand d153_44 (fun z44 hz44 ez44 => ?_)
        have bz44 := pv_and1_b hz44 ez44
        refine pw_if_eq d153_45 rfl (by omega) (fun c45 => ?_) (fun c45 => ?_)
        · refine pw_iconst d153_52 ?_
          exact pw_zreturn d153_53 tt153 (by omega) ⟨rfl, 0, rfl, (by omega), (by omega)⟩
        · refine pw_iconst d153_48 ?_
          refine pw_goto d153_49 rfl ?_
          exact pw_zreturn d153_53 tt153 (by omega) ⟨rfl, 1, rfl, (by omega), (by omega)⟩
      · refine pw_iconst d153_27 ?_
        exact pw_zreturn d153_28 tt153 (by omega) ⟨rfl, 0, rfl, (by omega), (by omega)⟩

abbrev Q152 (τ : Nat → Option Nat) (ρ : Nat → Nat → Nat) (h : pv_H) (a0 : Nat) (x1 : Int) (x2 : Int) (x3 : Int) : Option Value → pv_H → Prop := fun r h' => pv_Ty τ ρ h' ∧ pv_Fr τ [387, 2431, 2495, 2559] h h' ∧ ∃ z : Int, r = some (.long (pv_J z)) ∧ (-9223372036854775808) ≤ z ∧ z ≤ 9223372036854775807
set_option maxHeartbeats 4000000 in
set_option maxRecDepth 20000 in
/-- AngleNet.height(III)J -/
theorem ct152 {τ : Nat → Option Nat} {ρ : Nat → Nat → Nat} {K : Nat → Nat} {h : pv_H} {a0 : Nat} {x1 : Int} {x2 : Int} {x3 : Int} (hT : pv_Ty τ ρ h) (hA0 : τ a0 = some 0) (hX1 : (-2147483648) ≤ x1 ∧ x1 ≤ 2147483647) (hX2 : (-2147483648) ≤ x2 ∧ x2 ≤ 2147483647) (hX3 : (-2147483648) ≤ x3 ∧ x3 ≤ 2147483647) : pv_C K 152 [.ref a0, .int (pv_I x1), .int (pv_I x2), .int (pv_I x3)] h (Q152 τ ρ h a0 x1 x2 x3) := by
  refine pw_entry 1 ?_
  show pv_T K 152 0 (pv_fl [some (.ref a0), some (.int (pv_I x1)), some (.int (pv_I x2)), some (.int (pv_I x3)), none]) [] h (Q152 τ ρ h a0 x1 x2 x3)
  have hF0 : pv_Fr τ [387, 2431, 2495, 2559] h h := pv_Fr.rf
  refine pw_aload_n d152_0 rfl ?_
  refine pw_getR d152_1 g152_19 hT hA0 rfl rfl (fun t1 => ?_)
  have t1 : τ (ρ a0 1) = some 2 := t1
  refine pw_iload_n d152_4 rfl ?_
  refine pw_callV1 d152_5 k152_101 hT t1 rfl rfl rfl (ct48 (τ := τ) (ρ := ρ) hT t1 (by omega)) (fun r5 h5 q5 => ?_)
  obtain ⟨eh5, z5, ez5, lz5, uz5, pz5_0⟩ := q5
  subst eh5
  subst ez5
  refine pw_if_eq d152_8 rfl (by omega) (fun c8 => ?_) (fun c8 => ?_)
  · refine pw_ldc2 (v := pv_J (-2)) d152_20 n152_20 ?_
    exact pw_lreturn d152_23 tt152 ⟨hT, hF0, (-2), rfl, (by omega), (by omega)⟩
  · refine pw_aload_n d152_11 rfl ?_
    refine pw_iload_n d152_12 rfl ?_
    refine pw_iload_n d152_13 rfl ?_
    refine pw_callV2 d152_14 k152_279 hT hA0 rfl rfl rfl (ct153 (τ := τ) (ρ := ρ) hT hA0 (by omega) (by omega)) (fun r14 h14 q14 => ?_)
    obtain ⟨eh14, z14, ez14, lz14, uz14⟩ := q14
    subst eh14
    subst ez14
    refine pw_if_ne d152_17 rfl (by omega) (fun c17 => ?_) (fun c17 => ?_)
    · refine pw_aload_n d152_24 rfl ?_
      refine pw_getR d152_25 g152_44 hT hA0 rfl rfl (fun t25 => ?_)
      have t25 : τ (ρ a0 6) = some 4 := t25
      refine pw_aload_n d152_28 rfl ?_
      refine pw_getR d152_29 g152_19 hT hA0 rfl rfl (fun t29 => ?_)
      have t29 : τ (ρ a0 1) = some 2 := t29
      refine pw_iload_n d152_32 rfl ?_
      refine pw_callV2 d152_33 k152_282 hT t25 rfl rfl rfl (ct72 (τ := τ) (ρ := ρ) hT t25 t29 (by omega)) (fun r33 h33 q33 => ?_)
      obtain ⟨eh33, z33, ez33, lz33, uz33⟩ := q33
      subst eh33
      subst ez33
      refine pw_istore d152_36 m152 rfl rfl ?_
      refine pw_iload d152_38 rfl ?_
      refine pw_iload_n d152_40 rfl ?_
      refine pw_ishr d152_41 (fun z41 hz41 ez41 => ?_)
      refine pw_iconst d152_42 ?_
      refine pw_iand d152_43 (fun z43 hz43 ez43 => ?_)
      have bz43 := pv_and1_b hz43 ez43
      refine pw_if_ne d152_44 rfl (by omega) (fun c44 => ?_) (fun c44 => ?_)
      · refine pw_aload_n d152_51 rfl ?_
        refine pw_getR d152_52 g152_58 hT hA0 rfl rfl (fun t52 => ?_)
        have t52 : τ (ρ a0 8) = some 6 := t52
        refine pw_aload_n d152_55 rfl ?_
        refine pw_getR d152_56 g152_19 hT hA0 rfl rfl (fun t56 => ?_)
        have t56 : τ (ρ a0 1) = some 2 := t56
        refine pw_iload d152_59 rfl ?_
        refine pw_iload_n d152_61 rfl ?_
        refine pw_iload_n d152_62 rfl ?_
        refine pw_callV4 d152_63 k152_275 hT t52 rfl rfl rfl (ct147 (τ := τ) (ρ := ρ) hT t52 t56 (by omega) (by omega) (by omega)) (fun r63 h63 q63 => ?_)
        obtain ⟨T63, F63, z63, ez63, lz63, uz63⟩ := q63
        subst ez63
        have f63 := hF0.tr (F63.up (by decide))
        refine pw_pop2 d152_66 rfl ?_
        refine pw_aload_n d152_67 rfl ?_
        refine pw_getR d152_68 g152_58 T63 hA0 rfl rfl (fun t68 => ?_)
        have t68 : τ (ρ a0 8) = some 6 := t68
        refine pw_getR d152_71 g152_285 T63 t68 rfl rfl (fun t71 => ?_)
        have t71 : τ (ρ (ρ a0 8) 0) = some 37 := t71
        refine pw_iload_n d152_74 rfl ?_
        refine pw_lald d152_75 T63 t71 rfl rfl (by omega) (by omega) (fun u75 => ?_)
        exact pw_lreturn d152_76 tt152 ⟨T63, f63, (pv_aJ h63 (ρ (ρ a0 8) 0) (x3).toNat), rfl, (by omega), (by omega)⟩
      · refine pw_ldc2 (v := pv_J (-2)) d152_47 n152_47 ?_
        exact pw_lreturn d152_50 tt152 ⟨hT, hF0, (-2), rfl, (by omega), (by omega)⟩
    · refine pw_ldc2 (v := pv_J (-2)) d152_20 n152_20 ?_
      exact pw_lreturn d152_23 tt152 ⟨hT, hF0, (-2), rfl, (by omega), (by omega)⟩

abbrev Q154 (τ : Nat → Option Nat) (ρ : Nat → Nat → Nat) (h : pv_H) (a0 : Nat) (x1 : Int) (x2 : Int) (x3 : Int) : Option Value → pv_H → Prop := fun r h' => pv_Ty τ ρ h' ∧ pv_Fr τ [387, 2431, 2495, 2559] h h' ∧ ∃ z : Int, r = some (.long (pv_J z)) ∧ (-9223372036854775808) ≤ z ∧ z ≤ 9223372036854775807
set_option maxHeartbeats 4000000 in
set_option maxRecDepth 20000 in
/-- AngleNet.flow(III)J -/
theorem ct154 {τ : Nat → Option Nat} {ρ : Nat → Nat → Nat} {K : Nat → Nat} {h : pv_H} {a0 : Nat} {x1 : Int} {x2 : Int} {x3 : Int} (hT : pv_Ty τ ρ h) (hA0 : τ a0 = some 0) (hX1 : (-2147483648) ≤ x1 ∧ x1 ≤ 2147483647) (hX2 : (-2147483648) ≤ x2 ∧ x2 ≤ 2147483647) (hX3 : (-2147483648) ≤ x3 ∧ x3 ≤ 2147483647) : pv_C K 154 [.ref a0, .int (pv_I x1), .int (pv_I x2), .int (pv_I x3)] h (Q154 τ ρ h a0 x1 x2 x3) := by
  refine pw_entry 2 ?_
  show pv_T K 154 0 (pv_fl [some (.ref a0), some (.int (pv_I x1)), some (.int (pv_I x2)), some (.int (pv_I x3)), none, none]) [] h (Q154 τ ρ h a0 x1 x2 x3)
  have hF0 : pv_Fr τ [387, 2431, 2495, 2559] h h := pv_Fr.rf
  refine pw_aload_n d154_0 rfl ?_
  refine pw_iload_n d154_1 rfl ?_
  refine pw_iload_n d154_2 rfl ?_
  refine pw_callV2 d154_3 k154_279 hT hA0 rfl rfl rfl (ct153 (τ := τ) (ρ := ρ) hT hA0 (by omega) (by omega)) (fun r3 h3 q3 => ?_)
  obtain ⟨eh3, z3, ez3, lz3, uz3⟩ := q3
  subst eh3
  subst ez3
  refine pw_if_eq d154_6 rfl (by omega) (fun c6 => ?_) (fun c6 => ?_)
  · refine pw_ldc2 (v := pv_J (-2)) d154_18 n154_18 ?_
    exact pw_lreturn d154_21 tt154 ⟨hT, hF0, (-2), rfl, (by omega), (by omega)⟩
  · refine pw_iload_n d154_9 rfl ?_
    refine pw_if_lt d154_10 rfl (by omega) (fun c10 => ?_) (fun c10 => ?_)
    · refine pw_ldc2 (v := pv_J (-2)) d154_18 n154_18 ?_
      exact pw_lreturn d154_21 tt154 ⟨hT, hF0, (-2), rfl, (by omega), (by omega)⟩
    · refine pw_iload_n d154_13 rfl ?_
      refine pw_iconst d154_14 ?_
      refine pw_icmp_le d154_15 rfl (by omega) (by omega) (fun c15 => ?_) (fun c15 => ?_)
      · refine pw_aload_n d154_22 rfl ?_
        refine pw_getR d154_23 g154_58 hT hA0 rfl rfl (fun t23 => ?_)
        have t23 : τ (ρ a0 8) = some 6 := t23
        refine pw_aload_n d154_26 rfl ?_
        refine pw_getR d154_27 g154_19 hT hA0 rfl rfl (fun t27 => ?_)
        have t27 : τ (ρ a0 1) = some 2 := t27
        refine pw_aload_n d154_30 rfl ?_
        refine pw_getR d154_31 g154_44 hT hA0 rfl rfl (fun t31 => ?_)
        have t31 : τ (ρ a0 6) = some 4 := t31
        refine pw_aload_n d154_34 rfl ?_
        refine pw_getR d154_35 g154_19 hT hA0 rfl rfl (fun t35 => ?_)
        have t35 : τ (ρ a0 1) = some 2 := t35
        refine pw_iload_n d154_38 rfl ?_
        refine pw_callV2 d154_39 k154_282 hT t31 rfl rfl rfl (ct72 (τ := τ) (ρ := ρ) hT t31 t35 (by omega)) (fun r39 h39 q39 => ?_)
        obtain ⟨eh39, z39, ez39, lz39, uz39⟩ := q39
        subst eh39
        subst ez39
        refine pw_iload_n d154_42 rfl ?_
        refine pw_iload_n d154_43 rfl ?_
        refine pw_callV4 d154_44 k154_275 hT t23 rfl rfl rfl (ct147 (τ := τ) (ρ := ρ) hT t23 t35 (by omega) (by omega) (by omega)) (fun r44 h44 q44 => ?_)
        obtain ⟨T44, F44, z44, ez44, lz44, uz44⟩ := q44
        subst ez44
        have f44 := hF0.tr (F44.up (by decide))
        refine pw_lstore d154_47 m154 rfl rfl ?_
        refine pw_iload_n d154_49 rfl ?_
        refine pw_if_ne d154_50 rfl (by omega) (fun c50 => ?_) (fun c50 => ?_)
        · refine pw_iload_n d154_56 rfl ?_
          refine pw_iconst d154_57 ?_
          refine pw_icmp_ne d154_58 rfl (by omega) (by omega) (fun c58 => ?_) (fun c58 => ?_)
          · refine pw_aload_n d154_75 rfl ?_
            refine pw_getR d154_76 g154_58 T44 hA0 rfl rfl (fun t76 => ?_)
            have t76 : τ (ρ a0 8) = some 6 := t76
            refine pw_aload_n d154_79 rfl ?_
            refine pw_getR d154_80 g154_19 T44 hA0 rfl rfl (fun t80 => ?_)
            have t80 : τ (ρ a0 1) = some 2 := t80
            refine pw_callV1 d154_83 k154_293 T44 t76 rfl rfl rfl (ct158 (τ := τ) (ρ := ρ) T44 t76 t80) (fun r83 h83 q83 => ?_)
            obtain ⟨eh83, z83, ez83, lz83, uz83⟩ := q83
            subst eh83
            subst ez83
            refine pw_i2l d154_86 (by omega) ?_
            exact pw_lreturn d154_87 tt154 ⟨T44, f44, z83, rfl, (by omega), (by omega)⟩
          · refine pw_aload_n d154_61 rfl ?_
            refine pw_getR d154_62 g154_58 T44 hA0 rfl rfl (fun t62 => ?_)
            have t62 : τ (ρ a0 8) = some 6 := t62
            refine pw_aload_n d154_65 rfl ?_
            refine pw_getR d154_66 g154_19 T44 hA0 rfl rfl (fun t66 => ?_)
            have t66 : τ (ρ a0 1) = some 2 := t66
            refine pw_callV1 d154_69 k154_289 T44 t62 rfl rfl rfl (ct155 (τ := τ) (ρ := ρ) T44 t62 t66) (fun r69 h69 q69 => ?_)
            obtain ⟨eh69, z69, ez69, lz69, uz69⟩ := q69
            subst eh69
            subst ez69
            refine pw_goto d154_72 rfl ?_
            exact pw_lreturn d154_87 tt154 ⟨T44, f44, z69, rfl, (by omega), (by omega)⟩
        · refine pw_lload d154_53 rfl ?_
          exact pw_lreturn d154_55 tt154 ⟨T44, f44, z44, rfl, (by omega), (by omega)⟩
      · refine pw_ldc2 (v := pv_J (-2)) d154_18 n154_18 ?_
        exact pw_lreturn d154_21 tt154 ⟨hT, hF0, (-2), rfl, (by omega), (by omega)⟩

abbrev Q159 (τ : Nat → Option Nat) (ρ : Nat → Nat → Nat) (h : pv_H) (a0 : Nat) (x1 : Int) (x2 : Int) (x3 : Int) (x4 : Int) : Option Value → pv_H → Prop := fun r h' => pv_Ty τ ρ h' ∧ pv_Fr τ [387, 2431, 2495, 2559] h h' ∧ ∃ z : Int, r = some (.long (pv_J z)) ∧ (-9223372036854775808) ≤ z ∧ z ≤ 9223372036854775807
set_option maxHeartbeats 4000000 in
set_option maxRecDepth 20000 in
/-- AngleNet.through(IIII)J -/
theorem ct159 {τ : Nat → Option Nat} {ρ : Nat → Nat → Nat} {K : Nat → Nat} {h : pv_H} {a0 : Nat} {x1 : Int} {x2 : Int} {x3 : Int} {x4 : Int} (hT : pv_Ty τ ρ h) (hA0 : τ a0 = some 0) (hX1 : (-2147483648) ≤ x1 ∧ x1 ≤ 2147483647) (hX2 : (-2147483648) ≤ x2 ∧ x2 ≤ 2147483647) (hX3 : (-2147483648) ≤ x3 ∧ x3 ≤ 2147483647) (hX4 : (-2147483648) ≤ x4 ∧ x4 ≤ 2147483647) : pv_C K 159 [.ref a0, .int (pv_I x1), .int (pv_I x2), .int (pv_I x3), .int (pv_I x4)] h (Q159 τ ρ h a0 x1 x2 x3 x4) := by
  refine pw_entry 3 ?_
  show pv_T K 159 0 (pv_fl [some (.ref a0), some (.int (pv_I x1)), some (.int (pv_I x2)), some (.int (pv_I x3)), some (.int (pv_I x4)), none, none, none]) [] h (Q159 τ ρ h a0 x1 x2 x3 x4)
  have hF0 : pv_Fr τ [387, 2431, 2495, 2559] h h := pv_Fr.rf
  refine pw_aload_n d159_0 rfl ?_
  refine pw_iload_n d159_1 rfl ?_
  refine pw_iload_n d159_2 rfl ?_
  refine pw_callV2 d159_3 k159_279 hT hA0 rfl rfl rfl (ct153 (τ := τ) (ρ := ρ) hT hA0 (by omega) (by omega)) (fun r3 h3 q3 => ?_)
  obtain ⟨eh3, z3, ez3, lz3, uz3⟩ := q3
  subst eh3
  subst ez3
  refine pw_if_eq d159_6 rfl (by omega) (fun c6 => ?_) (fun c6 => ?_)
  · refine pw_ldc2 (v := pv_J (-1000000)) d159_22 n159_22 ?_
    exact pw_lreturn d159_25 tt159 ⟨hT, hF0, (-1000000), rfl, (by omega), (by omega)⟩
  · refine pw_aload_n d159_9 rfl ?_
    refine pw_getR d159_10 g159_19 hT hA0 rfl rfl (fun t10 => ?_)
    have t10 : τ (ρ a0 1) = some 2 := t10
    refine pw_iload_n d159_13 rfl ?_
    refine pw_iload d159_14 rfl ?_
    refine pw_callV2 d159_16 k159_194 hT t10 rfl rfl rfl (ct47 (τ := τ) (ρ := ρ) hT t10 (by omega) (by omega)) (fun r16 h16 q16 => ?_)
    obtain ⟨eh16, z16, ez16, lz16, uz16, pz16_0⟩ := q16
    subst eh16
    subst ez16
    refine pw_if_ne d159_19 rfl (by omega) (fun c19 => ?_) (fun c19 => ?_)
    · refine pw_aload_n d159_26 rfl ?_
      refine pw_getR d159_27 g159_44 hT hA0 rfl rfl (fun t27 => ?_)
      have t27 : τ (ρ a0 6) = some 4 := t27
      refine pw_aload_n d159_30 rfl ?_
      refine pw_getR d159_31 g159_19 hT hA0 rfl rfl (fun t31 => ?_)
      have t31 : τ (ρ a0 1) = some 2 := t31
      refine pw_iload_n d159_34 rfl ?_
      refine pw_callV2 d159_35 k159_282 hT t27 rfl rfl rfl (ct72 (τ := τ) (ρ := ρ) hT t27 t31 (by omega)) (fun r35 h35 q35 => ?_)
      obtain ⟨eh35, z35, ez35, lz35, uz35⟩ := q35
      subst eh35
      subst ez35
      refine pw_istore d159_38 m159 rfl rfl ?_
      refine pw_iload d159_40 rfl ?_
      refine pw_iload_n d159_42 rfl ?_
      refine pw_ishr d159_43 (fun z43 hz43 ez43 => ?_)
      refine pw_iconst d159_44 ?_
      refine pw_iand d159_45 (fun z45 hz45 ez45 => ?_)
      have bz45 := pv_and1_b hz45 ez45
      refine pw_if_ne d159_46 rfl (by omega) (fun c46 => ?_) (fun c46 => ?_)
      · refine pw_aload_n d159_53 rfl ?_
        refine pw_getR d159_54 g159_58 hT hA0 rfl rfl (fun t54 => ?_)
        have t54 : τ (ρ a0 8) = some 6 := t54
        refine pw_aload_n d159_57 rfl ?_
        refine pw_getR d159_58 g159_19 hT hA0 rfl rfl (fun t58 => ?_)
        have t58 : τ (ρ a0 1) = some 2 := t58
        refine pw_iload d159_61 rfl ?_
        refine pw_iload_n d159_63 rfl ?_
        refine pw_iload_n d159_64 rfl ?_
        refine pw_callV4 d159_65 k159_275 hT t54 rfl rfl rfl (ct147 (τ := τ) (ρ := ρ) hT t54 t58 (by omega) (by omega) (by omega)) (fun r65 h65 q65 => ?_)
        obtain ⟨T65, F65, z65, ez65, lz65, uz65⟩ := q65
        subst ez65
        have f65 := hF0.tr (F65.up (by decide))
        refine pw_pop2 d159_68 rfl ?_
        refine pw_aload_n d159_69 rfl ?_
        refine pw_getR d159_70 g159_58 T65 hA0 rfl rfl (fun t70 => ?_)
        have t70 : τ (ρ a0 8) = some 6 := t70
        refine pw_aload_n d159_73 rfl ?_
        refine pw_getR d159_74 g159_19 T65 hA0 rfl rfl (fun t74 => ?_)
        have t74 : τ (ρ a0 1) = some 2 := t74
        refine pw_callV1 d159_77 k159_289 T65 t70 rfl rfl rfl (ct155 (τ := τ) (ρ := ρ) T65 t70 t74) (fun r77 h77 q77 => ?_)
        obtain ⟨eh77, z77, ez77, lz77, uz77⟩ := q77
        subst eh77
        subst ez77
        refine pw_lstore d159_80 m159 rfl rfl ?_
        refine pw_lload d159_82 rfl ?_
        refine pw_lconst (z := 0) d159_84 (by decide) ?_
        refine pw_lcmp d159_85 (by omega) (by omega) (fun z85 ez85 => ?_)
        refine pw_if_ne d159_86 rfl (by omega) (fun c86 => ?_) (fun c86 => ?_)
        · refine pw_aload_n d159_93 rfl ?_
          refine pw_getR d159_94 g159_58 T65 hA0 rfl rfl (fun t94 => ?_)
          have t94 : τ (ρ a0 8) = some 6 := t94
          refine pw_getR d159_97 g159_285 T65 t94 rfl rfl (fun t97 => ?_)
          have t97 : τ (ρ (ρ a0 8) 0) = some 37 := t97
          refine pw_iload_n d159_100 rfl ?_
          refine pw_lald d159_101 T65 t97 rfl rfl (by omega) (by omega) (fun u101 => ?_)
          refine pw_aload_n d159_102 rfl ?_
          refine pw_getR d159_103 g159_58 T65 hA0 rfl rfl (fun t103 => ?_)
          have t103 : τ (ρ a0 8) = some 6 := t103
          refine pw_getR d159_106 g159_285 T65 t103 rfl rfl (fun t106 => ?_)
          have t106 : τ (ρ (ρ a0 8) 0) = some 37 := t106
          refine pw_iload d159_109 rfl ?_
          refine pw_lald d159_111 T65 t106 rfl rfl (by omega) (by omega) (fun u111 => ?_)
          refine pw_lsub d159_112 ?_
          refine pw_lload d159_113 rfl ?_
          refine pw_ldivU d159_115 (by omega) (by omega) (fun z115 hz115 ez115 => ?_)
          exact pw_lreturn d159_116 tt159 ⟨T65, f65, z115, rfl, (by omega), (by omega)⟩
        · refine pw_ldc2 (v := pv_J (-1000000)) d159_89 n159_89 ?_
          exact pw_lreturn d159_92 tt159 ⟨T65, f65, (-1000000), rfl, (by omega), (by omega)⟩
      · refine pw_ldc2 (v := pv_J (-1000000)) d159_49 n159_49 ?_
        exact pw_lreturn d159_52 tt159 ⟨hT, hF0, (-1000000), rfl, (by omega), (by omega)⟩
    · refine pw_ldc2 (v := pv_J (-1000000)) d159_22 n159_22 ?_
      exact pw_lreturn d159_25 tt159 ⟨hT, hF0, (-1000000), rfl, (by omega), (by omega)⟩

abbrev Q160 (τ : Nat → Option Nat) (ρ : Nat → Nat → Nat) (h : pv_H) (a0 : Nat) (x1 : Int) (x2 : Int) : Option Value → pv_H → Prop := fun r h' => h = h' ∧ ∃ z : Int, r = some (.int (pv_I z)) ∧ (-1000000) ≤ z ∧ z ≤ 64639
set_option maxHeartbeats 4000000 in
set_option maxRecDepth 20000 in
/-- AngleNet.fourth(II)I -/
theorem ct160 {τ : Nat → Option Nat} {ρ : Nat → Nat → Nat} {K : Nat → Nat} {h : pv_H} {a0 : Nat} {x1 : Int} {x2 : Int} (hT : pv_Ty τ ρ h) (hA0 : τ a0 = some 0) (hX1 : (-2147483648) ≤ x1 ∧ x1 ≤ 2147483647) (hX2 : (-2147483648) ≤ x2 ∧ x2 ≤ 2147483647) : pv_C K 160 [.ref a0, .int (pv_I x1), .int (pv_I x2)] h (Q160 τ ρ h a0 x1 x2) := by
  refine pw_entry 2 ?_
  show pv_T K 160 0 (pv_fl [some (.ref a0), some (.int (pv_I x1)), some (.int (pv_I x2)), none, none]) [] h (Q160 τ ρ h a0 x1 x2)
  refine pw_aload_n d160_0 rfl ?_
  refine pw_getR d160_1 g160_19 hT hA0 rfl rfl (fun t1 => ?_)
  have t1 : τ (ρ a0 1) = some 2 := t1
  refine pw_iload_n d160_4 rfl ?_
  refine pw_callV1 d160_5 k160_90 hT t1 rfl rfl rfl (ct55 (τ := τ) (ρ := ρ) hT t1 (by omega)) (fun r5 h5 q5 => ?_)
  obtain ⟨eh5, z5, ez5, lz5, uz5, pz5_0⟩ := q5
  subst eh5
  subst ez5
  refine pw_if_eq d160_8 rfl (by omega) (fun c8 => ?_) (fun c8 => ?_)
  · refine pw_ldc (v := pv_I (-1000000)) d160_20 n160_20 ?_
    exact pw_ireturn d160_22 tt160 ⟨rfl, (-1000000), rfl, (by omega), (by omega)⟩
  · refine pw_iload_n d160_11 rfl ?_
    refine pw_if_lt d160_12 rfl (by omega) (fun c12 => ?_) (fun c12 => ?_)
    · refine pw_ldc (v := pv_I (-1000000)) d160_20 n160_20 ?_
      exact pw_ireturn d160_22 tt160 ⟨rfl, (-1000000), rfl, (by omega), (by omega)⟩
    · refine pw_iload_n d160_15 rfl ?_
      refine pw_iconst d160_16 ?_
      refine pw_icmp_le d160_17 rfl (by omega) (by omega) (fun c17 => ?_) (fun c17 => ?_)
      · refine pw_aload_n d160_23 rfl ?_
        refine pw_getR d160_24 g160_19 hT hA0 rfl rfl (fun t24 => ?_)
        have t24 : τ (ρ a0 1) = some 2 := t24
        refine pw_iload_n d160_27 rfl ?_
        refine pw_callS2 d160_28 k160_298 rfl rfl (ct161 (τ := τ) (ρ := ρ) hT t24 (by omega)) (fun r28 h28 q28 => ?_)
        obtain ⟨eh28, z28, ez28, lz28, uz28⟩ := q28
        subst eh28
        subst ez28
        refine pw_istore_n d160_31 m160 rfl rfl ?_
        refine pw_iload_n d160_32 rfl ?_
        refine pw_iconst d160_33 ?_
        refine pw_icmp_ne d160_34 rfl (by omega) (by omega) (fun c34 => ?_) (fun c34 => ?_)
        · refine pw_aload_n d160_40 rfl ?_
          refine pw_getR d160_41 g160_19 hT hA0 rfl rfl (fun t41 => ?_)
          have t41 : τ (ρ a0 1) = some 2 := t41
          refine pw_iload_n d160_44 rfl ?_
          refine pw_callS2 d160_45 k160_303 rfl rfl (ct162 (τ := τ) (ρ := ρ) hT t41 (by omega)) (fun r45 h45 q45 => ?_)
          obtain ⟨eh45, z45, ez45, lz45, uz45⟩ := q45
          subst eh45
          subst ez45
          refine pw_istore d160_48 m160 rfl rfl ?_
          refine pw_iload_n d160_50 rfl ?_
          refine pw_if_ne d160_51 rfl (by omega) (fun c51 => ?_) (fun c51 => ?_)
          · refine pw_iload d160_63 rfl ?_
            refine pw_iconst d160_65 ?_
            refine pw_iload_n d160_66 rfl ?_
            refine pw_imul d160_67 ?_
            refine pw_isub d160_68 ?_
            exact pw_ireturn d160_69 tt160 ⟨rfl, (z45 - (2 * z28)), rfl, (by omega), (by omega)⟩
          · refine pw_iload d160_54 rfl ?_
            refine pw_iconst d160_56 ?_
            refine pw_iload_n d160_57 rfl ?_
            refine pw_imul d160_58 ?_
            refine pw_iadd d160_59 ?_
            refine pw_goto d160_60 rfl ?_
            exact pw_ireturn d160_69 tt160 ⟨rfl, (z45 + (2 * z28)), rfl, (by omega), (by omega)⟩
        · refine pw_ldc (v := pv_I (-1000000)) d160_37 n160_37 ?_
          exact pw_ireturn d160_39 tt160 ⟨rfl, (-1000000), rfl, (by omega), (by omega)⟩
      · refine pw_ldc (v := pv_I (-1000000)) d160_20 n160_20 ?_
        exact pw_ireturn d160_22 tt160 ⟨rfl, (-1000000), rfl, (by omega), (by omega)⟩

abbrev Q163 (τ : Nat → Option Nat) (ρ : Nat → Nat → Nat) (h : pv_H) (a0 : Nat) : Option Value → pv_H → Prop := fun r h' => h = h' ∧ ∃ z : Int, r = some (.int (pv_I z)) ∧ (-2147483648) ≤ z ∧ z ≤ 2147483647
set_option maxHeartbeats 4000000 in
set_option maxRecDepth 20000 in
/-- AngleNet.whole()I -/
theorem ct163 {τ : Nat → Option Nat} {ρ : Nat → Nat → Nat} {K : Nat → Nat} {h : pv_H} {a0 : Nat} (hT : pv_Ty τ ρ h) (hA0 : τ a0 = some 0) : pv_C K 163 [.ref a0] h (Q163 τ ρ h a0) := by
  refine pw_entry 2 ?_
  show pv_T K 163 0 (pv_fl [some (.ref a0), none, none]) [] h (Q163 τ ρ h a0)
  have L17 : ∀ (nn : Nat) (xL1_17 xL2_17 : Int), ((-2147483648) ≤ xL1_17 ∧ xL1_17 ≤ 2147483647) → (0 ≤ xL2_17 ∧ xL2_17 ≤ 18) → 18 - xL2_17 < nn → pv_T K 163 17 (pv_fl [some (.ref a0), some (.int (pv_I xL1_17)), some (.int (pv_I xL2_17))]) [] h (Q163 τ ρ h a0) := by
    intro nn
    induction nn with
    | zero => intro xL1_17 xL2_17 rL1_17 rL2_17 hm; exfalso; omega
    | succ nn ih17 =>
      intro xL1_17 xL2_17 rL1_17 rL2_17 hm17
      have J46 : ∀ (xL1_46 : Int), ((-2147483648) ≤ xL1_46 ∧ xL1_46 ≤ 2147483647) → (0 ≤ xL2_17 ∧ xL2_17 ≤ 17) → pv_T K 163 46 (pv_fl [some (.ref a0), some (.int (pv_I xL1_46)), some (.int (pv_I xL2_17))]) [] h (Q163 τ ρ h a0) := by
        intro xL1_46 rL1_46 rL2_46
        refine pw_iinc d163_46 m163 rfl rfl rfl ?_
        refine pw_goto d163_49 rfl ?_
        exact ih17 (xL1_46) ((xL2_17 + 1)) (by omega) (by omega) (by omega)
      refine pw_iload_n d163_17 rfl ?_
      refine pw_aload_n d163_18 rfl ?_
      refine pw_getR d163_19 g163_19 hT hA0 rfl rfl (fun t19 => ?_)
      have t19 : τ (ρ a0 1) = some 2 := t19
      refine pw_getI d163_22 g163_163 hT t19 rfl rfl (fun u22 vu22 => ?_)
      refine pw_icmp_ge d163_25 rfl (by omega) (by omega) (fun c25 => ?_) (fun c25 => ?_)
      · refine pw_iload_n d163_52 rfl ?_
        exact pw_ireturn d163_53 tt163 ⟨rfl, xL1_17, rfl, (by omega), (by omega)⟩
      · refine pw_aload_n d163_28 rfl ?_
        refine pw_getR d163_29 g163_19 hT hA0 rfl rfl (fun t29 => ?_)
        have t29 : τ (ρ a0 1) = some 2 := t29
        refine pw_iload_n d163_32 rfl ?_
        refine pw_callS2 d163_33 k163_298 rfl rfl (ct161 (τ := τ) (ρ := ρ) hT t29 (by omega)) (fun r33 h33 q33 => ?_)
        obtain ⟨eh33, z33, ez33, lz33, uz33⟩ := q33
        subst eh33
        subst ez33
        refine pw_iconst d163_36 ?_
        refine pw_icmp_eq d163_37 rfl (by omega) (by omega) (fun c37 => ?_) (fun c37 => ?_)
        · exact J46 (xL1_17) (by omega) (by omega)
        · refine pw_iload_n d163_40 rfl ?_
          refine pw_iconst d163_41 ?_
          refine pw_iload_n d163_42 rfl ?_
          refine pw_ishl d163_43 (fun z43 hz43 ez43 => ?_)
          have bz43 := pv_shl1_b (n := 17) (m := 131072) (y := xL2_17) (by omega) (by omega) (by decide) (by decide) hz43 ez43
          refine pw_ior d163_44 (fun z44 hz44 ez44 => ?_)
          refine pw_istore_n d163_45 m163 rfl rfl ?_
          exact J46 (z44) (by omega) (by omega)
  refine pw_aload_n d163_0 rfl ?_
  refine pw_getR d163_1 g163_19 hT hA0 rfl rfl (fun t1 => ?_)
  have t1 : τ (ρ a0 1) = some 2 := t1
  refine pw_callV0 d163_4 k163_129 hT t1 rfl rfl rfl (ct64 (τ := τ) (ρ := ρ) hT t1) (fun r4 h4 q4 => ?_)
  obtain ⟨eh4, z4, ez4, lz4, uz4⟩ := q4
  subst eh4
  subst ez4
  refine pw_if_ne d163_7 rfl (by omega) (fun c7 => ?_) (fun c7 => ?_)
  · refine pw_iconst d163_13 ?_
    refine pw_istore_n d163_14 m163 rfl rfl ?_
    refine pw_iconst d163_15 ?_
    refine pw_istore_n d163_16 m163 rfl rfl ?_
    exact L17 _ (0) (0) (by omega) (by omega) (pv_mu _)
  · refine pw_bipush d163_10 (by decide) ?_
    exact pw_ireturn d163_12 tt163 ⟨rfl, (-2), rfl, (by omega), (by omega)⟩

abbrev Q165 (τ : Nat → Option Nat) (ρ : Nat → Nat → Nat) (h : pv_H) (x0 : Int) : Option Value → pv_H → Prop := fun r h' => h = h' ∧ ∃ z : Int, r = some (.int (pv_I z)) ∧ 0 ≤ z ∧ z ≤ 1 ∧ ((z = 1 ∧ 0 ≤ x0 ∧ x0 ≤ 3) ∨ (z = 0 ∧ (x0 < 0 ∨ 3 < x0)))
set_option maxHeartbeats 4000000 in
set_option maxRecDepth 20000 in
/-- AngleNet.isSlot(I)Z -/
theorem ct165 {τ : Nat → Option Nat} {ρ : Nat → Nat → Nat} {K : Nat → Nat} {h : pv_H} {x0 : Int} (hX0 : (-2147483648) ≤ x0 ∧ x0 ≤ 2147483647) : pv_C K 165 [.int (pv_I x0)] h (Q165 τ ρ h x0) := by
  refine pw_entry 0 ?_
  show pv_T K 165 0 (pv_fl [some (.int (pv_I x0))]) [] h (Q165 τ ρ h x0)
  refine pw_iload_n d165_0 rfl ?_
  refine pw_if_lt d165_1 rfl (by omega) (fun c1 => ?_) (fun c1 => ?_)
  · refine pw_iconst d165_13 ?_
    exact pw_zreturn d165_14 tt165 (by omega) ⟨rfl, 0, rfl, (by omega), (by omega), (by omega)⟩
  · refine pw_iload_n d165_4 rfl ?_
    refine pw_iconst d165_5 ?_
    refine pw_icmp_ge d165_6 rfl (by omega) (by omega) (fun c6 => ?_) (fun c6 => ?_)
    · refine pw_iconst d165_13 ?_
      exact pw_zreturn d165_14 tt165 (by omega) ⟨rfl, 0, rfl, (by omega), (by omega), (by omega)⟩
    · refine pw_iconst d165_9 ?_
      refine pw_goto d165_10 rfl ?_
      exact pw_zreturn d165_14 tt165 (by omega) ⟨rfl, 1, rfl, (by omega), (by omega), (by omega)⟩

abbrev Q167 (τ : Nat → Option Nat) (ρ : Nat → Nat → Nat) (h : pv_H) (a0 : Nat) (x1 : Int) : Option Value → pv_H → Prop := fun r h' => h = h' ∧ ∃ z : Int, r = some (.int (pv_I z)) ∧ (-7) ≤ z ∧ z ≤ 353
set_option maxHeartbeats 4000000 in
set_option maxRecDepth 20000 in
/-- AngleNet.laid(I)I -/
theorem ct167 {τ : Nat → Option Nat} {ρ : Nat → Nat → Nat} {K : Nat → Nat} {h : pv_H} {a0 : Nat} {x1 : Int} (hT : pv_Ty τ ρ h) (hA0 : τ a0 = some 0) (hX1 : (-2147483648) ≤ x1 ∧ x1 ≤ 2147483647) : pv_C K 167 [.ref a0, .int (pv_I x1)] h (Q167 τ ρ h a0 x1) := by
  refine pw_entry 4 ?_
  show pv_T K 167 0 (pv_fl [some (.ref a0), some (.int (pv_I x1)), none, none, none, none]) [] h (Q167 τ ρ h a0 x1)
  refine pw_iload_n d167_0 rfl ?_
  refine pw_callS1 d167_1 k167_306 rfl rfl (ct165 (τ := τ) (ρ := ρ) (by omega)) (fun r1 h1 q1 => ?_)
  obtain ⟨eh1, z1, ez1, lz1, uz1, pz1_0⟩ := q1
  subst eh1
  subst ez1
  refine pw_if_eq d167_4 rfl (by omega) (fun c4 => ?_) (fun c4 => ?_)
  · refine pw_bipush d167_17 (by decide) ?_
    exact pw_ireturn d167_19 tt167 ⟨rfl, (-2), rfl, (by omega), (by omega)⟩
  · refine pw_aload_n d167_7 rfl ?_
    refine pw_getR d167_8 g167_19 hT hA0 rfl rfl (fun t8 => ?_)
    have t8 : τ (ρ a0 1) = some 2 := t8
    refine pw_callV0 d167_11 k167_129 hT t8 rfl rfl rfl (ct64 (τ := τ) (ρ := ρ) hT t8) (fun r11 h11 q11 => ?_)
    obtain ⟨eh11, z11, ez11, lz11, uz11⟩ := q11
    subst eh11
    subst ez11
    refine pw_if_ne d167_14 rfl (by omega) (fun c14 => ?_) (fun c14 => ?_)
    · refine pw_aload_n d167_20 rfl ?_
      refine pw_getR d167_21 g167_36 hT hA0 rfl rfl (fun t21 => ?_)
      have t21 : τ (ρ a0 5) = some 12 := t21
      refine pw_iload_n d167_24 rfl ?_
      refine pw_aald d167_25 hT t21 rfl (by decide) rfl (by omega) (by omega) (fun u25 => ?_)
      have u25 : τ (ρ (ρ a0 5) (x1).toNat) = some 3 := u25
      refine pw_astore_n d167_26 m167 rfl rfl ?_
      refine pw_aload_n d167_27 rfl ?_
      refine pw_getI d167_28 g167_309 hT u25 rfl rfl (fun u28 vu28 => ?_)
      refine pw_if_ne d167_31 rfl (by omega) (fun c31 => ?_) (fun c31 => ?_)
      · refine pw_aload_n d167_37 rfl ?_
        refine pw_getI d167_38 g167_316 hT u25 rfl rfl (fun u38 vu38 => ?_)
        refine pw_iconst d167_41 ?_
        refine pw_aload_n d167_42 rfl ?_
        refine pw_getR d167_43 g167_19 hT hA0 rfl rfl (fun t43 => ?_)
        have t43 : τ (ρ a0 1) = some 2 := t43
        refine pw_getI d167_46 g167_163 hT t43 rfl rfl (fun u46 vu46 => ?_)
        refine pw_imul d167_49 ?_
        refine pw_icmp_eq d167_50 rfl (by omega) (by omega) (fun c50 => ?_) (fun c50 => ?_)
        · refine pw_aload_n d167_56 rfl ?_
          refine pw_aload_n d167_57 rfl ?_
          refine pw_getR d167_58 g167_19 hT hA0 rfl rfl (fun t58 => ?_)
          have t58 : τ (ρ a0 1) = some 2 := t58
          refine pw_callV1 d167_61 k167_326 hT u25 rfl rfl rfl (ct168 (τ := τ) (ρ := ρ) hT u25 t58) (fun r61 h61 q61 => ?_)
          obtain ⟨eh61, z61, ez61, lz61, uz61⟩ := q61
          subst eh61
          subst ez61
          refine pw_istore_n d167_64 m167 rfl rfl ?_
          refine pw_iload_n d167_65 rfl ?_
          refine pw_iconst d167_66 ?_
          refine pw_icmp_eq d167_67 rfl (by omega) (by omega) (fun c67 => ?_) (fun c67 => ?_)
          · refine pw_aload_n d167_75 rfl ?_
            refine pw_aload_n d167_76 rfl ?_
            refine pw_getR d167_77 g167_19 hT hA0 rfl rfl (fun t77 => ?_)
            have t77 : τ (ρ a0 1) = some 2 := t77
            refine pw_callV1 d167_80 k167_329 hT u25 rfl rfl rfl (ct169 (τ := τ) (ρ := ρ) hT u25 t77) (fun r80 h80 q80 => ?_)
            obtain ⟨eh80, z80, ez80, lz80, uz80⟩ := q80
            subst eh80
            subst ez80
            refine pw_istore d167_83 m167 rfl rfl ?_
            refine pw_iload d167_85 rfl ?_
            refine pw_iconst d167_87 ?_
            refine pw_icmp_eq d167_88 rfl (by omega) (by omega) (fun c88 => ?_) (fun c88 => ?_)
            · refine pw_aload_n d167_98 rfl ?_
              refine pw_aload_n d167_99 rfl ?_
              refine pw_getR d167_100 g167_19 hT hA0 rfl rfl (fun t100 => ?_)
              have t100 : τ (ρ a0 1) = some 2 := t100
              refine pw_callV1 d167_103 k167_332 hT u25 rfl rfl rfl (ct170 (τ := τ) (ρ := ρ) hT u25 t100) (fun r103 h103 q103 => ?_)
              obtain ⟨eh103, z103, ez103, lz103, uz103⟩ := q103
              subst eh103
              subst ez103
              refine pw_istore d167_106 m167 rfl rfl ?_
              refine pw_iload d167_108 rfl ?_
              refine pw_iconst d167_110 ?_
              refine pw_icmp_eq d167_111 rfl (by omega) (by omega) (fun c111 => ?_) (fun c111 => ?_)
              · refine pw_iconst d167_123 ?_
                exact pw_ireturn d167_124 tt167 ⟨rfl, 0, rfl, (by omega), (by omega)⟩
              · refine pw_sipush d167_114 (by decide) ?_
                refine pw_iload d167_117 rfl ?_
                refine pw_iadd d167_119 ?_
                refine pw_goto d167_120 rfl ?_
                exact pw_ireturn d167_124 tt167 ⟨rfl, (300 + z103), rfl, (by omega), (by omega)⟩
            · refine pw_sipush d167_91 (by decide) ?_
              refine pw_iload d167_94 rfl ?_
              refine pw_iadd d167_96 ?_
              exact pw_ireturn d167_97 tt167 ⟨rfl, (200 + z80), rfl, (by omega), (by omega)⟩
          · refine pw_bipush d167_70 (by decide) ?_
            refine pw_iload_n d167_72 rfl ?_
            refine pw_iadd d167_73 ?_
            exact pw_ireturn d167_74 tt167 ⟨rfl, (100 + z61), rfl, (by omega), (by omega)⟩
        · refine pw_bipush d167_53 (by decide) ?_
          exact pw_ireturn d167_55 tt167 ⟨rfl, (-7), rfl, (by omega), (by omega)⟩
      · refine pw_bipush d167_34 (by decide) ?_
        exact pw_ireturn d167_36 tt167 ⟨rfl, (-6), rfl, (by omega), (by omega)⟩
    · refine pw_bipush d167_17 (by decide) ?_
      exact pw_ireturn d167_19 tt167 ⟨rfl, (-2), rfl, (by omega), (by omega)⟩

abbrev Q173 (τ : Nat → Option Nat) (ρ : Nat → Nat → Nat) (h : pv_H) (a0 : Nat) : Option Value → pv_H → Prop := fun r h' => h = h' ∧ ∃ z : Int, r = some (.int (pv_I z)) ∧ (-2147483648) ≤ z ∧ z ≤ 2147483647
set_option maxHeartbeats 4000000 in
set_option maxRecDepth 20000 in
/-- AngleNet.slotsInUse()I -/
theorem ct173 {τ : Nat → Option Nat} {ρ : Nat → Nat → Nat} {K : Nat → Nat} {h : pv_H} {a0 : Nat} (hT : pv_Ty τ ρ h) (hA0 : τ a0 = some 0) : pv_C K 173 [.ref a0] h (Q173 τ ρ h a0) := by
  refine pw_entry 2 ?_
  show pv_T K 173 0 (pv_fl [some (.ref a0), none, none]) [] h (Q173 τ ρ h a0)
  have L4 : ∀ (nn : Nat) (xL1_4 xL2_4 : Int), ((-2147483648) ≤ xL1_4 ∧ xL1_4 ≤ 2147483647) → (0 ≤ xL2_4 ∧ xL2_4 ≤ 4) → 4 - xL2_4 < nn → pv_T K 173 4 (pv_fl [some (.ref a0), some (.int (pv_I xL1_4)), some (.int (pv_I xL2_4))]) [] h (Q173 τ ρ h a0) := by
    intro nn
    induction nn with
    | zero => intro xL1_4 xL2_4 rL1_4 rL2_4 hm; exfalso; omega
    | succ nn ih4 =>
      intro xL1_4 xL2_4 rL1_4 rL2_4 hm4
      have J27 : ∀ (xS0_27 : Int) (o1_27 : Option Value), (0 ≤ xL2_4 ∧ xL2_4 ≤ 3) → (0 ≤ xS0_27 ∧ xS0_27 ≤ 1) → ((-2147483648) ≤ xL1_4 ∧ xL1_4 ≤ 2147483647) → pv_T K 173 27 (pv_fl [some (.ref a0), o1_27, some (.int (pv_I xL2_4))]) [.int (pv_I xS0_27), .int (pv_I xL1_4)] h (Q173 τ ρ h a0) := by
        intro xS0_27 o1_27 rL2_27 rS0_27 rS1_27
        refine pw_iadd d173_27 ?_
        refine pw_any (fun z28 hz28 ez28 => ?_)
        refine pw_istore_n d173_28 m173 rfl rfl ?_
        refine pw_iinc d173_29 m173 rfl rfl rfl ?_
        refine pw_goto d173_32 rfl ?_
        exact ih4 (z28) ((xL2_4 + 1)) (by omega) (by omega) (by omega)
      refine pw_iload_n d173_4 rfl ?_
      refine pw_iconst d173_5 ?_
      refine pw_icmp_ge d173_6 rfl (by omega) (by omega) (fun c6 => ?_) (fun c6 => ?_)
      · refine pw_iload_n d173_35 rfl ?_
        exact pw_ireturn d173_36 tt173 ⟨rfl, xL1_4, rfl, (by omega), (by omega)⟩
      · refine pw_iload_n d173_9 rfl ?_
        refine pw_aload_n d173_10 rfl ?_
        refine pw_getR d173_11 g173_36 hT hA0 rfl rfl (fun t11 => ?_)
        have t11 : τ (ρ a0 5) = some 12 := t11
        refine pw_iload_n d173_14 rfl ?_
        refine pw_aald d173_15 hT t11 rfl (by decide) rfl (by omega) (by omega) (fun u15 => ?_)
        have u15 : τ (ρ (ρ a0 5) (xL2_4).toNat) = some 3 := u15
        refine pw_getI d173_16 g173_309 hT u15 rfl rfl (fun u16 vu16 => ?_)
        refine pw_if_eq d173_19 rfl (by omega) (fun c19 => ?_) (fun c19 => ?_)
        · refine pw_iconst d173_26 ?_
          exact J27 (0) _ (by omega) (by omega) (by omega)
        · refine pw_iconst d173_22 ?_
          refine pw_goto d173_23 rfl ?_
          exact J27 (1) _ (by omega) (by omega) (by omega)
  refine pw_iconst d173_0 ?_
  refine pw_istore_n d173_1 m173 rfl rfl ?_
  refine pw_iconst d173_2 ?_
  refine pw_istore_n d173_3 m173 rfl rfl ?_
  exact L4 _ (0) (0) (by omega) (by omega) (pv_mu _)

abbrev Q171 (τ : Nat → Option Nat) (ρ : Nat → Nat → Nat) (h : pv_H) (a0 : Nat) (x1 : Int) : Option Value → pv_H → Prop := fun r h' => h = h' ∧ ∃ z : Int, r = some (.int (pv_I z)) ∧ (-2147483648) ≤ z ∧ z ≤ 2147483647
set_option maxHeartbeats 4000000 in
set_option maxRecDepth 20000 in
/-- AngleNet.count(I)I -/
theorem ct171 {τ : Nat → Option Nat} {ρ : Nat → Nat → Nat} {K : Nat → Nat} {h : pv_H} {a0 : Nat} {x1 : Int} (hT : pv_Ty τ ρ h) (hA0 : τ a0 = some 0) (hX1 : (-2147483648) ≤ x1 ∧ x1 ≤ 2147483647) : pv_C K 171 [.ref a0, .int (pv_I x1)] h (Q171 τ ρ h a0 x1) := by
  refine pw_entry 0 ?_
  show pv_T K 171 0 (pv_fl [some (.ref a0), some (.int (pv_I x1))]) [] h (Q171 τ ρ h a0 x1)
  refine pw_iload_n d171_0 rfl ?_
  by_cases c1 : x1 < 0 ∨ 10 < x1
  · refine pw_tabOut d171_1 (by omega) c1 rfl ?_
    refine pw_iconst d171_153 ?_
    exact pw_ireturn d171_154 tt171 ⟨rfl, (-1), rfl, (by omega), (by omega)⟩
  by_cases c1_0 : x1 = 0
  · refine pw_tabIn (x := x1) d171_1 (by omega) c1 (by rw [c1_0]; rfl) rfl ?_
    refine pw_aload_n d171_60 rfl ?_
    refine pw_getR d171_61 g171_19 hT hA0 rfl rfl (fun t61 => ?_)
    have t61 : τ (ρ a0 1) = some 2 := t61
    refine pw_getI d171_64 g171_160 hT t61 rfl rfl (fun u64 vu64 => ?_)
    exact pw_ireturn d171_67 tt171 ⟨rfl, (pv_fI h (ρ a0 1) 0), rfl, (by omega), (by omega)⟩
  by_cases c1_1 : x1 = 1
  · refine pw_tabIn (x := x1) d171_1 (by omega) c1 (by rw [c1_1]; rfl) rfl ?_
    refine pw_aload_n d171_68 rfl ?_
    refine pw_getR d171_69 g171_19 hT hA0 rfl rfl (fun t69 => ?_)
    have t69 : τ (ρ a0 1) = some 2 := t69
    refine pw_getI d171_72 g171_163 hT t69 rfl rfl (fun u72 vu72 => ?_)
    exact pw_ireturn d171_75 tt171 ⟨rfl, (pv_fI h (ρ a0 1) 1), rfl, (by omega), (by omega)⟩
  by_cases c1_2 : x1 = 2
  · refine pw_tabIn (x := x1) d171_1 (by omega) c1 (by rw [c1_2]; rfl) rfl ?_
    refine pw_aload_n d171_76 rfl ?_
    refine pw_getR d171_77 g171_19 hT hA0 rfl rfl (fun t77 => ?_)
    have t77 : τ (ρ a0 1) = some 2 := t77
    refine pw_callV0 d171_80 k171_229 hT t77 rfl rfl rfl (ct68 (τ := τ) (ρ := ρ) hT t77) (fun r80 h80 q80 => ?_)
    obtain ⟨eh80, z80, ez80, lz80, uz80⟩ := q80
    subst eh80
    subst ez80
    exact pw_ireturn d171_83 tt171 ⟨rfl, z80, rfl, (by omega), (by omega)⟩
  by_cases c1_3 : x1 = 3
  · refine pw_tabIn (x := x1) d171_1 (by omega) c1 (by rw [c1_3]; rfl) rfl ?_
    refine pw_aload_n d171_84 rfl ?_
    refine pw_getR d171_85 g171_19 hT hA0 rfl rfl (fun t85 => ?_)
    have t85 : τ (ρ a0 1) = some 2 := t85
    refine pw_getI d171_88 g171_81 hT t85 rfl rfl (fun u88 vu88 => ?_)
    exact pw_ireturn d171_91 tt171 ⟨rfl, (pv_fI h (ρ a0 1) 2), rfl, (by omega), (by omega)⟩
  by_cases c1_4 : x1 = 4
  · refine pw_tabIn (x := x1) d171_1 (by omega) c1 (by rw [c1_4]; rfl) rfl ?_
    refine pw_aload_n d171_92 rfl ?_
    refine pw_getR d171_93 g171_10 hT hA0 rfl rfl (fun t93 => ?_)
    have t93 : τ (ρ a0 0) = some 1 := t93
    refine pw_getI d171_96 g171_62 hT t93 rfl rfl (fun u96 vu96 => ?_)
    exact pw_ireturn d171_99 tt171 ⟨rfl, (pv_fI h (ρ a0 0) 0), rfl, (by omega), (by omega)⟩
  by_cases c1_5 : x1 = 5
  · refine pw_tabIn (x := x1) d171_1 (by omega) c1 (by rw [c1_5]; rfl) rfl ?_
    refine pw_aload_n d171_100 rfl ?_
    refine pw_getR d171_101 g171_19 hT hA0 rfl rfl (fun t101 => ?_)
    have t101 : τ (ρ a0 1) = some 2 := t101
    refine pw_getI d171_104 g171_207 hT t101 rfl rfl (fun u104 vu104 => ?_)
    exact pw_ireturn d171_107 tt171 ⟨rfl, (pv_fI h (ρ a0 1) 14), rfl, (by omega), (by omega)⟩
  by_cases c1_6 : x1 = 6
  · refine pw_tabIn (x := x1) d171_1 (by omega) c1 (by rw [c1_6]; rfl) rfl ?_
    refine pw_aload_n d171_108 rfl ?_
    refine pw_getR d171_109 g171_19 hT hA0 rfl rfl (fun t109 => ?_)
    have t109 : τ (ρ a0 1) = some 2 := t109
    refine pw_getI d171_112 g171_217 hT t109 rfl rfl (fun u112 vu112 => ?_)
    refine pw_aload_n d171_115 rfl ?_
    refine pw_getR d171_116 g171_19 hT hA0 rfl rfl (fun t116 => ?_)
    have t116 : τ (ρ a0 1) = some 2 := t116
    refine pw_getI d171_119 g171_207 hT t116 rfl rfl (fun u119 vu119 => ?_)
    refine pw_isub d171_122 ?_
    exact pw_ireturn d171_123 tt171 ⟨rfl, ((pv_fI h (ρ a0 1) 15) - (pv_fI h (ρ a0 1) 14)), rfl, (by omega), (by omega)⟩
  by_cases c1_7 : x1 = 7
  · refine pw_tabIn (x := x1) d171_1 (by omega) c1 (by rw [c1_7]; rfl) rfl ?_
    refine pw_aload_n d171_124 rfl ?_
    refine pw_getR d171_125 g171_19 hT hA0 rfl rfl (fun t125 => ?_)
    have t125 : τ (ρ a0 1) = some 2 := t125
    refine pw_getI d171_128 g171_335 hT t125 rfl rfl (fun u128 vu128 => ?_)
    exact pw_ireturn d171_131 tt171 ⟨rfl, (pv_fI h (ρ a0 1) 3), rfl, (by omega), (by omega)⟩
  by_cases c1_8 : x1 = 8
  · refine pw_tabIn (x := x1) d171_1 (by omega) c1 (by rw [c1_8]; rfl) rfl ?_
    refine pw_aload_n d171_132 rfl ?_
    refine pw_getR d171_133 g171_19 hT hA0 rfl rfl (fun t133 => ?_)
    have t133 : τ (ρ a0 1) = some 2 := t133
    refine pw_getI d171_136 g171_338 hT t133 rfl rfl (fun u136 vu136 => ?_)
    exact pw_ireturn d171_139 tt171 ⟨rfl, (pv_fI h (ρ a0 1) 4), rfl, (by omega), (by omega)⟩
  by_cases c1_9 : x1 = 9
  · refine pw_tabIn (x := x1) d171_1 (by omega) c1 (by rw [c1_9]; rfl) rfl ?_
    refine pw_aload_n d171_140 rfl ?_
    refine pw_getR d171_141 g171_19 hT hA0 rfl rfl (fun t141 => ?_)
    have t141 : τ (ρ a0 1) = some 2 := t141
    refine pw_callV0 d171_144 k171_341 hT t141 rfl rfl rfl (ct172 (τ := τ) (ρ := ρ) hT t141) (fun r144 h144 q144 => ?_)
    obtain ⟨eh144, z144, ez144, lz144, uz144⟩ := q144
    subst eh144
    subst ez144
    exact pw_ireturn d171_147 tt171 ⟨rfl, z144, rfl, (by omega), (by omega)⟩
  by_cases c1_10 : x1 = 10
  · refine pw_tabIn (x := x1) d171_1 (by omega) c1 (by rw [c1_10]; rfl) rfl ?_
    refine pw_aload_n d171_148 rfl ?_
    refine pw_callV0 d171_149 k171_344 hT hA0 rfl rfl rfl (ct173 (τ := τ) (ρ := ρ) hT hA0) (fun r149 h149 q149 => ?_)
    obtain ⟨eh149, z149, ez149, lz149, uz149⟩ := q149
    subst eh149
    subst ez149
    exact pw_ireturn d171_152 tt171 ⟨rfl, z149, rfl, (by omega), (by omega)⟩
  exfalso; omega

abbrev Q174 (τ : Nat → Option Nat) (ρ : Nat → Nat → Nat) (h : pv_H) (a0 : Nat) (x1 : Int) : Option Value → pv_H → Prop := fun r h' => pv_Ty τ ρ h' ∧ pv_Fr τ [128, 129, 130, 131, 132, 142, 143, 767, 1343, 1407, 1471, 1535, 1599, 1663, 1727, 1791, 1855] h h' ∧ ∃ z : Int, r = some (.int (pv_I z)) ∧ (-2) ≤ z ∧ z ≤ 0
set_option maxHeartbeats 4000000 in
set_option maxRecDepth 20000 in
/-- AngleNet.keep(I)I -/
theorem ct174 {τ : Nat → Option Nat} {ρ : Nat → Nat → Nat} {K : Nat → Nat} {h : pv_H} {a0 : Nat} {x1 : Int} (hT : pv_Ty τ ρ h) (hA0 : τ a0 = some 0) (hX1 : (-2147483648) ≤ x1 ∧ x1 ≤ 2147483647) : pv_C K 174 [.ref a0, .int (pv_I x1)] h (Q174 τ ρ h a0 x1) := by
  refine pw_entry 0 ?_
  show pv_T K 174 0 (pv_fl [some (.ref a0), some (.int (pv_I x1))]) [] h (Q174 τ ρ h a0 x1)
  have hF0 : pv_Fr τ [128, 129, 130, 131, 132, 142, 143, 767, 1343, 1407, 1471, 1535, 1599, 1663, 1727, 1791, 1855] h h := pv_Fr.rf
  refine pw_iload_n d174_0 rfl ?_
  refine pw_if_lt d174_1 rfl (by omega) (fun c1 => ?_) (fun c1 => ?_)
  · refine pw_bipush d174_9 (by decide) ?_
    exact pw_ireturn d174_11 tt174 ⟨hT, hF0, (-2), rfl, (by omega), (by omega)⟩
  · refine pw_iload_n d174_4 rfl ?_
    refine pw_iconst d174_5 ?_
    refine pw_icmp_lt d174_6 rfl (by omega) (by omega) (fun c6 => ?_) (fun c6 => ?_)
    · refine pw_aload_n d174_12 rfl ?_
      refine pw_getR d174_13 g174_26 hT hA0 rfl rfl (fun t13 => ?_)
      have t13 : τ (ρ a0 3) = some 10 := t13
      refine pw_iload_n d174_16 rfl ?_
      refine pw_aald d174_17 hT t13 rfl (by decide) rfl (by omega) (by omega) (fun u17 => ?_)
      have u17 : τ (ρ (ρ a0 3) (x1).toNat) = some 2 := u17
      refine pw_aload_n d174_18 rfl ?_
      refine pw_getR d174_19 g174_19 hT hA0 rfl rfl (fun t19 => ?_)
      have t19 : τ (ρ a0 1) = some 2 := t19
      refine pw_callV1 d174_22 k174_77 hT u17 rfl rfl rfl (ct52 (τ := τ) (ρ := ρ) hT u17 t19) (fun r22 h22 q22 => ?_)
      obtain ⟨T22, F22, ez22⟩ := q22
      subst ez22
      have f22 := hF0.tr (F22.up (by decide))
      refine pw_aload_n d174_25 rfl ?_
      refine pw_getR d174_26 g174_30 T22 hA0 rfl rfl (fun t26 => ?_)
      have t26 : τ (ρ a0 4) = some 11 := t26
      refine pw_iload_n d174_29 rfl ?_
      refine pw_iconst d174_30 ?_
      refine pw_bastZ d174_31 T22 t26 rfl rfl rfl (by omega) (by omega) (by omega) (fun h31 T31 F31 E31 => ?_)
      have f31 := f22.tr (F31.up (by decide))
      refine pw_iconst d174_32 ?_
      exact pw_ireturn d174_33 tt174 ⟨T31, f31, 0, rfl, (by omega), (by omega)⟩
    · refine pw_bipush d174_9 (by decide) ?_
      exact pw_ireturn d174_11 tt174 ⟨hT, hF0, (-2), rfl, (by omega), (by omega)⟩

abbrev Q175 (τ : Nat → Option Nat) (ρ : Nat → Nat → Nat) (h : pv_H) (a0 : Nat) (x1 : Int) : Option Value → pv_H → Prop := fun r h' => pv_Ty τ ρ h' ∧ pv_Fr τ [128, 129, 130, 131, 132, 142, 143, 1343, 1407, 1471, 1535, 1599, 1663, 1727, 1791, 1855] h h' ∧ ∃ z : Int, r = some (.int (pv_I z)) ∧ (-6) ≤ z ∧ z ≤ 0
set_option maxHeartbeats 4000000 in
set_option maxRecDepth 20000 in
/-- AngleNet.back(I)I -/
theorem ct175 {τ : Nat → Option Nat} {ρ : Nat → Nat → Nat} {K : Nat → Nat} {h : pv_H} {a0 : Nat} {x1 : Int} (hT : pv_Ty τ ρ h) (hA0 : τ a0 = some 0) (hX1 : (-2147483648) ≤ x1 ∧ x1 ≤ 2147483647) : pv_C K 175 [.ref a0, .int (pv_I x1)] h (Q175 τ ρ h a0 x1) := by
  refine pw_entry 0 ?_
  show pv_T K 175 0 (pv_fl [some (.ref a0), some (.int (pv_I x1))]) [] h (Q175 τ ρ h a0 x1)
  have hF0 : pv_Fr τ [128, 129, 130, 131, 132, 142, 143, 1343, 1407, 1471, 1535, 1599, 1663, 1727, 1791, 1855] h h := pv_Fr.rf
  refine pw_iload_n d175_0 rfl ?_
  refine pw_if_lt d175_1 rfl (by omega) (fun c1 => ?_) (fun c1 => ?_)
  · refine pw_bipush d175_9 (by decide) ?_
    exact pw_ireturn d175_11 tt175 ⟨hT, hF0, (-2), rfl, (by omega), (by omega)⟩
  · refine pw_iload_n d175_4 rfl ?_
    refine pw_iconst d175_5 ?_
    refine pw_icmp_lt d175_6 rfl (by omega) (by omega) (fun c6 => ?_) (fun c6 => ?_)
    · refine pw_aload_n d175_12 rfl ?_
      refine pw_getR d175_13 g175_30 hT hA0 rfl rfl (fun t13 => ?_)
      have t13 : τ (ρ a0 4) = some 11 := t13
      refine pw_iload_n d175_16 rfl ?_
      refine pw_bald d175_17 hT t13 rfl (by decide) rfl (by omega) (by omega) (fun u17 vu17 => ?_)
      refine pw_if_ne d175_18 rfl (by omega) (fun c18 => ?_) (fun c18 => ?_)
      · refine pw_aload_n d175_24 rfl ?_
        refine pw_getR d175_25 g175_19 hT hA0 rfl rfl (fun t25 => ?_)
        have t25 : τ (ρ a0 1) = some 2 := t25
        refine pw_aload_n d175_28 rfl ?_
        refine pw_getR d175_29 g175_26 hT hA0 rfl rfl (fun t29 => ?_)
        have t29 : τ (ρ a0 3) = some 10 := t29
        refine pw_iload_n d175_32 rfl ?_
        refine pw_aald d175_33 hT t29 rfl (by decide) rfl (by omega) (by omega) (fun u33 => ?_)
        have u33 : τ (ρ (ρ a0 3) (x1).toNat) = some 2 := u33
        refine pw_callV1 d175_34 k175_77 hT t25 rfl rfl rfl (ct52 (τ := τ) (ρ := ρ) hT t25 u33) (fun r34 h34 q34 => ?_)
        obtain ⟨T34, F34, ez34⟩ := q34
        subst ez34
        have f34 := hF0.tr (F34.up (by decide))
        refine pw_iconst d175_37 ?_
        exact pw_ireturn d175_38 tt175 ⟨T34, f34, 0, rfl, (by omega), (by omega)⟩
      · refine pw_bipush d175_21 (by decide) ?_
        exact pw_ireturn d175_23 tt175 ⟨hT, hF0, (-6), rfl, (by omega), (by omega)⟩
    · refine pw_bipush d175_9 (by decide) ?_
      exact pw_ireturn d175_11 tt175 ⟨hT, hF0, (-2), rfl, (by omega), (by omega)⟩

abbrev Q176 (τ : Nat → Option Nat) (ρ : Nat → Nat → Nat) (h : pv_H) (a0 : Nat) (x1 : Int) (x2 : Int) (x3 : Int) : Option Value → pv_H → Prop := fun r h' => pv_Ty τ ρ h' ∧ pv_Fr τ [192, 193, 194, 2047] h h' ∧ ∃ z : Int, r = some (.int (pv_I z)) ∧ (-3) ≤ z ∧ z ≤ 0 ∧ (z = if 0 ≤ x1 ∧ x1 ≤ 3 ∧ 0 ≤ x2 ∧ x2 ≤ 3 ∧ x3 ≤ 60 then (if x3 < 0 then -3 else 0) else -2)
set_option maxHeartbeats 4000000 in
set_option maxRecDepth 20000 in
/-- AngleNet.row(III)I -/
theorem ct176 {τ : Nat → Option Nat} {ρ : Nat → Nat → Nat} {K : Nat → Nat} {h : pv_H} {a0 : Nat} {x1 : Int} {x2 : Int} {x3 : Int} (hT : pv_Ty τ ρ h) (hA0 : τ a0 = some 0) (hX1 : (-2147483648) ≤ x1 ∧ x1 ≤ 2147483647) (hX2 : (-2147483648) ≤ x2 ∧ x2 ≤ 2147483647) (hX3 : (-2147483648) ≤ x3 ∧ x3 ≤ 2147483647) : pv_C K 176 [.ref a0, .int (pv_I x1), .int (pv_I x2), .int (pv_I x3)] h (Q176 τ ρ h a0 x1 x2 x3) := by
  refine pw_entry 0 ?_
  show pv_T K 176 0 (pv_fl [some (.ref a0), some (.int (pv_I x1)), some (.int (pv_I x2)), some (.int (pv_I x3))]) [] h (Q176 τ ρ h a0 x1 x2 x3)
  have hF0 : pv_Fr τ [192, 193, 194, 2047] h h := pv_Fr.rf
  refine pw_iload_n d176_0 rfl ?_
  refine pw_callS1 d176_1 k176_306 rfl rfl (ct165 (τ := τ) (ρ := ρ) (by omega)) (fun r1 h1 q1 => ?_)
  obtain ⟨eh1, z1, ez1, lz1, uz1, pz1_0⟩ := q1
  subst eh1
  subst ez1
  refine pw_if_eq d176_4 rfl (by omega) (fun c4 => ?_) (fun c4 => ?_)
  · refine pw_bipush d176_22 (by decide) ?_
    exact pw_ireturn d176_24 tt176 ⟨hT, hF0, (-2), rfl, (by omega), (by omega), (by omega)⟩
  · refine pw_iload_n d176_7 rfl ?_
    refine pw_if_lt d176_8 rfl (by omega) (fun c8 => ?_) (fun c8 => ?_)
    · refine pw_bipush d176_22 (by decide) ?_
      exact pw_ireturn d176_24 tt176 ⟨hT, hF0, (-2), rfl, (by omega), (by omega), (by omega)⟩
    · refine pw_iload_n d176_11 rfl ?_
      refine pw_iconst d176_12 ?_
      refine pw_icmp_ge d176_13 rfl (by omega) (by omega) (fun c13 => ?_) (fun c13 => ?_)
      · refine pw_bipush d176_22 (by decide) ?_
        exact pw_ireturn d176_24 tt176 ⟨hT, hF0, (-2), rfl, (by omega), (by omega), (by omega)⟩
      · refine pw_iload_n d176_16 rfl ?_
        refine pw_bipush d176_17 (by decide) ?_
        refine pw_icmp_le d176_19 rfl (by omega) (by omega) (fun c19 => ?_) (fun c19 => ?_)
        · refine pw_iload_n d176_25 rfl ?_
          refine pw_if_ge d176_26 rfl (by omega) (fun c26 => ?_) (fun c26 => ?_)
          · refine pw_aload_n d176_32 rfl ?_
            refine pw_getR d176_33 g176_36 hT hA0 rfl rfl (fun t33 => ?_)
            have t33 : τ (ρ a0 5) = some 12 := t33
            refine pw_iload_n d176_36 rfl ?_
            refine pw_aald d176_37 hT t33 rfl (by decide) rfl (by omega) (by omega) (fun u37 => ?_)
            have u37 : τ (ρ (ρ a0 5) (x1).toNat) = some 3 := u37
            refine pw_iload_n d176_38 rfl ?_
            refine pw_iload_n d176_39 rfl ?_
            refine pw_callV2 d176_40 k176_347 hT u37 rfl rfl rfl (ct177 (τ := τ) (ρ := ρ) hT u37 (by omega) (by omega)) (fun r40 h40 q40 => ?_)
            obtain ⟨T40, F40, ez40⟩ := q40
            subst ez40
            have f40 := hF0.tr (F40.up (by decide))
            refine pw_iconst d176_43 ?_
            exact pw_ireturn d176_44 tt176 ⟨T40, f40, 0, rfl, (by omega), (by omega), (by omega)⟩
          · refine pw_bipush d176_29 (by decide) ?_
            exact pw_ireturn d176_31 tt176 ⟨hT, hF0, (-3), rfl, (by omega), (by omega), (by omega)⟩
        · refine pw_bipush d176_22 (by decide) ?_
          exact pw_ireturn d176_24 tt176 ⟨hT, hF0, (-2), rfl, (by omega), (by omega), (by omega)⟩

abbrev Q178 (τ : Nat → Option Nat) (ρ : Nat → Nat → Nat) (h : pv_H) (a0 : Nat) (x1 : Int) (x2 : Int) (x3 : Int) : Option Value → pv_H → Prop := fun r h' => pv_Ty τ ρ h' ∧ pv_Fr τ [2047] h h' ∧ ∃ z : Int, r = some (.int (pv_I z)) ∧ (-7) ≤ z ∧ z ≤ 0
set_option maxHeartbeats 4000000 in
set_option maxRecDepth 20000 in
/-- AngleNet.write(IIJ)I -/
theorem ct178 {τ : Nat → Option Nat} {ρ : Nat → Nat → Nat} {K : Nat → Nat} {h : pv_H} {a0 : Nat} {x1 : Int} {x2 : Int} {x3 : Int} (hT : pv_Ty τ ρ h) (hA0 : τ a0 = some 0) (hX1 : (-2147483648) ≤ x1 ∧ x1 ≤ 2147483647) (hX2 : (-2147483648) ≤ x2 ∧ x2 ≤ 2147483647) (hX3 : (-9223372036854775808) ≤ x3 ∧ x3 ≤ 9223372036854775807) : pv_C K 178 [.ref a0, .int (pv_I x1), .int (pv_I x2), .long (pv_J x3)] h (Q178 τ ρ h a0 x1 x2 x3) := by
  refine pw_entry 1 ?_
  show pv_T K 178 0 (pv_fl [some (.ref a0), some (.int (pv_I x1)), some (.int (pv_I x2)), some (.long (pv_J x3)), none, none]) [] h (Q178 τ ρ h a0 x1 x2 x3)
  have hF0 : pv_Fr τ [2047] h h := pv_Fr.rf
  refine pw_iload_n d178_0 rfl ?_
  refine pw_callS1 d178_1 k178_306 rfl rfl (ct165 (τ := τ) (ρ := ρ) (by omega)) (fun r1 h1 q1 => ?_)
  obtain ⟨eh1, z1, ez1, lz1, uz1, pz1_0⟩ := q1
  subst eh1
  subst ez1
  refine pw_if_ne d178_4 rfl (by omega) (fun c4 => ?_) (fun c4 => ?_)
  · refine pw_aload_n d178_10 rfl ?_
    refine pw_getR d178_11 g178_36 hT hA0 rfl rfl (fun t11 => ?_)
    have t11 : τ (ρ a0 5) = some 12 := t11
    refine pw_iload_n d178_14 rfl ?_
    refine pw_aald d178_15 hT t11 rfl (by decide) rfl (by omega) (by omega) (fun u15 => ?_)
    have u15 : τ (ρ (ρ a0 5) (x1).toNat) = some 3 := u15
    refine pw_astore d178_16 m178 rfl rfl ?_
    refine pw_aload d178_18 rfl ?_
    refine pw_getI d178_20 g178_309 hT u15 rfl rfl (fun u20 vu20 => ?_)
    refine pw_if_ne d178_23 rfl (by omega) (fun c23 => ?_) (fun c23 => ?_)
    · refine pw_iload_n d178_29 rfl ?_
      refine pw_if_lt d178_30 rfl (by omega) (fun c30 => ?_) (fun c30 => ?_)
      · refine pw_bipush d178_42 (by decide) ?_
        exact pw_ireturn d178_44 tt178 ⟨hT, hF0, (-7), rfl, (by omega), (by omega)⟩
      · refine pw_iload_n d178_33 rfl ?_
        refine pw_aload d178_34 rfl ?_
        refine pw_getI d178_36 g178_316 hT u15 rfl rfl (fun u36 vu36 => ?_)
        refine pw_icmp_lt d178_39 rfl (by omega) (by omega) (fun c39 => ?_) (fun c39 => ?_)
        · refine pw_aload d178_45 rfl ?_
          refine pw_iload_n d178_47 rfl ?_
          refine pw_lload_n d178_48 rfl ?_
          refine pw_callV2 d178_49 k178_351 hT u15 rfl rfl rfl (ct179 (τ := τ) (ρ := ρ) hT u15 (by omega) (by omega)) (fun r49 h49 q49 => ?_)
          obtain ⟨T49, F49, ez49⟩ := q49
          subst ez49
          have f49 := hF0.tr (F49.up (by decide))
          have q49b := ((F49 (ρ (ρ a0 5) (x1).toNat) 3 u15).1 0 (by decide)).1
          have q49c := ((F49 (ρ (ρ a0 5) (x1).toNat) 3 u15).1 2 (by decide)).1
          refine pw_iconst d178_52 ?_
          exact pw_ireturn d178_53 tt178 ⟨T49, f49, 0, rfl, (by omega), (by omega)⟩
        · refine pw_bipush d178_42 (by decide) ?_
          exact pw_ireturn d178_44 tt178 ⟨hT, hF0, (-7), rfl, (by omega), (by omega)⟩
    · refine pw_bipush d178_26 (by decide) ?_
      exact pw_ireturn d178_28 tt178 ⟨hT, hF0, (-6), rfl, (by omega), (by omega)⟩
  · refine pw_bipush d178_7 (by decide) ?_
    exact pw_ireturn d178_9 tt178 ⟨hT, hF0, (-2), rfl, (by omega), (by omega)⟩

abbrev Q180 (τ : Nat → Option Nat) (ρ : Nat → Nat → Nat) (h : pv_H) (a0 : Nat) (x1 : Int) (x2 : Int) (x3 : Int) (x4 : Int) (x5 : Int) : Option Value → pv_H → Prop := fun r h' => pv_Ty τ ρ h' ∧ pv_Fr τ [2047] h h' ∧ ∃ z : Int, r = some (.int (pv_I z)) ∧ (-8) ≤ z ∧ z ≤ 0
set_option maxHeartbeats 4000000 in
set_option maxRecDepth 20000 in
/-- AngleNet.paste(IIIII)I -/
theorem ct180 {τ : Nat → Option Nat} {ρ : Nat → Nat → Nat} {K : Nat → Nat} {h : pv_H} {a0 : Nat} {x1 : Int} {x2 : Int} {x3 : Int} {x4 : Int} {x5 : Int} (hT : pv_Ty τ ρ h) (hA0 : τ a0 = some 0) (hX1 : (-2147483648) ≤ x1 ∧ x1 ≤ 2147483647) (hX2 : (-2147483648) ≤ x2 ∧ x2 ≤ 2147483647) (hX3 : (-2147483648) ≤ x3 ∧ x3 ≤ 2147483647) (hX4 : (-2147483648) ≤ x4 ∧ x4 ≤ 2147483647) (hX5 : (-2147483648) ≤ x5 ∧ x5 ≤ 2147483647) : pv_C K 180 [.ref a0, .int (pv_I x1), .int (pv_I x2), .int (pv_I x3), .int (pv_I x4), .int (pv_I x5)] h (Q180 τ ρ h a0 x1 x2 x3 x4 x5) := by
  refine pw_entry 2 ?_
  show pv_T K 180 0 (pv_fl [some (.ref a0), some (.int (pv_I x1)), some (.int (pv_I x2)), some (.int (pv_I x3)), some (.int (pv_I x4)), some (.int (pv_I x5)), none, none]) [] h (Q180 τ ρ h a0 x1 x2 x3 x4 x5)
  have hF0 : pv_Fr τ [2047] h h := pv_Fr.rf
  refine pw_iload_n d180_0 rfl ?_
  refine pw_callS1 d180_1 k180_306 rfl rfl (ct165 (τ := τ) (ρ := ρ) (by omega)) (fun r1 h1 q1 => ?_)
  obtain ⟨eh1, z1, ez1, lz1, uz1, pz1_0⟩ := q1
  subst eh1
  subst ez1
  refine pw_if_eq d180_4 rfl (by omega) (fun c4 => ?_) (fun c4 => ?_)
  · refine pw_bipush d180_14 (by decide) ?_
    exact pw_ireturn d180_16 tt180 ⟨hT, hF0, (-2), rfl, (by omega), (by omega)⟩
  · refine pw_iload_n d180_7 rfl ?_
    refine pw_callS1 d180_8 k180_306 rfl rfl (ct165 (τ := τ) (ρ := ρ) (by omega)) (fun r8 h8 q8 => ?_)
    obtain ⟨eh8, z8, ez8, lz8, uz8, pz8_0⟩ := q8
    subst eh8
    subst ez8
    refine pw_if_ne d180_11 rfl (by omega) (fun c11 => ?_) (fun c11 => ?_)
    · refine pw_aload_n d180_17 rfl ?_
      refine pw_getR d180_18 g180_36 hT hA0 rfl rfl (fun t18 => ?_)
      have t18 : τ (ρ a0 5) = some 12 := t18
      refine pw_iload_n d180_21 rfl ?_
      refine pw_aald d180_22 hT t18 rfl (by decide) rfl (by omega) (by omega) (fun u22 => ?_)
      have u22 : τ (ρ (ρ a0 5) (x1).toNat) = some 3 := u22
      refine pw_astore d180_23 m180 rfl rfl ?_
      refine pw_aload_n d180_25 rfl ?_
      refine pw_getR d180_26 g180_36 hT hA0 rfl rfl (fun t26 => ?_)
      have t26 : τ (ρ a0 5) = some 12 := t26
      refine pw_iload_n d180_29 rfl ?_
      refine pw_aald d180_30 hT t26 rfl (by decide) rfl (by omega) (by omega) (fun u30 => ?_)
      have u30 : τ (ρ (ρ a0 5) (x3).toNat) = some 3 := u30
      refine pw_astore d180_31 m180 rfl rfl ?_
      refine pw_aload d180_33 rfl ?_
      refine pw_getI d180_35 g180_309 hT u22 rfl rfl (fun u35 vu35 => ?_)
      refine pw_if_eq d180_38 rfl (by omega) (fun c38 => ?_) (fun c38 => ?_)
      · refine pw_bipush d180_49 (by decide) ?_
        exact pw_ireturn d180_51 tt180 ⟨hT, hF0, (-6), rfl, (by omega), (by omega)⟩
      · refine pw_aload d180_41 rfl ?_
        refine pw_getI d180_43 g180_309 hT u30 rfl rfl (fun u43 vu43 => ?_)
        refine pw_if_ne d180_46 rfl (by omega) (fun c46 => ?_) (fun c46 => ?_)
        · refine pw_aload d180_52 rfl ?_
          refine pw_getI d180_54 g180_355 hT u22 rfl rfl (fun u54 vu54 => ?_)
          refine pw_aload d180_57 rfl ?_
          refine pw_getI d180_59 g180_355 hT u30 rfl rfl (fun u59 vu59 => ?_)
          refine pw_icmp_eq d180_62 rfl (by omega) (by omega) (fun c62 => ?_) (fun c62 => ?_)
          · refine pw_aload d180_68 rfl ?_
            refine pw_iload_n d180_70 rfl ?_
            refine pw_iload d180_71 rfl ?_
            refine pw_callV2 d180_73 k180_358 hT u22 rfl rfl rfl (ct181 (τ := τ) (ρ := ρ) hT u22 (by omega) (by omega)) (fun r73 h73 q73 => ?_)
            obtain ⟨eh73, z73, ez73, lz73, uz73, pz73_0⟩ := q73
            subst eh73
            subst ez73
            refine pw_if_eq d180_76 rfl (by omega) (fun c76 => ?_) (fun c76 => ?_)
            · refine pw_bipush d180_91 (by decide) ?_
              exact pw_ireturn d180_93 tt180 ⟨hT, hF0, (-7), rfl, (by omega), (by omega)⟩
            · refine pw_aload d180_79 rfl ?_
              refine pw_iload d180_81 rfl ?_
              refine pw_iload d180_83 rfl ?_
              refine pw_callV2 d180_85 k180_358 hT u30 rfl rfl rfl (ct181 (τ := τ) (ρ := ρ) hT u30 (by omega) (by omega)) (fun r85 h85 q85 => ?_)
              obtain ⟨eh85, z85, ez85, lz85, uz85, pz85_0⟩ := q85
              subst eh85
              subst ez85
              refine pw_if_ne d180_88 rfl (by omega) (fun c88 => ?_) (fun c88 => ?_)
              · refine pw_aload d180_94 rfl ?_
                refine pw_getR d180_96 g180_317 hT u22 rfl rfl (fun t96 => ?_)
                have t96 : τ (ρ (ρ (ρ a0 5) (x1).toNat) 3) = some 31 := t96
                refine pw_iload_n d180_99 rfl ?_
                refine pw_aload d180_100 rfl ?_
                refine pw_getR d180_102 g180_317 hT u30 rfl rfl (fun t102 => ?_)
                have t102 : τ (ρ (ρ (ρ a0 5) (x3).toNat) 3) = some 31 := t102
                refine pw_iload d180_105 rfl ?_
                refine pw_iload d180_107 rfl ?_
                refine pw_copyL d180_109 k180_361 hT t96 t102 rfl rfl rfl rfl rfl rfl (by omega) (by omega) (by omega) (by omega) (by omega) (fun h109 T109 F109 => ?_)
                have f109 := hF0.tr (F109.up (by decide))
                have q109 := ((F109 (ρ (ρ a0 5) (x1).toNat) 3 u22).1 0 (by decide)).1
                have q109b := ((F109 (ρ (ρ a0 5) (x1).toNat) 3 u22).1 1 (by decide)).1
                have q109c := ((F109 (ρ (ρ a0 5) (x3).toNat) 3 u30).1 0 (by decide)).1
                have q109d := ((F109 (ρ (ρ a0 5) (x3).toNat) 3 u30).1 1 (by decide)).1
                refine pw_iconst d180_112 ?_
                exact pw_ireturn d180_113 tt180 ⟨T109, f109, 0, rfl, (by omega), (by omega)⟩
              · refine pw_bipush d180_91 (by decide) ?_
                exact pw_ireturn d180_93 tt180 ⟨hT, hF0, (-7), rfl, (by omega), (by omega)⟩
          · refine pw_bipush d180_65 (by decide) ?_
            exact pw_ireturn d180_67 tt180 ⟨hT, hF0, (-8), rfl, (by omega), (by omega)⟩
        · refine pw_bipush d180_49 (by decide) ?_
          exact pw_ireturn d180_51 tt180 ⟨hT, hF0, (-6), rfl, (by omega), (by omega)⟩
    · refine pw_bipush d180_14 (by decide) ?_
      exact pw_ireturn d180_16 tt180 ⟨hT, hF0, (-2), rfl, (by omega), (by omega)⟩
