abbrev Q48 (τ : Nat → Option Nat) (ρ : Nat → Nat → Nat) (h : pv_H) (a0 : Nat) (x1 : Int) : Option Value → pv_H → Prop := fun r h' => h = h' ∧ ∃ z : Int, r = some (.int (pv_I z)) ∧ 0 ≤ z ∧ z ≤ 1 ∧ ((z = 1 ∧ 0 ≤ x1 ∧ x1 ≤ 9 ∧ x1 < pv_fI h a0 0) ∨ (z = 0 ∧ (x1 < 0 ∨ pv_fI h a0 0 ≤ x1)))
set_option maxHeartbeats 4000000 in
set_option maxRecDepth 20000 in
/-- AngleNet$Net.isPost(I)Z -/
theorem ct48 {τ : Nat → Option Nat} {ρ : Nat → Nat → Nat} {K : Nat → Nat} {h : pv_H} {a0 : Nat} {x1 : Int} (hT : pv_Ty τ ρ h) (hA0 : τ a0 = some 2) (hX1 : (-2147483648) ≤ x1 ∧ x1 ≤ 2147483647) : pv_C K 48 [.ref a0, .int (pv_I x1)] h (Q48 τ ρ h a0 x1) := by
  refine pw_entry 0 ?_
  show pv_T K 48 0 (pv_fl [some (.ref a0), some (.int (pv_I x1))]) [] h (Q48 τ ρ h a0 x1)
  refine pw_iload_n d48_0 rfl ?_
  refine pw_if_lt d48_1 rfl (by omega) (fun c1 => ?_) (fun c1 => ?_)
  · refine pw_iconst d48_16 ?_
    exact pw_zreturn d48_17 tt48 (by omega) ⟨rfl, 0, rfl, (by omega), (by omega), (by omega)⟩
  · refine pw_iload_n d48_4 rfl ?_
    refine pw_aload_n d48_5 rfl ?_
    refine pw_getI d48_6 g48_41 hT hA0 rfl rfl (fun u6 vu6 => ?_)
    refine pw_icmp_ge d48_9 rfl (by omega) (by omega) (fun c9 => ?_) (fun c9 => ?_)
    · refine pw_iconst d48_16 ?_
      exact pw_zreturn d48_17 tt48 (by omega) ⟨rfl, 0, rfl, (by omega), (by omega), (by omega)⟩
    · refine pw_iconst d48_12 ?_
      refine pw_goto d48_13 rfl ?_
      exact pw_zreturn d48_17 tt48 (by omega) ⟨rfl, 1, rfl, (by omega), (by omega), (by omega)⟩

abbrev Q55 (τ : Nat → Option Nat) (ρ : Nat → Nat → Nat) (h : pv_H) (a0 : Nat) (x1 : Int) : Option Value → pv_H → Prop := fun r h' => h = h' ∧ ∃ z : Int, r = some (.int (pv_I z)) ∧ 0 ≤ z ∧ z ≤ 1 ∧ ((z = 1 ∧ 0 ≤ x1 ∧ x1 ≤ 17 ∧ x1 < pv_fI h a0 1) ∨ (z = 0 ∧ (x1 < 0 ∨ pv_fI h a0 1 ≤ x1)))
set_option maxHeartbeats 4000000 in
set_option maxRecDepth 20000 in
/-- AngleNet$Net.isThird(I)Z -/
theorem ct55 {τ : Nat → Option Nat} {ρ : Nat → Nat → Nat} {K : Nat → Nat} {h : pv_H} {a0 : Nat} {x1 : Int} (hT : pv_Ty τ ρ h) (hA0 : τ a0 = some 2) (hX1 : (-2147483648) ≤ x1 ∧ x1 ≤ 2147483647) : pv_C K 55 [.ref a0, .int (pv_I x1)] h (Q55 τ ρ h a0 x1) := by
  refine pw_entry 0 ?_
  show pv_T K 55 0 (pv_fl [some (.ref a0), some (.int (pv_I x1))]) [] h (Q55 τ ρ h a0 x1)
  refine pw_iload_n d55_0 rfl ?_
  refine pw_if_lt d55_1 rfl (by omega) (fun c1 => ?_) (fun c1 => ?_)
  · refine pw_iconst d55_16 ?_
    exact pw_zreturn d55_17 tt55 (by omega) ⟨rfl, 0, rfl, (by omega), (by omega), (by omega)⟩
  · refine pw_iload_n d55_4 rfl ?_
    refine pw_aload_n d55_5 rfl ?_
    refine pw_getI d55_6 g55_45 hT hA0 rfl rfl (fun u6 vu6 => ?_)
    refine pw_icmp_ge d55_9 rfl (by omega) (by omega) (fun c9 => ?_) (fun c9 => ?_)
    · refine pw_iconst d55_16 ?_
      exact pw_zreturn d55_17 tt55 (by omega) ⟨rfl, 0, rfl, (by omega), (by omega), (by omega)⟩
    · refine pw_iconst d55_12 ?_
      refine pw_goto d55_13 rfl ?_
      exact pw_zreturn d55_17 tt55 (by omega) ⟨rfl, 1, rfl, (by omega), (by omega), (by omega)⟩

abbrev Q64 (τ : Nat → Option Nat) (ρ : Nat → Nat → Nat) (h : pv_H) (a0 : Nat) : Option Value → pv_H → Prop := fun r h' => h = h' ∧ ∃ z : Int, r = some (.int (pv_I z)) ∧ 0 ≤ z ∧ z ≤ 1
set_option maxHeartbeats 4000000 in
set_option maxRecDepth 20000 in
/-- AngleNet$Net.isThere()Z -/
theorem ct64 {τ : Nat → Option Nat} {ρ : Nat → Nat → Nat} {K : Nat → Nat} {h : pv_H} {a0 : Nat} (hT : pv_Ty τ ρ h) (hA0 : τ a0 = some 2) : pv_C K 64 [.ref a0] h (Q64 τ ρ h a0) := by
  refine pw_entry 0 ?_
  show pv_T K 64 0 (pv_fl [some (.ref a0)]) [] h (Q64 τ ρ h a0)
  refine pw_aload_n d64_0 rfl ?_
  refine pw_getI d64_1 g64_41 hT hA0 rfl rfl (fun u1 vu1 => ?_)
  refine pw_if_le d64_4 rfl (by omega) (fun c4 => ?_) (fun c4 => ?_)
  · refine pw_iconst d64_11 ?_
    exact pw_zreturn d64_12 tt64 (by omega) ⟨rfl, 0, rfl, (by omega), (by omega)⟩
  · refine pw_iconst d64_7 ?_
    refine pw_goto d64_8 rfl ?_
    exact pw_zreturn d64_12 tt64 (by omega) ⟨rfl, 1, rfl, (by omega), (by omega)⟩

abbrev Q47 (τ : Nat → Option Nat) (ρ : Nat → Nat → Nat) (h : pv_H) (a0 : Nat) (x1 : Int) (x2 : Int) : Option Value → pv_H → Prop := fun r h' => h = h' ∧ ∃ z : Int, r = some (.int (pv_I z)) ∧ 0 ≤ z ∧ z ≤ 1 ∧ (z = 1 → 0 ≤ x1 ∧ x1 ≤ 9 ∧ 0 ≤ x2 ∧ x2 ≤ 9)
set_option maxHeartbeats 4000000 in
set_option maxRecDepth 20000 in
/-- AngleNet$Net.isSide(II)Z -/
theorem ct47 {τ : Nat → Option Nat} {ρ : Nat → Nat → Nat} {K : Nat → Nat} {h : pv_H} {a0 : Nat} {x1 : Int} {x2 : Int} (hT : pv_Ty τ ρ h) (hA0 : τ a0 = some 2) (hX1 : (-2147483648) ≤ x1 ∧ x1 ≤ 2147483647) (hX2 : (-2147483648) ≤ x2 ∧ x2 ≤ 2147483647) : pv_C K 47 [.ref a0, .int (pv_I x1), .int (pv_I x2)] h (Q47 τ ρ h a0 x1 x2) := by
  refine pw_entry 0 ?_
  show pv_T K 47 0 (pv_fl [some (.ref a0), some (.int (pv_I x1)), some (.int (pv_I x2))]) [] h (Q47 τ ρ h a0 x1 x2)
  refine pw_aload_n d47_0 rfl ?_
  refine pw_iload_n d47_1 rfl ?_
  refine pw_callV1 d47_2 k47_78 hT hA0 rfl rfl rfl (ct48 (τ := τ) (ρ := ρ) hT hA0 (by omega)) (fun r2 h2 q2 => ?_)
  obtain ⟨eh2, z2, ez2, lz2, uz2, pz2_0⟩ := q2
  subst eh2
  subst ez2
  refine pw_if_eq d47_5 rfl (by omega) (fun c5 => ?_) (fun c5 => ?_)
  · refine pw_iconst d47_39 ?_
    exact pw_zreturn d47_40 tt47 (by omega) ⟨rfl, 0, rfl, (by omega), (by omega), (by omega)⟩
  · refine pw_aload_n d47_8 rfl ?_
    refine pw_iload_n d47_9 rfl ?_
    refine pw_callV1 d47_10 k47_78 hT hA0 rfl rfl rfl (ct48 (τ := τ) (ρ := ρ) hT hA0 (by omega)) (fun r10 h10 q10 => ?_)
    obtain ⟨eh10, z10, ez10, lz10, uz10, pz10_0⟩ := q10
    subst eh10
    subst ez10
    refine pw_if_eq d47_13 rfl (by omega) (fun c13 => ?_) (fun c13 => ?_)
    · refine pw_iconst d47_39 ?_
      exact pw_zreturn d47_40 tt47 (by omega) ⟨rfl, 0, rfl, (by omega), (by omega), (by omega)⟩
    · refine pw_iload_n d47_16 rfl ?_
      refine pw_iload_n d47_17 rfl ?_
      refine pw_icmp_eq d47_18 rfl (by omega) (by omega) (fun c18 => ?_) (fun c18 => ?_)
      · refine pw_iconst d47_39 ?_
        exact pw_zreturn d47_40 tt47 (by omega) ⟨rfl, 0, rfl, (by omega), (by omega), (by omega)⟩
      · refine pw_aload_n d47_21 rfl ?_
        refine pw_getR d47_22 g47_33 hT hA0 rfl rfl (fun t22 => ?_)
        have t22 : τ (ρ a0 12) = some 27 := t22
        refine pw_bipush d47_25 (by decide) ?_
        refine pw_iload_n d47_27 rfl ?_
        refine pw_imul d47_28 ?_
        refine pw_iload_n d47_29 rfl ?_
        refine pw_iadd d47_30 ?_
        refine pw_iald d47_31 hT t22 rfl rfl (by omega) (by omega) (fun u31 vu31 => ?_)
        refine pw_if_le d47_32 rfl (by omega) (fun c32 => ?_) (fun c32 => ?_)
        · refine pw_iconst d47_39 ?_
          exact pw_zreturn d47_40 tt47 (by omega) ⟨rfl, 0, rfl, (by omega), (by omega), (by omega)⟩
        · refine pw_iconst d47_35 ?_
          refine pw_goto d47_36 rfl ?_
          exact pw_zreturn d47_40 tt47 (by omega) ⟨rfl, 1, rfl, (by omega), (by omega), (by omega)⟩

abbrev Q80 (τ : Nat → Option Nat) (ρ : Nat → Nat → Nat) (h : pv_H) (a0 : Nat) (x1 : Int) (x2 : Int) : Option Value → pv_H → Prop := fun r h' => h = h' ∧ ∃ z : Int, r = some (.int (pv_I z)) ∧ 0 ≤ z ∧ z ≤ 1
set_option maxHeartbeats 4000000 in
set_option maxRecDepth 20000 in
/-- AngleNet$Net.isRim(II)Z -/
theorem ct80 {τ : Nat → Option Nat} {ρ : Nat → Nat → Nat} {K : Nat → Nat} {h : pv_H} {a0 : Nat} {x1 : Int} {x2 : Int} (hT : pv_Ty τ ρ h) (hA0 : τ a0 = some 2) (hX1 : (-2147483648) ≤ x1 ∧ x1 ≤ 2147483647) (hX2 : (-2147483648) ≤ x2 ∧ x2 ≤ 2147483647) : pv_C K 80 [.ref a0, .int (pv_I x1), .int (pv_I x2)] h (Q80 τ ρ h a0 x1 x2) := by
  refine pw_entry 0 ?_
  show pv_T K 80 0 (pv_fl [some (.ref a0), some (.int (pv_I x1)), some (.int (pv_I x2))]) [] h (Q80 τ ρ h a0 x1 x2)
  refine pw_aload_n d80_0 rfl ?_
  refine pw_iload_n d80_1 rfl ?_
  refine pw_callV1 d80_2 k80_78 hT hA0 rfl rfl rfl (ct48 (τ := τ) (ρ := ρ) hT hA0 (by omega)) (fun r2 h2 q2 => ?_)
  obtain ⟨eh2, z2, ez2, lz2, uz2, pz2_0⟩ := q2
  subst eh2
  subst ez2
  refine pw_if_eq d80_5 rfl (by omega) (fun c5 => ?_) (fun c5 => ?_)
  · refine pw_iconst d80_35 ?_
    exact pw_zreturn d80_36 tt80 (by omega) ⟨rfl, 0, rfl, (by omega), (by omega)⟩
  · refine pw_aload_n d80_8 rfl ?_
    refine pw_iload_n d80_9 rfl ?_
    refine pw_callV1 d80_10 k80_78 hT hA0 rfl rfl rfl (ct48 (τ := τ) (ρ := ρ) hT hA0 (by omega)) (fun r10 h10 q10 => ?_)
    obtain ⟨eh10, z10, ez10, lz10, uz10, pz10_0⟩ := q10
    subst eh10
    subst ez10
    refine pw_if_eq d80_13 rfl (by omega) (fun c13 => ?_) (fun c13 => ?_)
    · refine pw_iconst d80_35 ?_
      exact pw_zreturn d80_36 tt80 (by omega) ⟨rfl, 0, rfl, (by omega), (by omega)⟩
    · refine pw_aload_n d80_16 rfl ?_
      refine pw_getR d80_17 g80_33 hT hA0 rfl rfl (fun t17 => ?_)
      have t17 : τ (ρ a0 12) = some 27 := t17
      refine pw_bipush d80_20 (by decide) ?_
      refine pw_iload_n d80_22 rfl ?_
      refine pw_imul d80_23 ?_
      refine pw_iload_n d80_24 rfl ?_
      refine pw_iadd d80_25 ?_
      refine pw_iald d80_26 hT t17 rfl rfl (by omega) (by omega) (fun u26 vu26 => ?_)
      refine pw_iconst d80_27 ?_
      refine pw_icmp_ne d80_28 rfl (by omega) (by omega) (fun c28 => ?_) (fun c28 => ?_)
      · refine pw_iconst d80_35 ?_
        exact pw_zreturn d80_36 tt80 (by omega) ⟨rfl, 0, rfl, (by omega), (by omega)⟩
      · refine pw_iconst d80_31 ?_
        refine pw_goto d80_32 rfl ?_
        exact pw_zreturn d80_36 tt80 (by omega) ⟨rfl, 1, rfl, (by omega), (by omega)⟩

abbrev Q112 (τ : Nat → Option Nat) (ρ : Nat → Nat → Nat) (h : pv_H) (a0 : Nat) (x1 : Int) : Option Value → pv_H → Prop := fun r h' => h = h' ∧ ∃ z : Int, r = some (.int (pv_I z)) ∧ 0 ≤ z ∧ z ≤ 1 ∧ (z = 1 → 0 ≤ x1 ∧ x1 ≤ 9)
set_option maxHeartbeats 4000000 in
set_option maxRecDepth 20000 in
/-- AngleNet$Net.hasPlace(I)Z -/
theorem ct112 {τ : Nat → Option Nat} {ρ : Nat → Nat → Nat} {K : Nat → Nat} {h : pv_H} {a0 : Nat} {x1 : Int} (hT : pv_Ty τ ρ h) (hA0 : τ a0 = some 2) (hX1 : (-2147483648) ≤ x1 ∧ x1 ≤ 2147483647) : pv_C K 112 [.ref a0, .int (pv_I x1)] h (Q112 τ ρ h a0 x1) := by
  refine pw_entry 0 ?_
  show pv_T K 112 0 (pv_fl [some (.ref a0), some (.int (pv_I x1))]) [] h (Q112 τ ρ h a0 x1)
  refine pw_aload_n d112_0 rfl ?_
  refine pw_iload_n d112_1 rfl ?_
  refine pw_callV1 d112_2 k112_78 hT hA0 rfl rfl rfl (ct48 (τ := τ) (ρ := ρ) hT hA0 (by omega)) (fun r2 h2 q2 => ?_)
  obtain ⟨eh2, z2, ez2, lz2, uz2, pz2_0⟩ := q2
  subst eh2
  subst ez2
  refine pw_if_eq d112_5 rfl (by omega) (fun c5 => ?_) (fun c5 => ?_)
  · refine pw_iconst d112_22 ?_
    exact pw_zreturn d112_23 tt112 (by omega) ⟨rfl, 0, rfl, (by omega), (by omega), (by omega)⟩
  · refine pw_aload_n d112_8 rfl ?_
    refine pw_getR d112_9 g112_21 hT hA0 rfl rfl (fun t9 => ?_)
    have t9 : τ (ρ a0 8) = some 23 := t9
    refine pw_iload_n d112_12 rfl ?_
    refine pw_iald d112_13 hT t9 rfl rfl (by omega) (by omega) (fun u13 vu13 => ?_)
    refine pw_iconst d112_14 ?_
    refine pw_icmp_eq d112_15 rfl (by omega) (by omega) (fun c15 => ?_) (fun c15 => ?_)
    · refine pw_iconst d112_22 ?_
      exact pw_zreturn d112_23 tt112 (by omega) ⟨rfl, 0, rfl, (by omega), (by omega), (by omega)⟩
    · refine pw_iconst d112_18 ?_
      refine pw_goto d112_19 rfl ?_
      exact pw_zreturn d112_23 tt112 (by omega) ⟨rfl, 1, rfl, (by omega), (by omega), (by omega)⟩

abbrev Q40 (τ : Nat → Option Nat) (ρ : Nat → Nat → Nat) (h : pv_H) (a0 : Nat) (x1 : Int) : Option Value → pv_H → Prop := fun r h' => h = h' ∧ ∃ z : Int, r = some (.int (pv_I z)) ∧ 0 ≤ z ∧ z ≤ 1023
set_option maxHeartbeats 4000000 in
set_option maxRecDepth 20000 in
/-- AngleNet$Net.postsOf(I)I -/
theorem ct40 {τ : Nat → Option Nat} {ρ : Nat → Nat → Nat} {K : Nat → Nat} {h : pv_H} {a0 : Nat} {x1 : Int} (hT : pv_Ty τ ρ h) (hA0 : τ a0 = some 2) (hX1 : 0 ≤ x1 ∧ x1 ≤ 17) : pv_C K 40 [.ref a0, .int (pv_I x1)] h (Q40 τ ρ h a0 x1) := by
  refine pw_entry 0 ?_
  show pv_T K 40 0 (pv_fl [some (.ref a0), some (.int (pv_I x1))]) [] h (Q40 τ ρ h a0 x1)
  refine pw_iconst d40_0 ?_
  refine pw_aload_n d40_1 rfl ?_
  refine pw_getR d40_2 g40_9 hT hA0 rfl rfl (fun t2 => ?_)
  have t2 : τ (ρ a0 5) = some 20 := t2
  refine pw_iconst d40_5 ?_
  refine pw_iload_n d40_6 rfl ?_
  refine pw_imul d40_7 ?_
  refine pw_iald d40_8 hT t2 rfl rfl (by omega) (by omega) (fun u8 vu8 => ?_)
  refine pw_ishl d40_9 (fun z9 hz9 ez9 => ?_)
  have bz9 := pv_shl1_b (n := 9) (m := 512) (y := (pv_aI h (ρ a0 5) ((3 * x1)).toNat)) (by omega) (by omega) (by decide) (by decide) hz9 ez9
  refine pw_iconst d40_10 ?_
  refine pw_aload_n d40_11 rfl ?_
  refine pw_getR d40_12 g40_9 hT hA0 rfl rfl (fun t12 => ?_)
  have t12 : τ (ρ a0 5) = some 20 := t12
  refine pw_iconst d40_15 ?_
  refine pw_iload_n d40_16 rfl ?_
  refine pw_imul d40_17 ?_
  refine pw_iconst d40_18 ?_
  refine pw_iadd d40_19 ?_
  refine pw_iald d40_20 hT t12 rfl rfl (by omega) (by omega) (fun u20 vu20 => ?_)
  refine pw_ishl d40_21 (fun z21 hz21 ez21 => ?_)
  have bz21 := pv_shl1_b (n := 9) (m := 512) (y := (pv_aI h (ρ a0 5) (((3 * x1) + 1)).toNat)) (by omega) (by omega) (by decide) (by decide) hz21 ez21
  refine pw_ior d40_22 (fun z22 hz22 ez22 => ?_)
  have bz22 := pv_or_b (n := 10) (m := 1024) (x := z9) (y := z21) (by omega) (by omega) (by omega) (by omega) (by decide) (by decide) hz22 ez22
  refine pw_iconst d40_23 ?_
  refine pw_aload_n d40_24 rfl ?_
  refine pw_getR d40_25 g40_9 hT hA0 rfl rfl (fun t25 => ?_)
  have t25 : τ (ρ a0 5) = some 20 := t25
  refine pw_iconst d40_28 ?_
  refine pw_iload_n d40_29 rfl ?_
  refine pw_imul d40_30 ?_
  refine pw_iconst d40_31 ?_
  refine pw_iadd d40_32 ?_
  refine pw_iald d40_33 hT t25 rfl rfl (by omega) (by omega) (fun u33 vu33 => ?_)
  refine pw_ishl d40_34 (fun z34 hz34 ez34 => ?_)
  have bz34 := pv_shl1_b (n := 9) (m := 512) (y := (pv_aI h (ρ a0 5) (((3 * x1) + 2)).toNat)) (by omega) (by omega) (by decide) (by decide) hz34 ez34
  refine pw_ior d40_35 (fun z35 hz35 ez35 => ?_)
  have bz35 := pv_or_b (n := 10) (m := 1024) (x := z22) (y := z34) (by omega) (by omega) (by omega) (by omega) (by decide) (by decide) hz35 ez35
  exact pw_ireturn d40_36 tt40 ⟨rfl, z35, rfl, (by omega), (by omega)⟩

abbrev Q58 (τ : Nat → Option Nat) (ρ : Nat → Nat → Nat) (h : pv_H) (a0 : Nat) (x1 : Int) (x2 : Int) : Option Value → pv_H → Prop := fun r h' => h = h' ∧ ∃ z : Int, r = some (.int (pv_I z)) ∧ 0 ≤ z ∧ z ≤ 1
set_option maxHeartbeats 4000000 in
set_option maxRecDepth 20000 in
/-- AngleNet$Net.hasPost(II)Z -/
theorem ct58 {τ : Nat → Option Nat} {ρ : Nat → Nat → Nat} {K : Nat → Nat} {h : pv_H} {a0 : Nat} {x1 : Int} {x2 : Int} (hT : pv_Ty τ ρ h) (hA0 : τ a0 = some 2) (hX1 : 0 ≤ x1 ∧ x1 ≤ 17) (hX2 : (-2147483648) ≤ x2 ∧ x2 ≤ 2147483647) : pv_C K 58 [.ref a0, .int (pv_I x1), .int (pv_I x2)] h (Q58 τ ρ h a0 x1 x2) := by
  refine pw_entry 0 ?_
  show pv_T K 58 0 (pv_fl [some (.ref a0), some (.int (pv_I x1)), some (.int (pv_I x2))]) [] h (Q58 τ ρ h a0 x1 x2)
  refine pw_aload_n d58_0 rfl ?_
  refine pw_iload_n d58_1 rfl ?_
  refine pw_callV1 d58_2 k58_82 hT hA0 rfl rfl rfl (ct40 (τ := τ) (ρ := ρ) hT hA0 (by omega)) (fun r2 h2 q2 => ?_)
  obtain ⟨eh2, z2, ez2, lz2, uz2⟩ := q2
  subst eh2
  subst ez2
  refine pw_iload_n d58_5 rfl ?_
  refine pw_ishr d58_6 (fun z6 hz6 ez6 => ?_)
  refine pw_iconst d58_7 ?_
  refine pw_iand d58_8 (fun z8 hz8 ez8 => ?_)
  have bz8 := pv_and1_b hz8 ez8
  refine pw_if_eq d58_9 rfl (by omega) (fun c9 => ?_) (fun c9 => ?_)
  · refine pw_iconst d58_16 ?_
    exact pw_zreturn d58_17 tt58 (by omega) ⟨rfl, 0, rfl, (by omega), (by omega)⟩
  · refine pw_iconst d58_12 ?_
    refine pw_goto d58_13 rfl ?_
    exact pw_zreturn d58_17 tt58 (by omega) ⟨rfl, 1, rfl, (by omega), (by omega)⟩

abbrev Q39 (τ : Nat → Option Nat) (ρ : Nat → Nat → Nat) (h : pv_H) (a0 : Nat) (x1 : Int) (x2 : Int) (x3 : Int) : Option Value → pv_H → Prop := fun r h' => h = h' ∧ ∃ z : Int, r = some (.int (pv_I z)) ∧ 0 ≤ z ∧ z ≤ 1
set_option maxHeartbeats 4000000 in
set_option maxRecDepth 20000 in
/-- AngleNet$Net.takesThird(III)Z -/
theorem ct39 {τ : Nat → Option Nat} {ρ : Nat → Nat → Nat} {K : Nat → Nat} {h : pv_H} {a0 : Nat} {x1 : Int} {x2 : Int} {x3 : Int} (hT : pv_Ty τ ρ h) (hA0 : τ a0 = some 2) (hX1 : 0 ≤ x1 ∧ x1 ≤ 9) (hX2 : 0 ≤ x2 ∧ x2 ≤ 9) (hX3 : 0 ≤ x3 ∧ x3 ≤ 9) : pv_C K 39 [.ref a0, .int (pv_I x1), .int (pv_I x2), .int (pv_I x3)] h (Q39 τ ρ h a0 x1 x2 x3) := by
  refine pw_entry 2 ?_
  show pv_T K 39 0 (pv_fl [some (.ref a0), some (.int (pv_I x1)), some (.int (pv_I x2)), some (.int (pv_I x3)), none, none]) [] h (Q39 τ ρ h a0 x1 x2 x3)
  have L16 : ∀ (nn : Nat) (xL4_16 xL5_16 : Int), (0 ≤ x1 ∧ x1 ≤ 9) → (0 ≤ x2 ∧ x2 ≤ 9) → (0 ≤ x3 ∧ x3 ≤ 9) → (0 ≤ xL4_16 ∧ xL4_16 ≤ 1023) → (0 ≤ xL5_16 ∧ xL5_16 ≤ 18) → 18 - xL5_16 < nn → pv_T K 39 16 (pv_fl [some (.ref a0), some (.int (pv_I x1)), some (.int (pv_I x2)), some (.int (pv_I x3)), some (.int (pv_I xL4_16)), some (.int (pv_I xL5_16))]) [] h (Q39 τ ρ h a0 x1 x2 x3) := by
    intro nn
    induction nn with
    | zero => intro xL4_16 xL5_16 rL1_16 rL2_16 rL3_16 rL4_16 rL5_16 hm; exfalso; omega
    | succ nn ih16 =>
      intro xL4_16 xL5_16 rL1_16 rL2_16 rL3_16 rL4_16 rL5_16 hm16
      refine pw_iload d39_16 rfl ?_
      refine pw_aload_n d39_18 rfl ?_
      refine pw_getI d39_19 g39_45 hT hA0 rfl rfl (fun u19 vu19 => ?_)
      refine pw_icmp_ge d39_22 rfl (by omega) (by omega) (fun c22 => ?_) (fun c22 => ?_)
      · refine pw_aload_n d39_44 rfl ?_
        refine pw_getR d39_45 g39_33 hT hA0 rfl rfl (fun t45 => ?_)
        have t45 : τ (ρ a0 12) = some 27 := t45
        refine pw_bipush d39_48 (by decide) ?_
        refine pw_iload_n d39_50 rfl ?_
        refine pw_imul d39_51 ?_
        refine pw_iload_n d39_52 rfl ?_
        refine pw_iadd d39_53 ?_
        refine pw_iald d39_54 hT t45 rfl rfl (by omega) (by omega) (fun u54 vu54 => ?_)
        refine pw_iconst d39_55 ?_
        refine pw_icmp_ge d39_56 rfl (by omega) (by omega) (fun c56 => ?_) (fun c56 => ?_)
        · refine pw_iconst d39_93 ?_
          exact pw_zreturn d39_94 tt39 (by omega) ⟨rfl, 0, rfl, (by omega), (by omega)⟩
        · refine pw_aload_n d39_59 rfl ?_
          refine pw_getR d39_60 g39_33 hT hA0 rfl rfl (fun t60 => ?_)
          have t60 : τ (ρ a0 12) = some 27 := t60
          refine pw_bipush d39_63 (by decide) ?_
          refine pw_iload_n d39_65 rfl ?_
          refine pw_imul d39_66 ?_
          refine pw_iload_n d39_67 rfl ?_
          refine pw_iadd d39_68 ?_
          refine pw_iald d39_69 hT t60 rfl rfl (by omega) (by omega) (fun u69 vu69 => ?_)
          refine pw_iconst d39_70 ?_
          refine pw_icmp_ge d39_71 rfl (by omega) (by omega) (fun c71 => ?_) (fun c71 => ?_)
          · refine pw_iconst d39_93 ?_
            exact pw_zreturn d39_94 tt39 (by omega) ⟨rfl, 0, rfl, (by omega), (by omega)⟩
          · refine pw_aload_n d39_74 rfl ?_
            refine pw_getR d39_75 g39_33 hT hA0 rfl rfl (fun t75 => ?_)
            have t75 : τ (ρ a0 12) = some 27 := t75
            refine pw_bipush d39_78 (by decide) ?_
            refine pw_iload_n d39_80 rfl ?_
            refine pw_imul d39_81 ?_
            refine pw_iload_n d39_82 rfl ?_
            refine pw_iadd d39_83 ?_
            refine pw_iald d39_84 hT t75 rfl rfl (by omega) (by omega) (fun u84 vu84 => ?_)
            refine pw_iconst d39_85 ?_
            refine pw_icmp_ge d39_86 rfl (by omega) (by omega) (fun c86 => ?_) (fun c86 => ?_)
            · refine pw_iconst d39_93 ?_
              exact pw_zreturn d39_94 tt39 (by omega) ⟨rfl, 0, rfl, (by omega), (by omega)⟩
            · refine pw_iconst d39_89 ?_
              refine pw_goto d39_90 rfl ?_
              exact pw_zreturn d39_94 tt39 (by omega) ⟨rfl, 1, rfl, (by omega), (by omega)⟩
      · refine pw_aload_n d39_25 rfl ?_
        refine pw_iload d39_26 rfl ?_
        refine pw_callV1 d39_28 k39_82 hT hA0 rfl rfl rfl (ct40 (τ := τ) (ρ := ρ) hT hA0 (by omega)) (fun r28 h28 q28 => ?_)
        obtain ⟨eh28, z28, ez28, lz28, uz28⟩ := q28
        subst eh28
        subst ez28
        refine pw_iload d39_31 rfl ?_
        refine pw_icmp_ne d39_33 rfl (by omega) (by omega) (fun c33 => ?_) (fun c33 => ?_)
        · refine pw_iinc d39_38 m39 rfl rfl rfl ?_
          refine pw_goto d39_41 rfl ?_
          exact ih16 (xL4_16) ((xL5_16 + 1)) (by omega) (by omega) (by omega) (by omega) (by omega) (by omega)
        · refine pw_iconst d39_36 ?_
          exact pw_zreturn d39_37 tt39 (by omega) ⟨rfl, 0, rfl, (by omega), (by omega)⟩
  refine pw_iconst d39_0 ?_
  refine pw_iload_n d39_1 rfl ?_
  refine pw_ishl d39_2 (fun z2 hz2 ez2 => ?_)
  have bz2 := pv_shl1_b (n := 9) (m := 512) (y := x1) (by omega) (by omega) (by decide) (by decide) hz2 ez2
  refine pw_iconst d39_3 ?_
  refine pw_iload_n d39_4 rfl ?_
  refine pw_ishl d39_5 (fun z5 hz5 ez5 => ?_)
  have bz5 := pv_shl1_b (n := 9) (m := 512) (y := x2) (by omega) (by omega) (by decide) (by decide) hz5 ez5
  refine pw_ior d39_6 (fun z6 hz6 ez6 => ?_)
  have bz6 := pv_or_b (n := 10) (m := 1024) (x := z2) (y := z5) (by omega) (by omega) (by omega) (by omega) (by decide) (by decide) hz6 ez6
  refine pw_iconst d39_7 ?_
  refine pw_iload_n d39_8 rfl ?_
  refine pw_ishl d39_9 (fun z9 hz9 ez9 => ?_)
  have bz9 := pv_shl1_b (n := 9) (m := 512) (y := x3) (by omega) (by omega) (by decide) (by decide) hz9 ez9
  refine pw_ior d39_10 (fun z10 hz10 ez10 => ?_)
  have bz10 := pv_or_b (n := 10) (m := 1024) (x := z6) (y := z9) (by omega) (by omega) (by omega) (by omega) (by decide) (by decide) hz10 ez10
  refine pw_istore d39_11 m39 rfl rfl ?_
  refine pw_iconst d39_13 ?_
  refine pw_istore d39_14 m39 rfl rfl ?_
  exact L16 _ (z10) (0) (by omega) (by omega) (by omega) (by omega) (by omega) (pv_mu _)

abbrev Q43 (τ : Nat → Option Nat) (ρ : Nat → Nat → Nat) (h : pv_H) (a0 : Nat) (x1 : Int) (x2 : Int) : Option Value → pv_H → Prop := fun r h' => pv_Ty τ ρ h' ∧ pv_Fr τ [1791] h h' ∧ r = none
set_option maxHeartbeats 4000000 in
set_option maxRecDepth 20000 in
/-- AngleNet$Net.shareSides(II)V -/
theorem ct43 {τ : Nat → Option Nat} {ρ : Nat → Nat → Nat} {K : Nat → Nat} {h : pv_H} {a0 : Nat} {x1 : Int} {x2 : Int} (hT : pv_Ty τ ρ h) (hA0 : τ a0 = some 2) (hX1 : 0 ≤ x1 ∧ x1 ≤ 17) (hX2 : (-2147483648) ≤ x2 ∧ x2 ≤ 2147483647) : pv_C K 43 [.ref a0, .int (pv_I x1), .int (pv_I x2)] h (Q43 τ ρ h a0 x1 x2) := by
  refine pw_entry 3 ?_
  show pv_T K 43 0 (pv_fl [some (.ref a0), some (.int (pv_I x1)), some (.int (pv_I x2)), none, none, none]) [] h (Q43 τ ρ h a0 x1 x2)
  have hF0 : pv_Fr τ [1791] h h := pv_Fr.rf
  have L2 : ∀ (nn : Nat) (h_2 : pv_H) (xL3_2 : Int) (o4_2 o5_2 : Option Value), (pv_Ty τ ρ h_2) → (pv_Fr τ [1791] h h_2) → (0 ≤ x1 ∧ x1 ≤ 17) → ((-2147483648) ≤ x2 ∧ x2 ≤ 2147483647) → (0 ≤ xL3_2 ∧ xL3_2 ≤ 3) → 3 - xL3_2 < nn → pv_T K 43 2 (pv_fl [some (.ref a0), some (.int (pv_I x1)), some (.int (pv_I x2)), some (.int (pv_I xL3_2)), o4_2, o5_2]) [] h_2 (Q43 τ ρ h a0 x1 x2) := by
    intro nn
    induction nn with
    | zero => intro h_2 xL3_2 o4_2 o5_2 hT_2 hF_2 rL1_2 rL2_2 rL3_2 hm; exfalso; omega
    | succ nn ih2 =>
      intro h_2 xL3_2 o4_2 o5_2 hT_2 hF_2 rL1_2 rL2_2 rL3_2 hm2
      refine pw_iload_n d43_2 rfl ?_
      refine pw_iconst d43_3 ?_
      refine pw_icmp_ge d43_4 rfl (by omega) (by omega) (fun c4 => ?_) (fun c4 => ?_)
      · exact pw_return d43_75 tt43 ⟨hT_2, hF_2, rfl⟩
      · refine pw_aload_n d43_7 rfl ?_
        refine pw_getR d43_8 g43_9 hT_2 hA0 rfl rfl (fun t8 => ?_)
        have t8 : τ (ρ a0 5) = some 20 := t8
        refine pw_iconst d43_11 ?_
        refine pw_iload_n d43_12 rfl ?_
        refine pw_imul d43_13 ?_
        refine pw_iload_n d43_14 rfl ?_
        refine pw_iadd d43_15 ?_
        refine pw_iald d43_16 hT_2 t8 rfl rfl (by omega) (by omega) (fun u16 vu16 => ?_)
        refine pw_istore d43_17 m43 rfl rfl ?_
        refine pw_aload_n d43_19 rfl ?_
        refine pw_getR d43_20 g43_9 hT_2 hA0 rfl rfl (fun t20 => ?_)
        have t20 : τ (ρ a0 5) = some 20 := t20
        refine pw_iconst d43_23 ?_
        refine pw_iload_n d43_24 rfl ?_
        refine pw_imul d43_25 ?_
        refine pw_iload_n d43_26 rfl ?_
        refine pw_iconst d43_27 ?_
        refine pw_iadd d43_28 ?_
        refine pw_iconst d43_29 ?_
        refine pw_irem d43_30 (by omega) (by omega) (by omega) (by omega) ?_
        refine pw_iadd d43_31 ?_
        refine pw_iald d43_32 hT_2 t20 rfl rfl (by omega) (by omega) (fun u32 vu32 => ?_)
        refine pw_istore d43_33 m43 rfl rfl ?_
        refine pw_aload_n d43_35 rfl ?_
        refine pw_getR d43_36 g43_33 hT_2 hA0 rfl rfl (fun t36 => ?_)
        have t36 : τ (ρ a0 12) = some 27 := t36
        refine pw_bipush d43_39 (by decide) ?_
        refine pw_iload d43_41 rfl ?_
        refine pw_imul d43_43 ?_
        refine pw_iload d43_44 rfl ?_
        refine pw_iadd d43_46 ?_
        refine pw_dup2 d43_47 rfl rfl ?_
        refine pw_iald d43_48 hT_2 t36 rfl rfl (by omega) (by omega) (fun u48 vu48 => ?_)
        refine pw_name (x := (pv_aI h_2 (ρ a0 12) (((10 * (pv_aI h_2 (ρ a0 5) (((3 * x1) + xL3_2)).toNat)) + (pv_aI h_2 (ρ a0 5) (((3 * x1) + ((xL3_2 + 1) % 3))).toNat))).toNat)) (fun z48 ez48 => ?_)
        have hz48 : (-2147483648) ≤ z48 ∧ z48 ≤ 2147483647 := by subst ez48; omega
        refine pw_iload_n d43_49 rfl ?_
        refine pw_iadd d43_50 ?_
        refine pw_any (fun z51 hz51 ez51 => ?_)
        refine pw_iast d43_51 hT_2 t36 rfl rfl rfl (by omega) (by omega) (by omega) (by omega) (fun h51 T51 F51 E51 => ?_)
        have f51 := hF_2.tr (F51.up (by decide))
        refine pw_aload_n d43_52 rfl ?_
        refine pw_getR d43_53 g43_33 T51 hA0 rfl rfl (fun t53 => ?_)
        have t53 : τ (ρ a0 12) = some 27 := t53
        refine pw_bipush d43_56 (by decide) ?_
        refine pw_iload d43_58 rfl ?_
        refine pw_imul d43_60 ?_
        refine pw_iload d43_61 rfl ?_
        refine pw_iadd d43_63 ?_
        refine pw_dup2 d43_64 rfl rfl ?_
        refine pw_iald d43_65 T51 t53 rfl rfl (by omega) (by omega) (fun u65 vu65 => ?_)
        refine pw_name (x := (pv_aI h51 (ρ a0 12) (((10 * (pv_aI h_2 (ρ a0 5) (((3 * x1) + ((xL3_2 + 1) % 3))).toNat)) + (pv_aI h_2 (ρ a0 5) (((3 * x1) + xL3_2)).toNat))).toNat)) (fun z65 ez65 => ?_)
        have hz65 : (-2147483648) ≤ z65 ∧ z65 ≤ 2147483647 := by subst ez65; omega
        refine pw_iload_n d43_66 rfl ?_
        refine pw_iadd d43_67 ?_
        refine pw_any (fun z68 hz68 ez68 => ?_)
        refine pw_iast d43_68 T51 t53 rfl rfl rfl (by omega) (by omega) (by omega) (by omega) (fun h68 T68 F68 E68 => ?_)
        have f68 := f51.tr (F68.up (by decide))
        refine pw_iinc d43_69 m43 rfl rfl rfl ?_
        refine pw_goto d43_72 rfl ?_
        exact ih2 h68 ((xL3_2 + 1)) _ _ T68 f68 (by omega) (by omega) (by omega) (by omega)
  refine pw_iconst d43_0 ?_
  refine pw_istore_n d43_1 m43 rfl rfl ?_
  exact L2 _ h (0) _ _ hT hF0 (by omega) (by omega) (by omega) (pv_mu _)

abbrev Q42 (τ : Nat → Option Nat) (ρ : Nat → Nat → Nat) (h : pv_H) (a0 : Nat) (x1 : Int) (x2 : Int) (x3 : Int) (x4 : Int) (x5 : Int) : Option Value → pv_H → Prop := fun r h' => pv_Ty τ ρ h' ∧ pv_Fr τ [1343, 1407, 1791] h h' ∧ r = none
set_option maxHeartbeats 4000000 in
set_option maxRecDepth 20000 in
/-- AngleNet$Net.putThird(IIIII)V -/
theorem ct42 {τ : Nat → Option Nat} {ρ : Nat → Nat → Nat} {K : Nat → Nat} {h : pv_H} {a0 : Nat} {x1 : Int} {x2 : Int} {x3 : Int} {x4 : Int} {x5 : Int} (hT : pv_Ty τ ρ h) (hA0 : τ a0 = some 2) (hX1 : 0 ≤ x1 ∧ x1 ≤ 17) (hX2 : 0 ≤ x2 ∧ x2 ≤ 9) (hX3 : 0 ≤ x3 ∧ x3 ≤ 9) (hX4 : 0 ≤ x4 ∧ x4 ≤ 9) (hX5 : 0 ≤ x5 ∧ x5 ≤ 540) : pv_C K 42 [.ref a0, .int (pv_I x1), .int (pv_I x2), .int (pv_I x3), .int (pv_I x4), .int (pv_I x5)] h (Q42 τ ρ h a0 x1 x2 x3 x4 x5) := by
  refine pw_entry 0 ?_
  show pv_T K 42 0 (pv_fl [some (.ref a0), some (.int (pv_I x1)), some (.int (pv_I x2)), some (.int (pv_I x3)), some (.int (pv_I x4)), some (.int (pv_I x5))]) [] h (Q42 τ ρ h a0 x1 x2 x3 x4 x5)
  have hF0 : pv_Fr τ [1343, 1407, 1791] h h := pv_Fr.rf
  refine pw_aload_n d42_0 rfl ?_
  refine pw_getR d42_1 g42_9 hT hA0 rfl rfl (fun t1 => ?_)
  have t1 : τ (ρ a0 5) = some 20 := t1
  refine pw_iconst d42_4 ?_
  refine pw_iload_n d42_5 rfl ?_
  refine pw_imul d42_6 ?_
  refine pw_iload_n d42_7 rfl ?_
  refine pw_iast d42_8 hT t1 rfl rfl rfl (by omega) (by omega) (by omega) (by omega) (fun h8 T8 F8 E8 => ?_)
  have f8 := hF0.tr (F8.up (by decide))
  refine pw_aload_n d42_9 rfl ?_
  refine pw_getR d42_10 g42_9 T8 hA0 rfl rfl (fun t10 => ?_)
  have t10 : τ (ρ a0 5) = some 20 := t10
  refine pw_iconst d42_13 ?_
  refine pw_iload_n d42_14 rfl ?_
  refine pw_imul d42_15 ?_
  refine pw_iconst d42_16 ?_
  refine pw_iadd d42_17 ?_
  refine pw_iload_n d42_18 rfl ?_
  refine pw_iast d42_19 T8 t10 rfl rfl rfl (by omega) (by omega) (by omega) (by omega) (fun h19 T19 F19 E19 => ?_)
  have f19 := f8.tr (F19.up (by decide))
  refine pw_aload_n d42_20 rfl ?_
  refine pw_getR d42_21 g42_9 T19 hA0 rfl rfl (fun t21 => ?_)
  have t21 : τ (ρ a0 5) = some 20 := t21
  refine pw_iconst d42_24 ?_
  refine pw_iload_n d42_25 rfl ?_
  refine pw_imul d42_26 ?_
  refine pw_iconst d42_27 ?_
  refine pw_iadd d42_28 ?_
  refine pw_iload d42_29 rfl ?_
  refine pw_iast d42_31 T19 t21 rfl rfl rfl (by omega) (by omega) (by omega) (by omega) (fun h31 T31 F31 E31 => ?_)
  have f31 := f19.tr (F31.up (by decide))
  refine pw_aload_n d42_32 rfl ?_
  refine pw_getR d42_33 g42_15 T31 hA0 rfl rfl (fun t33 => ?_)
  have t33 : τ (ρ a0 6) = some 21 := t33
  refine pw_iload_n d42_36 rfl ?_
  refine pw_iload d42_37 rfl ?_
  refine pw_iast d42_39 T31 t33 rfl rfl rfl (by omega) (by omega) (by omega) (by omega) (fun h39 T39 F39 E39 => ?_)
  have f39 := f31.tr (F39.up (by decide))
  refine pw_aload_n d42_40 rfl ?_
  refine pw_iload_n d42_41 rfl ?_
  refine pw_iconst d42_42 ?_
  refine pw_callV2 d42_43 k42_86 T39 hA0 rfl rfl rfl (ct43 (τ := τ) (ρ := ρ) T39 hA0 (by omega) (by omega)) (fun r43 h43 q43 => ?_)
  obtain ⟨T43, F43, ez43⟩ := q43
  subst ez43
  have f43 := f39.tr (F43.up (by decide))
  exact pw_return d42_46 tt42 ⟨T43, f43, rfl⟩

abbrev Q126 (τ : Nat → Option Nat) (ρ : Nat → Nat → Nat) (h : pv_H) (a0 : Nat) (x1 : Int) : Option Value → pv_H → Prop := fun r h' => pv_Ty τ ρ h' ∧ pv_Fr τ [1791] h h' ∧ r = none
set_option maxHeartbeats 4000000 in
set_option maxRecDepth 20000 in
/-- AngleNet$Net.liftThird(I)V -/
theorem ct126 {τ : Nat → Option Nat} {ρ : Nat → Nat → Nat} {K : Nat → Nat} {h : pv_H} {a0 : Nat} {x1 : Int} (hT : pv_Ty τ ρ h) (hA0 : τ a0 = some 2) (hX1 : 0 ≤ x1 ∧ x1 ≤ 17) : pv_C K 126 [.ref a0, .int (pv_I x1)] h (Q126 τ ρ h a0 x1) := by
  refine pw_entry 0 ?_
  show pv_T K 126 0 (pv_fl [some (.ref a0), some (.int (pv_I x1))]) [] h (Q126 τ ρ h a0 x1)
  have hF0 : pv_Fr τ [1791] h h := pv_Fr.rf
  refine pw_aload_n d126_0 rfl ?_
  refine pw_iload_n d126_1 rfl ?_
  refine pw_iconst d126_2 ?_
  refine pw_callV2 d126_3 k126_86 hT hA0 rfl rfl rfl (ct43 (τ := τ) (ρ := ρ) hT hA0 (by omega) (by omega)) (fun r3 h3 q3 => ?_)
  obtain ⟨T3, F3, ez3⟩ := q3
  subst ez3
  have f3 := hF0.tr (F3.up (by decide))
  exact pw_return d126_6 tt126 ⟨T3, f3, rfl⟩

abbrev Q49 (τ : Nat → Option Nat) (ρ : Nat → Nat → Nat) (h : pv_H) (a0 : Nat) (x1 : Int) (x2 : Int) (x3 : Int) : Option Value → pv_H → Prop := fun r h' => pv_Ty τ ρ h' ∧ pv_Fr τ [1727] h h' ∧ r = none
set_option maxHeartbeats 4000000 in
set_option maxRecDepth 20000 in
/-- AngleNet$Net.putWeight(III)V -/
theorem ct49 {τ : Nat → Option Nat} {ρ : Nat → Nat → Nat} {K : Nat → Nat} {h : pv_H} {a0 : Nat} {x1 : Int} {x2 : Int} {x3 : Int} (hT : pv_Ty τ ρ h) (hA0 : τ a0 = some 2) (hX1 : 0 ≤ x1 ∧ x1 ≤ 9) (hX2 : 0 ≤ x2 ∧ x2 ≤ 9) (hX3 : 0 ≤ x3 ∧ x3 ≤ 360) : pv_C K 49 [.ref a0, .int (pv_I x1), .int (pv_I x2), .int (pv_I x3)] h (Q49 τ ρ h a0 x1 x2 x3) := by
  refine pw_entry 0 ?_
  show pv_T K 49 0 (pv_fl [some (.ref a0), some (.int (pv_I x1)), some (.int (pv_I x2)), some (.int (pv_I x3))]) [] h (Q49 τ ρ h a0 x1 x2 x3)
  have hF0 : pv_Fr τ [1727] h h := pv_Fr.rf
  refine pw_aload_n d49_0 rfl ?_
  refine pw_getR d49_1 g49_30 hT hA0 rfl rfl (fun t1 => ?_)
  have t1 : τ (ρ a0 11) = some 26 := t1
  refine pw_bipush d49_4 (by decide) ?_
  refine pw_iload_n d49_6 rfl ?_
  refine pw_imul d49_7 ?_
  refine pw_iload_n d49_8 rfl ?_
  refine pw_iadd d49_9 ?_
  refine pw_iload_n d49_10 rfl ?_
  refine pw_iast d49_11 hT t1 rfl rfl rfl (by omega) (by omega) (by omega) (by omega) (fun h11 T11 F11 E11 => ?_)
  have f11 := hF0.tr (F11.up (by decide))
  refine pw_aload_n d49_12 rfl ?_
  refine pw_getR d49_13 g49_30 T11 hA0 rfl rfl (fun t13 => ?_)
  have t13 : τ (ρ a0 11) = some 26 := t13
  refine pw_bipush d49_16 (by decide) ?_
  refine pw_iload_n d49_18 rfl ?_
  refine pw_imul d49_19 ?_
  refine pw_iload_n d49_20 rfl ?_
  refine pw_iadd d49_21 ?_
  refine pw_iload_n d49_22 rfl ?_
  refine pw_iast d49_23 T11 t13 rfl rfl rfl (by omega) (by omega) (by omega) (by omega) (fun h23 T23 F23 E23 => ?_)
  have f23 := f11.tr (F23.up (by decide))
  exact pw_return d49_24 tt49 ⟨T23, f23, rfl⟩

abbrev Q57 (τ : Nat → Option Nat) (ρ : Nat → Nat → Nat) (h : pv_H) (a0 : Nat) (x1 : Int) : Option Value → pv_H → Prop := fun r h' => h = h' ∧ ∃ z : Int, r = some (.int (pv_I z)) ∧ (-2147483648) ≤ z ∧ z ≤ 2147483647
set_option maxHeartbeats 4000000 in
set_option maxRecDepth 20000 in
/-- AngleNet$Net.thirdsAt(I)I -/
theorem ct57 {τ : Nat → Option Nat} {ρ : Nat → Nat → Nat} {K : Nat → Nat} {h : pv_H} {a0 : Nat} {x1 : Int} (hT : pv_Ty τ ρ h) (hA0 : τ a0 = some 2) (hX1 : (-2147483648) ≤ x1 ∧ x1 ≤ 2147483647) : pv_C K 57 [.ref a0, .int (pv_I x1)] h (Q57 τ ρ h a0 x1) := by
  refine pw_entry 2 ?_
  show pv_T K 57 0 (pv_fl [some (.ref a0), some (.int (pv_I x1)), none, none]) [] h (Q57 τ ρ h a0 x1)
  have L4 : ∀ (nn : Nat) (xL2_4 xL3_4 : Int), ((-2147483648) ≤ x1 ∧ x1 ≤ 2147483647) → ((-2147483648) ≤ xL2_4 ∧ xL2_4 ≤ 2147483647) → (0 ≤ xL3_4 ∧ xL3_4 ≤ 18) → 18 - xL3_4 < nn → pv_T K 57 4 (pv_fl [some (.ref a0), some (.int (pv_I x1)), some (.int (pv_I xL2_4)), some (.int (pv_I xL3_4))]) [] h (Q57 τ ρ h a0 x1) := by
    intro nn
    induction nn with
    | zero => intro xL2_4 xL3_4 rL1_4 rL2_4 rL3_4 hm; exfalso; omega
    | succ nn ih4 =>
      intro xL2_4 xL3_4 rL1_4 rL2_4 rL3_4 hm4
      have J27 : ∀ (xS0_27 : Int) (o2_27 : Option Value), ((-2147483648) ≤ x1 ∧ x1 ≤ 2147483647) → (0 ≤ xL3_4 ∧ xL3_4 ≤ 17) → (0 ≤ xS0_27 ∧ xS0_27 ≤ 1) → ((-2147483648) ≤ xL2_4 ∧ xL2_4 ≤ 2147483647) → pv_T K 57 27 (pv_fl [some (.ref a0), some (.int (pv_I x1)), o2_27, some (.int (pv_I xL3_4))]) [.int (pv_I xS0_27), .int (pv_I xL2_4)] h (Q57 τ ρ h a0 x1) := by
        intro xS0_27 o2_27 rL1_27 rL3_27 rS0_27 rS1_27
        refine pw_iadd d57_27 ?_
        refine pw_any (fun z28 hz28 ez28 => ?_)
        refine pw_istore_n d57_28 m57 rfl rfl ?_
        refine pw_iinc d57_29 m57 rfl rfl rfl ?_
        refine pw_goto d57_32 rfl ?_
        exact ih4 (z28) ((xL3_4 + 1)) (by omega) (by omega) (by omega) (by omega)
      refine pw_iload_n d57_4 rfl ?_
      refine pw_aload_n d57_5 rfl ?_
      refine pw_getI d57_6 g57_45 hT hA0 rfl rfl (fun u6 vu6 => ?_)
      refine pw_icmp_ge d57_9 rfl (by omega) (by omega) (fun c9 => ?_) (fun c9 => ?_)
      · refine pw_iload_n d57_35 rfl ?_
        exact pw_ireturn d57_36 tt57 ⟨rfl, xL2_4, rfl, (by omega), (by omega)⟩
      · refine pw_iload_n d57_12 rfl ?_
        refine pw_aload_n d57_13 rfl ?_
        refine pw_iload_n d57_14 rfl ?_
        refine pw_iload_n d57_15 rfl ?_
        refine pw_callV2 d57_16 k57_90 hT hA0 rfl rfl rfl (ct58 (τ := τ) (ρ := ρ) hT hA0 (by omega) (by omega)) (fun r16 h16 q16 => ?_)
        obtain ⟨eh16, z16, ez16, lz16, uz16⟩ := q16
        subst eh16
        subst ez16
        refine pw_if_eq d57_19 rfl (by omega) (fun c19 => ?_) (fun c19 => ?_)
        · refine pw_iconst d57_26 ?_
          exact J27 (0) _ (by omega) (by omega) (by omega) (by omega)
        · refine pw_iconst d57_22 ?_
          refine pw_goto d57_23 rfl ?_
          exact J27 (1) _ (by omega) (by omega) (by omega) (by omega)
  refine pw_iconst d57_0 ?_
  refine pw_istore_n d57_1 m57 rfl rfl ?_
  refine pw_iconst d57_2 ?_
  refine pw_istore_n d57_3 m57 rfl rfl ?_
  exact L4 _ (0) (0) (by omega) (by omega) (by omega) (pv_mu _)

abbrev Q59 (τ : Nat → Option Nat) (ρ : Nat → Nat → Nat) (h : pv_H) (a0 : Nat) (x1 : Int) : Option Value → pv_H → Prop := fun r h' => h = h' ∧ ∃ z : Int, r = some (.int (pv_I z)) ∧ (-2147483648) ≤ z ∧ z ≤ 2147483647
set_option maxHeartbeats 4000000 in
set_option maxRecDepth 20000 in
/-- AngleNet$Net.sidesAt(I)I -/
theorem ct59 {τ : Nat → Option Nat} {ρ : Nat → Nat → Nat} {K : Nat → Nat} {h : pv_H} {a0 : Nat} {x1 : Int} (hT : pv_Ty τ ρ h) (hA0 : τ a0 = some 2) (hX1 : (-2147483648) ≤ x1 ∧ x1 ≤ 2147483647) : pv_C K 59 [.ref a0, .int (pv_I x1)] h (Q59 τ ρ h a0 x1) := by
  refine pw_entry 2 ?_
  show pv_T K 59 0 (pv_fl [some (.ref a0), some (.int (pv_I x1)), none, none]) [] h (Q59 τ ρ h a0 x1)
  have L4 : ∀ (nn : Nat) (xL2_4 xL3_4 : Int), ((-2147483648) ≤ x1 ∧ x1 ≤ 2147483647) → ((-2147483648) ≤ xL2_4 ∧ xL2_4 ≤ 2147483647) → (0 ≤ xL3_4 ∧ xL3_4 ≤ 10) → 10 - xL3_4 < nn → pv_T K 59 4 (pv_fl [some (.ref a0), some (.int (pv_I x1)), some (.int (pv_I xL2_4)), some (.int (pv_I xL3_4))]) [] h (Q59 τ ρ h a0 x1) := by
    intro nn
    induction nn with
    | zero => intro xL2_4 xL3_4 rL1_4 rL2_4 rL3_4 hm; exfalso; omega
    | succ nn ih4 =>
      intro xL2_4 xL3_4 rL1_4 rL2_4 rL3_4 hm4
      have J27 : ∀ (xS0_27 : Int) (o2_27 : Option Value), ((-2147483648) ≤ x1 ∧ x1 ≤ 2147483647) → (0 ≤ xL3_4 ∧ xL3_4 ≤ 9) → (0 ≤ xS0_27 ∧ xS0_27 ≤ 1) → ((-2147483648) ≤ xL2_4 ∧ xL2_4 ≤ 2147483647) → pv_T K 59 27 (pv_fl [some (.ref a0), some (.int (pv_I x1)), o2_27, some (.int (pv_I xL3_4))]) [.int (pv_I xS0_27), .int (pv_I xL2_4)] h (Q59 τ ρ h a0 x1) := by
        intro xS0_27 o2_27 rL1_27 rL3_27 rS0_27 rS1_27
        refine pw_iadd d59_27 ?_
        refine pw_any (fun z28 hz28 ez28 => ?_)
        refine pw_istore_n d59_28 m59 rfl rfl ?_
        refine pw_iinc d59_29 m59 rfl rfl rfl ?_
        refine pw_goto d59_32 rfl ?_
        exact ih4 (z28) ((xL3_4 + 1)) (by omega) (by omega) (by omega) (by omega)
      refine pw_iload_n d59_4 rfl ?_
      refine pw_aload_n d59_5 rfl ?_
      refine pw_getI d59_6 g59_41 hT hA0 rfl rfl (fun u6 vu6 => ?_)
      refine pw_icmp_ge d59_9 rfl (by omega) (by omega) (fun c9 => ?_) (fun c9 => ?_)
      · refine pw_iload_n d59_35 rfl ?_
        exact pw_ireturn d59_36 tt59 ⟨rfl, xL2_4, rfl, (by omega), (by omega)⟩
      · refine pw_iload_n d59_12 rfl ?_
        refine pw_aload_n d59_13 rfl ?_
        refine pw_iload_n d59_14 rfl ?_
        refine pw_iload_n d59_15 rfl ?_
        refine pw_callV2 d59_16 k59_94 hT hA0 rfl rfl rfl (ct47 (τ := τ) (ρ := ρ) hT hA0 (by omega) (by omega)) (fun r16 h16 q16 => ?_)
        obtain ⟨eh16, z16, ez16, lz16, uz16, pz16_0⟩ := q16
        subst eh16
        subst ez16
        refine pw_if_eq d59_19 rfl (by omega) (fun c19 => ?_) (fun c19 => ?_)
        · refine pw_iconst d59_26 ?_
          exact J27 (0) _ (by omega) (by omega) (by omega) (by omega)
        · refine pw_iconst d59_22 ?_
          refine pw_goto d59_23 rfl ?_
          exact J27 (1) _ (by omega) (by omega) (by omega) (by omega)
  refine pw_iconst d59_0 ?_
  refine pw_istore_n d59_1 m59 rfl rfl ?_
  refine pw_iconst d59_2 ?_
  refine pw_istore_n d59_3 m59 rfl rfl ?_
  exact L4 _ (0) (0) (by omega) (by omega) (by omega) (pv_mu _)

abbrev Q68 (τ : Nat → Option Nat) (ρ : Nat → Nat → Nat) (h : pv_H) (a0 : Nat) : Option Value → pv_H → Prop := fun r h' => h = h' ∧ ∃ z : Int, r = some (.int (pv_I z)) ∧ (-1073741824) ≤ z ∧ z ≤ 1073741823
set_option maxHeartbeats 4000000 in
set_option maxRecDepth 20000 in
/-- AngleNet$Net.sideCount()I -/
theorem ct68 {τ : Nat → Option Nat} {ρ : Nat → Nat → Nat} {K : Nat → Nat} {h : pv_H} {a0 : Nat} (hT : pv_Ty τ ρ h) (hA0 : τ a0 = some 2) : pv_C K 68 [.ref a0] h (Q68 τ ρ h a0) := by
  refine pw_entry 2 ?_
  show pv_T K 68 0 (pv_fl [some (.ref a0), none, none]) [] h (Q68 τ ρ h a0)
  have L4 : ∀ (nn : Nat) (xL1_4 xL2_4 : Int), ((-2147483648) ≤ xL1_4 ∧ xL1_4 ≤ 2147483647) → (0 ≤ xL2_4 ∧ xL2_4 ≤ 10) → 10 - xL2_4 < nn → pv_T K 68 4 (pv_fl [some (.ref a0), some (.int (pv_I xL1_4)), some (.int (pv_I xL2_4))]) [] h (Q68 τ ρ h a0) := by
    intro nn
    induction nn with
    | zero => intro xL1_4 xL2_4 rL1_4 rL2_4 hm; exfalso; omega
    | succ nn ih4 =>
      intro xL1_4 xL2_4 rL1_4 rL2_4 hm4
      refine pw_iload_n d68_4 rfl ?_
      refine pw_aload_n d68_5 rfl ?_
      refine pw_getI d68_6 g68_41 hT hA0 rfl rfl (fun u6 vu6 => ?_)
      refine pw_icmp_ge d68_9 rfl (by omega) (by omega) (fun c9 => ?_) (fun c9 => ?_)
      · refine pw_iload_n d68_26 rfl ?_
        refine pw_iconst d68_27 ?_
        refine pw_idivT d68_28 (by omega) (by omega) (by omega) (fun z28 hz28 ez28 => ?_)
        exact pw_ireturn d68_29 tt68 ⟨rfl, z28, rfl, (by omega), (by omega)⟩
      · refine pw_iload_n d68_12 rfl ?_
        refine pw_aload_n d68_13 rfl ?_
        refine pw_iload_n d68_14 rfl ?_
        refine pw_callV1 d68_15 k68_97 hT hA0 rfl rfl rfl (ct59 (τ := τ) (ρ := ρ) hT hA0 (by omega)) (fun r15 h15 q15 => ?_)
        obtain ⟨eh15, z15, ez15, lz15, uz15⟩ := q15
        subst eh15
        subst ez15
        refine pw_iadd d68_18 ?_
        refine pw_any (fun z19 hz19 ez19 => ?_)
        refine pw_istore_n d68_19 m68 rfl rfl ?_
        refine pw_iinc d68_20 m68 rfl rfl rfl ?_
        refine pw_goto d68_23 rfl ?_
        exact ih4 (z19) ((xL2_4 + 1)) (by omega) (by omega) (by omega)
  refine pw_iconst d68_0 ?_
  refine pw_istore_n d68_1 m68 rfl rfl ?_
  refine pw_iconst d68_2 ?_
  refine pw_istore_n d68_3 m68 rfl rfl ?_
  exact L4 _ (0) (0) (by omega) (by omega) (pv_mu _)

abbrev Q62 (τ : Nat → Option Nat) (ρ : Nat → Nat → Nat) (h : pv_H) (a0 : Nat) (x1 : Int) : Option Value → pv_H → Prop := fun r h' => h = h' ∧ ∃ z : Int, r = some (.int (pv_I z)) ∧ (-1) ≤ z ∧ z ≤ 99
set_option maxHeartbeats 4000000 in
set_option maxRecDepth 20000 in
/-- AngleNet$Net.sideNumbered(I)I -/
theorem ct62 {τ : Nat → Option Nat} {ρ : Nat → Nat → Nat} {K : Nat → Nat} {h : pv_H} {a0 : Nat} {x1 : Int} (hT : pv_Ty τ ρ h) (hA0 : τ a0 = some 2) (hX1 : (-2147483648) ≤ x1 ∧ x1 ≤ 2147483647) : pv_C K 62 [.ref a0, .int (pv_I x1)] h (Q62 τ ρ h a0 x1) := by
  refine pw_entry 3 ?_
  show pv_T K 62 0 (pv_fl [some (.ref a0), some (.int (pv_I x1)), none, none, none]) [] h (Q62 τ ρ h a0 x1)
  have L4 : ∀ (nn : Nat) (xL2_4 xL3_4 : Int) (o4_4 : Option Value), ((-2147483648) ≤ x1 ∧ x1 ≤ 2147483647) → ((-2147483648) ≤ xL2_4 ∧ xL2_4 ≤ 2147483647) → (0 ≤ xL3_4 ∧ xL3_4 ≤ 10) → 10 - xL3_4 < nn → pv_T K 62 4 (pv_fl [some (.ref a0), some (.int (pv_I x1)), some (.int (pv_I xL2_4)), some (.int (pv_I xL3_4)), o4_4]) [] h (Q62 τ ρ h a0 x1) := by
    intro nn
    induction nn with
    | zero => intro xL2_4 xL3_4 o4_4 rL1_4 rL2_4 rL3_4 hm; exfalso; omega
    | succ nn ih4 =>
      intro xL2_4 xL3_4 o4_4 rL1_4 rL2_4 rL3_4 hm4
      have L17 : ∀ (nn : Nat) (xL2_17 xL4_17 : Int), ((-2147483648) ≤ x1 ∧ x1 ≤ 2147483647) → ((-2147483648) ≤ xL2_17 ∧ xL2_17 ≤ 2147483647) → (0 ≤ xL3_4 ∧ xL3_4 ≤ 9) → (1 ≤ xL4_17 ∧ xL4_17 ≤ 10) → 10 - xL4_17 < nn → pv_T K 62 17 (pv_fl [some (.ref a0), some (.int (pv_I x1)), some (.int (pv_I xL2_17)), some (.int (pv_I xL3_4)), some (.int (pv_I xL4_17))]) [] h (Q62 τ ρ h a0 x1) := by
        intro nn
        induction nn with
        | zero => intro xL2_17 xL4_17 rL1_17 rL2_17 rL3_17 rL4_17 hm; exfalso; omega
        | succ nn ih17 =>
          intro xL2_17 xL4_17 rL1_17 rL2_17 rL3_17 rL4_17 hm17
          have J52 : ∀ (xL2_52 : Int), ((-2147483648) ≤ x1 ∧ x1 ≤ 2147483647) → ((-2147483648) ≤ xL2_52 ∧ xL2_52 ≤ 2147483647) → (0 ≤ xL3_4 ∧ xL3_4 ≤ 9) → (1 ≤ xL4_17 ∧ xL4_17 ≤ 9) → pv_T K 62 52 (pv_fl [some (.ref a0), some (.int (pv_I x1)), some (.int (pv_I xL2_52)), some (.int (pv_I xL3_4)), some (.int (pv_I xL4_17))]) [] h (Q62 τ ρ h a0 x1) := by
            intro xL2_52 rL1_52 rL2_52 rL3_52 rL4_52
            refine pw_iinc d62_52 m62 rfl rfl rfl ?_
            refine pw_goto d62_55 rfl ?_
            exact ih17 (xL2_52) ((xL4_17 + 1)) (by omega) (by omega) (by omega) (by omega) (by omega)
          refine pw_iload d62_17 rfl ?_
          refine pw_aload_n d62_19 rfl ?_
          refine pw_getI d62_20 g62_41 hT hA0 rfl rfl (fun u20 vu20 => ?_)
          refine pw_icmp_ge d62_23 rfl (by omega) (by omega) (fun c23 => ?_) (fun c23 => ?_)
          · refine pw_iinc d62_58 m62 rfl rfl rfl ?_
            refine pw_goto d62_61 rfl ?_
            exact ih4 (xL2_17) ((xL3_4 + 1)) _ (by omega) (by omega) (by omega) (by omega)
          · refine pw_aload_n d62_26 rfl ?_
            refine pw_iload_n d62_27 rfl ?_
            refine pw_iload d62_28 rfl ?_
            refine pw_callV2 d62_30 k62_94 hT hA0 rfl rfl rfl (ct47 (τ := τ) (ρ := ρ) hT hA0 (by omega) (by omega)) (fun r30 h30 q30 => ?_)
            obtain ⟨eh30, z30, ez30, lz30, uz30, pz30_0⟩ := q30
            subst eh30
            subst ez30
            refine pw_if_eq d62_33 rfl (by omega) (fun c33 => ?_) (fun c33 => ?_)
            · exact J52 (xL2_17) (by omega) (by omega) (by omega) (by omega)
            · refine pw_iload_n d62_36 rfl ?_
              refine pw_iload_n d62_37 rfl ?_
              refine pw_icmp_ne d62_38 rfl (by omega) (by omega) (fun c38 => ?_) (fun c38 => ?_)
              · refine pw_iincU d62_49 m62 rfl rfl rfl (fun z49 hz49 => ?_)
                exact J52 (z49) (by omega) (by omega) (by omega) (by omega)
              · refine pw_bipush d62_41 (by decide) ?_
                refine pw_iload_n d62_43 rfl ?_
                refine pw_imul d62_44 ?_
                refine pw_iload d62_45 rfl ?_
                refine pw_iadd d62_47 ?_
                exact pw_ireturn d62_48 tt62 ⟨rfl, ((10 * xL3_4) + xL4_17), rfl, (by omega), (by omega)⟩
      refine pw_iload_n d62_4 rfl ?_
      refine pw_aload_n d62_5 rfl ?_
      refine pw_getI d62_6 g62_41 hT hA0 rfl rfl (fun u6 vu6 => ?_)
      refine pw_icmp_ge d62_9 rfl (by omega) (by omega) (fun c9 => ?_) (fun c9 => ?_)
      · refine pw_iconst d62_64 ?_
        exact pw_ireturn d62_65 tt62 ⟨rfl, (-1), rfl, (by omega), (by omega)⟩
      · refine pw_iload_n d62_12 rfl ?_
        refine pw_iconst d62_13 ?_
        refine pw_iadd d62_14 ?_
        refine pw_istore d62_15 m62 rfl rfl ?_
        exact L17 _ (xL2_4) ((xL3_4 + 1)) (by omega) (by omega) (by omega) (by omega) (pv_mu _)
  refine pw_iconst d62_0 ?_
  refine pw_istore_n d62_1 m62 rfl rfl ?_
  refine pw_iconst d62_2 ?_
  refine pw_istore_n d62_3 m62 rfl rfl ?_
  exact L4 _ (0) (0) _ (by omega) (by omega) (by omega) (pv_mu _)

abbrev Q88 (τ : Nat → Option Nat) (ρ : Nat → Nat → Nat) (h : pv_H) (a0 : Nat) (x1 : Int) (x2 : Int) (x3 : Int) : Option Value → pv_H → Prop := fun r h' => h = h' ∧ ∃ z : Int, r = some (.int (pv_I z)) ∧ (-1) ≤ z ∧ z ≤ 17
set_option maxHeartbeats 4000000 in
set_option maxRecDepth 20000 in
/-- AngleNet$Net.thirdOn(III)I -/
theorem ct88 {τ : Nat → Option Nat} {ρ : Nat → Nat → Nat} {K : Nat → Nat} {h : pv_H} {a0 : Nat} {x1 : Int} {x2 : Int} {x3 : Int} (hT : pv_Ty τ ρ h) (hA0 : τ a0 = some 2) (hX1 : (-2147483648) ≤ x1 ∧ x1 ≤ 2147483647) (hX2 : (-2147483648) ≤ x2 ∧ x2 ≤ 2147483647) (hX3 : (-2147483648) ≤ x3 ∧ x3 ≤ 2147483647) : pv_C K 88 [.ref a0, .int (pv_I x1), .int (pv_I x2), .int (pv_I x3)] h (Q88 τ ρ h a0 x1 x2 x3) := by
  refine pw_entry 2 ?_
  show pv_T K 88 0 (pv_fl [some (.ref a0), some (.int (pv_I x1)), some (.int (pv_I x2)), some (.int (pv_I x3)), none, none]) [] h (Q88 τ ρ h a0 x1 x2 x3)
  have L16 : ∀ (nn : Nat) (xL4_16 xL5_16 : Int) (o1_16 o2_16 o3_16 : Option Value), ((-2147483648) ≤ xL4_16 ∧ xL4_16 ≤ 2147483647) → (0 ≤ xL5_16 ∧ xL5_16 ≤ 2147483647) → 2147483647 - xL5_16 < nn → pv_T K 88 16 (pv_fl [some (.ref a0), o1_16, o2_16, o3_16, some (.int (pv_I xL4_16)), some (.int (pv_I xL5_16))]) [] h (Q88 τ ρ h a0 x1 x2 x3) := by
    intro nn
    induction nn with
    | zero => intro xL4_16 xL5_16 o1_16 o2_16 o3_16 rL4_16 rL5_16 hm; exfalso; omega
    | succ nn ih16 =>
      intro xL4_16 xL5_16 o1_16 o2_16 o3_16 rL4_16 rL5_16 hm16
      refine pw_iload d88_16 rfl ?_
      refine pw_aload_n d88_18 rfl ?_
      refine pw_getI d88_19 g88_45 hT hA0 rfl rfl (fun u19 vu19 => ?_)
      refine pw_icmp_ge d88_22 rfl (by omega) (by omega) (fun c22 => ?_) (fun c22 => ?_)
      · refine pw_iconst d88_48 ?_
        exact pw_ireturn d88_49 tt88 ⟨rfl, (-1), rfl, (by omega), (by omega)⟩
      · refine pw_aload_n d88_25 rfl ?_
        refine pw_iload d88_26 rfl ?_
        refine pw_callV1 d88_28 k88_82 hT hA0 rfl rfl rfl (ct40 (τ := τ) (ρ := ρ) hT hA0 (by omega)) (fun r28 h28 q28 => ?_)
        obtain ⟨eh28, z28, ez28, lz28, uz28⟩ := q28
        subst eh28
        subst ez28
        refine pw_iload d88_31 rfl ?_
        refine pw_iand d88_33 (fun z33 hz33 ez33 => ?_)
        refine pw_iload d88_34 rfl ?_
        refine pw_icmp_ne d88_36 rfl (by omega) (by omega) (fun c36 => ?_) (fun c36 => ?_)
        · refine pw_iinc d88_42 m88 rfl rfl rfl ?_
          refine pw_goto d88_45 rfl ?_
          exact ih16 (xL4_16) ((xL5_16 + 1)) _ _ _ (by omega) (by omega) (by omega)
        · refine pw_iload d88_39 rfl ?_
          exact pw_ireturn d88_41 tt88 ⟨rfl, xL5_16, rfl, (by omega), (by omega)⟩
  refine pw_iconst d88_0 ?_
  refine pw_iload_n d88_1 rfl ?_
  refine pw_ishl d88_2 (fun z2 hz2 ez2 => ?_)
  refine pw_iconst d88_3 ?_
  refine pw_iload_n d88_4 rfl ?_
  refine pw_ishl d88_5 (fun z5 hz5 ez5 => ?_)
  refine pw_ior d88_6 (fun z6 hz6 ez6 => ?_)
  refine pw_istore d88_7 m88 rfl rfl ?_
  refine pw_iconst d88_9 ?_
  refine pw_iload_n d88_10 rfl ?_
  refine pw_mmax d88_11 k88_100 rfl (by omega) (by omega) (fun z11 pz11 hz11 => ?_)
  refine pw_istore d88_14 m88 rfl rfl ?_
  exact L16 _ (z6) (z11) _ _ _ (by omega) (by omega) (pv_mu _)

abbrev Q76 (τ : Nat → Option Nat) (ρ : Nat → Nat → Nat) (h : pv_H) (x0 : Int) : Option Value → pv_H → Prop := fun r h' => h = h' ∧ ∃ z : Int, r = some (.int (pv_I z)) ∧ 0 ≤ z ∧ z ≤ 32 ∧ (0 < x0 → x0 < 1024 → z ≤ 9)
set_option maxHeartbeats 4000000 in
set_option maxRecDepth 20000 in
/-- AngleNet.lowestBit(I)I -/
theorem ct76 {τ : Nat → Option Nat} {ρ : Nat → Nat → Nat} {K : Nat → Nat} {h : pv_H} {x0 : Int} (hX0 : (-2147483648) ≤ x0 ∧ x0 ≤ 2147483647) : pv_C K 76 [.int (pv_I x0)] h (Q76 τ ρ h x0) := by
  refine pw_entry 1 ?_
  show pv_T K 76 0 (pv_fl [some (.int (pv_I x0)), none]) [] h (Q76 τ ρ h x0)
  have L2 : ∀ (nn : Nat) (xL1_2 : Int), ((-2147483648) ≤ x0 ∧ x0 ≤ 2147483647) → (0 ≤ xL1_2 ∧ xL1_2 ≤ 32) → (x0 % ((2 ^ (xL1_2).toNat : Nat) : Int) = 0) → 32 - xL1_2 < nn → pv_T K 76 2 (pv_fl [some (.int (pv_I x0)), some (.int (pv_I xL1_2))]) [] h (Q76 τ ρ h x0) := by
    intro nn
    induction nn with
    | zero => intro xL1_2 rL0_2 rL1_2 i0_2 hm; exfalso; omega
    | succ nn ih2 =>
      intro xL1_2 rL0_2 rL1_2 i0_2 hm2
      refine pw_iload_n d76_2 rfl ?_
      refine pw_bipush d76_3 (by decide) ?_
      refine pw_icmp_ge d76_5 rfl (by omega) (by omega) (fun c5 => ?_) (fun c5 => ?_)
      · refine pw_bipush d76_24 (by decide) ?_
        exact pw_ireturn d76_26 tt76 ⟨rfl, 32, rfl, (by omega), (by omega), (by intro hp hq; have hz := pv_low_end (by omega) i0_2 hp hq; omega)⟩
      · refine pw_iload_n d76_8 rfl ?_
        refine pw_iload_n d76_9 rfl ?_
        refine pw_ishr d76_10 (fun z10 hz10 ez10 => ?_)
        refine pw_iconst d76_11 ?_
        refine pw_iand d76_12 (fun z12 hz12 ez12 => ?_)
        have bz12 := pv_and1_b hz12 ez12
        have hb13 := pv_bit (x := x0) (i := xL1_2) (by omega) (by omega) (by omega) hz10 hz12 ez10 ez12
        refine pw_if_eq d76_13 rfl (by omega) (fun c13 => ?_) (fun c13 => ?_)
        · refine pw_iinc d76_18 m76 rfl rfl rfl ?_
          refine pw_goto d76_21 rfl ?_
          exact ih2 ((xL1_2 + 1)) (by omega) (by omega) (by first | (simp; done) | exact pv_low_step (by omega) i0_2 (by rw [← hb13.2]; omega)) (by omega)
        · refine pw_iload_n d76_16 rfl ?_
          exact pw_ireturn d76_17 tt76 ⟨rfl, xL1_2, rfl, (by omega), (by omega), (by intro hp hq; have hz := pv_low_end (by omega) i0_2 hp hq; omega)⟩
  refine pw_iconst d76_0 ?_
  refine pw_istore_n d76_1 m76 rfl rfl ?_
  exact L2 _ (0) (by omega) (by omega) (by first | (simp; done) | exact pv_low_step (by omega) i0_2 (by rw [← hb13.2]; omega)) (pv_mu _)

abbrev Q102 (τ : Nat → Option Nat) (ρ : Nat → Nat → Nat) (h : pv_H) (x0 : Int) (x1 : Int) : Option Value → pv_H → Prop := fun r h' => h = h' ∧ ∃ z : Int, r = some (.int (pv_I z)) ∧ 0 ≤ z ∧ z ≤ 1
set_option maxHeartbeats 4000000 in
set_option maxRecDepth 20000 in
/-- AngleNet.isLesser(II)Z -/
theorem ct102 {τ : Nat → Option Nat} {ρ : Nat → Nat → Nat} {K : Nat → Nat} {h : pv_H} {x0 : Int} {x1 : Int} (hX0 : (-2147483648) ≤ x0 ∧ x0 ≤ 2147483647) (hX1 : (-2147483648) ≤ x1 ∧ x1 ≤ 2147483647) : pv_C K 102 [.int (pv_I x0), .int (pv_I x1)] h (Q102 τ ρ h x0 x1) := by
  refine pw_entry 1 ?_
  show pv_T K 102 0 (pv_fl [some (.int (pv_I x0)), some (.int (pv_I x1)), none]) [] h (Q102 τ ρ h x0 x1)
  refine pw_iload_n d102_0 rfl ?_
  refine pw_callS1 d102_1 k102_367 rfl rfl (ct67 (τ := τ) (ρ := ρ) (by omega)) (fun r1 h1 q1 => ?_)
  obtain ⟨eh1, z1, ez1, lz1, uz1⟩ := q1
  subst eh1
  subst ez1
  refine pw_iload_n d102_4 rfl ?_
  refine pw_callS1 d102_5 k102_367 rfl rfl (ct67 (τ := τ) (ρ := ρ) (by omega)) (fun r5 h5 q5 => ?_)
  obtain ⟨eh5, z5, ez5, lz5, uz5⟩ := q5
  subst eh5
  subst ez5
  refine pw_isub d102_8 ?_
  refine pw_any (fun z9 hz9 ez9 => ?_)
  refine pw_istore_n d102_9 m102 rfl rfl ?_
  refine pw_iload_n d102_10 rfl ?_
  refine pw_if_lt d102_11 rfl (by omega) (fun c11 => ?_) (fun c11 => ?_)
  · refine pw_iconst d102_23 ?_
    refine pw_goto d102_24 rfl ?_
    exact pw_zreturn d102_28 tt102 (by omega) ⟨rfl, 1, rfl, (by omega), (by omega)⟩
  · refine pw_iload_n d102_14 rfl ?_
    refine pw_if_ne d102_15 rfl (by omega) (fun c15 => ?_) (fun c15 => ?_)
    · refine pw_iconst d102_27 ?_
      exact pw_zreturn d102_28 tt102 (by omega) ⟨rfl, 0, rfl, (by omega), (by omega)⟩
    · refine pw_iload_n d102_18 rfl ?_
      refine pw_iload_n d102_19 rfl ?_
      refine pw_icmp_ge d102_20 rfl (by omega) (by omega) (fun c20 => ?_) (fun c20 => ?_)
      · refine pw_iconst d102_27 ?_
        exact pw_zreturn d102_28 tt102 (by omega) ⟨rfl, 0, rfl, (by omega), (by omega)⟩
      · refine pw_iconst d102_23 ?_
        refine pw_goto d102_24 rfl ?_
        exact pw_zreturn d102_28 tt102 (by omega) ⟨rfl, 1, rfl, (by omega), (by omega)⟩

abbrev Q117 (τ : Nat → Option Nat) (ρ : Nat → Nat → Nat) (h : pv_H) (x0 : Int) : Option Value → pv_H → Prop := fun r h' => h = h' ∧ ∃ z : Int, r = some (.int (pv_I z)) ∧ (-1) ≤ z ∧ z ≤ 1
set_option maxHeartbeats 4000000 in
set_option maxRecDepth 20000 in
/-- AngleNet.signOf(J)I -/
theorem ct117 {τ : Nat → Option Nat} {ρ : Nat → Nat → Nat} {K : Nat → Nat} {h : pv_H} {x0 : Int} (hX0 : (-9223372036854775808) ≤ x0 ∧ x0 ≤ 9223372036854775807) : pv_C K 117 [.long (pv_J x0)] h (Q117 τ ρ h x0) := by
  refine pw_entry 0 ?_
  show pv_T K 117 0 (pv_fl [some (.long (pv_J x0)), none]) [] h (Q117 τ ρ h x0)
  refine pw_lload_n d117_0 rfl ?_
  refine pw_lconst (z := 0) d117_1 (by decide) ?_
  refine pw_lcmp d117_2 (by omega) (by omega) (fun z2 ez2 => ?_)
  refine pw_if_ne d117_3 rfl (by omega) (fun c3 => ?_) (fun c3 => ?_)
  · refine pw_lload_n d117_8 rfl ?_
    refine pw_lconst (z := 0) d117_9 (by decide) ?_
    refine pw_lcmp d117_10 (by omega) (by omega) (fun z10 ez10 => ?_)
    refine pw_if_le d117_11 rfl (by omega) (fun c11 => ?_) (fun c11 => ?_)
    · refine pw_iconst d117_18 ?_
      exact pw_ireturn d117_19 tt117 ⟨rfl, (-1), rfl, (by omega), (by omega)⟩
    · refine pw_iconst d117_14 ?_
      refine pw_goto d117_15 rfl ?_
      exact pw_ireturn d117_19 tt117 ⟨rfl, 1, rfl, (by omega), (by omega)⟩
  · refine pw_iconst d117_6 ?_
    exact pw_ireturn d117_7 tt117 ⟨rfl, 0, rfl, (by omega), (by omega)⟩

abbrev Q90 (τ : Nat → Option Nat) (ρ : Nat → Nat → Nat) (h : pv_H) (a0 : Nat) (x1 : Int) (x2 : Int) (x3 : Int) : Option Value → pv_H → Prop := fun r h' => h = h' ∧ ∃ z : Int, r = some (.int (pv_I z)) ∧ 0 ≤ z ∧ z ≤ 32
set_option maxHeartbeats 4000000 in
set_option maxRecDepth 20000 in
/-- AngleNet$Net.otherPost(III)I -/
theorem ct90 {τ : Nat → Option Nat} {ρ : Nat → Nat → Nat} {K : Nat → Nat} {h : pv_H} {a0 : Nat} {x1 : Int} {x2 : Int} {x3 : Int} (hT : pv_Ty τ ρ h) (hA0 : τ a0 = some 2) (hX1 : 0 ≤ x1 ∧ x1 ≤ 17) (hX2 : (-2147483648) ≤ x2 ∧ x2 ≤ 2147483647) (hX3 : (-2147483648) ≤ x3 ∧ x3 ≤ 2147483647) : pv_C K 90 [.ref a0, .int (pv_I x1), .int (pv_I x2), .int (pv_I x3)] h (Q90 τ ρ h a0 x1 x2 x3) := by
  refine pw_entry 0 ?_
  show pv_T K 90 0 (pv_fl [some (.ref a0), some (.int (pv_I x1)), some (.int (pv_I x2)), some (.int (pv_I x3))]) [] h (Q90 τ ρ h a0 x1 x2 x3)
  refine pw_aload_n d90_0 rfl ?_
  refine pw_iload_n d90_1 rfl ?_
  refine pw_callV1 d90_2 k90_82 hT hA0 rfl rfl rfl (ct40 (τ := τ) (ρ := ρ) hT hA0 (by omega)) (fun r2 h2 q2 => ?_)
  obtain ⟨eh2, z2, ez2, lz2, uz2⟩ := q2
  subst eh2
  subst ez2
  refine pw_iconst d90_5 ?_
  refine pw_iload_n d90_6 rfl ?_
  refine pw_ishl d90_7 (fun z7 hz7 ez7 => ?_)
  refine pw_iconst d90_8 ?_
  refine pw_iload_n d90_9 rfl ?_
  refine pw_ishl d90_10 (fun z10 hz10 ez10 => ?_)
  refine pw_ior d90_11 (fun z11 hz11 ez11 => ?_)
  refine pw_iconst d90_12 ?_
  refine pw_ixor d90_13 (fun z13 hz13 ez13 => ?_)
  refine pw_iand d90_14 (fun z14 hz14 ez14 => ?_)
  refine pw_callS1 d90_15 k90_106 rfl rfl (ct76 (τ := τ) (ρ := ρ) (by omega)) (fun r15 h15 q15 => ?_)
  obtain ⟨eh15, z15, ez15, lz15, uz15, pz15_0⟩ := q15
  subst eh15
  subst ez15
  exact pw_ireturn d90_18 tt90 ⟨rfl, z15, rfl, (by omega), (by omega)⟩

abbrev Q172 (τ : Nat → Option Nat) (ρ : Nat → Nat → Nat) (h : pv_H) (a0 : Nat) : Option Value → pv_H → Prop := fun r h' => h = h' ∧ ∃ z : Int, r = some (.int (pv_I z)) ∧ 0 ≤ z ∧ z ≤ 1023
set_option maxHeartbeats 4000000 in
set_option maxRecDepth 20000 in
/-- AngleNet$Net.placedPosts()I -/
theorem ct172 {τ : Nat → Option Nat} {ρ : Nat → Nat → Nat} {K : Nat → Nat} {h : pv_H} {a0 : Nat} (hT : pv_Ty τ ρ h) (hA0 : τ a0 = some 2) : pv_C K 172 [.ref a0] h (Q172 τ ρ h a0) := by
  refine pw_entry 2 ?_
  show pv_T K 172 0 (pv_fl [some (.ref a0), none, none]) [] h (Q172 τ ρ h a0)
  have L4 : ∀ (nn : Nat) (xL1_4 xL2_4 : Int), (0 ≤ xL1_4 ∧ xL1_4 ≤ 1023) → (0 ≤ xL2_4 ∧ xL2_4 ≤ 10) → 10 - xL2_4 < nn → pv_T K 172 4 (pv_fl [some (.ref a0), some (.int (pv_I xL1_4)), some (.int (pv_I xL2_4))]) [] h (Q172 τ ρ h a0) := by
    intro nn
    induction nn with
    | zero => intro xL1_4 xL2_4 rL1_4 rL2_4 hm; exfalso; omega
    | succ nn ih4 =>
      intro xL1_4 xL2_4 rL1_4 rL2_4 hm4
      have J30 : ∀ (xS0_30 : Int) (o1_30 : Option Value), (0 ≤ xL2_4 ∧ xL2_4 ≤ 9) → (0 ≤ xS0_30 ∧ xS0_30 ≤ 540) → (0 ≤ xL1_4 ∧ xL1_4 ≤ 1023) → pv_T K 172 30 (pv_fl [some (.ref a0), o1_30, some (.int (pv_I xL2_4))]) [.int (pv_I xS0_30), .int (pv_I xL1_4)] h (Q172 τ ρ h a0) := by
        intro xS0_30 o1_30 rL2_30 rS0_30 rS1_30
        refine pw_ior d172_30 (fun z30 hz30 ez30 => ?_)
        have bz30 := pv_or_b (n := 10) (m := 1024) (x := xL1_4) (y := xS0_30) (by omega) (by omega) (by omega) (by omega) (by decide) (by decide) hz30 ez30
        refine pw_istore_n d172_31 m172 rfl rfl ?_
        refine pw_iinc d172_32 m172 rfl rfl rfl ?_
        refine pw_goto d172_35 rfl ?_
        exact ih4 (z30) ((xL2_4 + 1)) (by omega) (by omega) (by omega)
      refine pw_iload_n d172_4 rfl ?_
      refine pw_aload_n d172_5 rfl ?_
      refine pw_getI d172_6 g172_41 hT hA0 rfl rfl (fun u6 vu6 => ?_)
      refine pw_icmp_ge d172_9 rfl (by omega) (by omega) (fun c9 => ?_) (fun c9 => ?_)
      · refine pw_iload_n d172_38 rfl ?_
        exact pw_ireturn d172_39 tt172 ⟨rfl, xL1_4, rfl, (by omega), (by omega)⟩
      · refine pw_iload_n d172_12 rfl ?_
        refine pw_aload_n d172_13 rfl ?_
        refine pw_getR d172_14 g172_21 hT hA0 rfl rfl (fun t14 => ?_)
        have t14 : τ (ρ a0 8) = some 23 := t14
        refine pw_iload_n d172_17 rfl ?_
        refine pw_iald d172_18 hT t14 rfl rfl (by omega) (by omega) (fun u18 vu18 => ?_)
        refine pw_iconst d172_19 ?_
        refine pw_icmp_eq d172_20 rfl (by omega) (by omega) (fun c20 => ?_) (fun c20 => ?_)
        · refine pw_iconst d172_29 ?_
          exact J30 (0) _ (by omega) (by omega) (by omega)
        · refine pw_iconst d172_23 ?_
          refine pw_iload_n d172_24 rfl ?_
          refine pw_ishl d172_25 (fun z25 hz25 ez25 => ?_)
          have bz25 := pv_shl1_b (n := 9) (m := 512) (y := xL2_4) (by omega) (by omega) (by decide) (by decide) hz25 ez25
          refine pw_goto d172_26 rfl ?_
          exact J30 (z25) _ (by omega) (by omega) (by omega)
  refine pw_iconst d172_0 ?_
  refine pw_istore_n d172_1 m172 rfl rfl ?_
  refine pw_iconst d172_2 ?_
  refine pw_istore_n d172_3 m172 rfl rfl ?_
  exact L4 _ (0) (0) (by omega) (by omega) (pv_mu _)

abbrev Q14v22 (τ : Nat → Option Nat) (ρ : Nat → Nat → Nat) (h : pv_H) (a0 : Nat) (x1 : Int) : Option Value → pv_H → Prop := fun r h' => pv_Ty τ ρ h' ∧ pv_Fr τ [1471] h h' ∧ r = none
set_option maxHeartbeats 4000000 in
set_option maxRecDepth 20000 in
/-- java/util/Arrays.fill([II)V -/
theorem ct14v22 {τ : Nat → Option Nat} {ρ : Nat → Nat → Nat} {K : Nat → Nat} {h : pv_H} {a0 : Nat} {x1 : Int} (hT : pv_Ty τ ρ h) (hA0 : τ a0 = some 22) (hX1 : (-1) ≤ x1 ∧ x1 ≤ (-1)) : pv_C K 14 [.ref a0, .int (pv_I x1)] h (Q14v22 τ ρ h a0 x1) := by
  refine pw_entry 2 ?_
  show pv_T K 14 0 (pv_fl [some (.ref a0), some (.int (pv_I x1)), none, none]) [] h (Q14v22 τ ρ h a0 x1)
  have hF0 : pv_Fr τ [1471] h h := pv_Fr.rf
  have L5 : ∀ (nn : Nat) (h_5 : pv_H) (xL2_5 xL3_5 : Int), (pv_Ty τ ρ h_5) → (pv_Fr τ [1471] h h_5) → ((-1) ≤ x1 ∧ x1 ≤ (-1)) → (0 ≤ xL2_5 ∧ xL2_5 ≤ 10) → (10 ≤ xL3_5 ∧ xL3_5 ≤ 10) → 10 - xL2_5 < nn → pv_T K 14 5 (pv_fl [some (.ref a0), some (.int (pv_I x1)), some (.int (pv_I xL2_5)), some (.int (pv_I xL3_5))]) [] h_5 (Q14v22 τ ρ h a0 x1) := by
    intro nn
    induction nn with
    | zero => intro h_5 xL2_5 xL3_5 hT_5 hF_5 rL1_5 rL2_5 rL3_5 hm; exfalso; omega
    | succ nn ih5 =>
      intro h_5 xL2_5 xL3_5 hT_5 hF_5 rL1_5 rL2_5 rL3_5 hm5
      refine pw_iload_n d14_5 rfl ?_
      refine pw_iload_n d14_6 rfl ?_
      refine pw_icmp_ge d14_7 rfl (by omega) (by omega) (fun c7 => ?_) (fun c7 => ?_)
      · exact pw_return d14_20 tt14 ⟨hT_5, hF_5, rfl⟩
      · refine pw_aload_n d14_10 rfl ?_
        refine pw_iload_n d14_11 rfl ?_
        refine pw_iload_n d14_12 rfl ?_
        refine pw_iast d14_13 hT_5 hA0 rfl rfl rfl (by omega) (by omega) (by omega) (by omega) (fun h13 T13 F13 E13 => ?_)
        have f13 := hF_5.tr (F13.up (by decide))
        refine pw_iinc d14_14 m14 rfl rfl rfl ?_
        refine pw_goto d14_17 rfl ?_
        exact ih5 h13 ((xL2_5 + 1)) (xL3_5) T13 f13 (by omega) (by omega) (by omega) (by omega)
  refine pw_iconst d14_0 ?_
  refine pw_istore_n d14_1 m14 rfl rfl ?_
  refine pw_aload_n d14_2 rfl ?_
  refine pw_alen d14_3 hT hA0 rfl (by decide) ?_
  refine pw_istore_n d14_4 m14 rfl rfl ?_
  exact L5 _ h (0) (((10 : Nat) : Int)) hT hF0 (by omega) (by omega) (by omega) (pv_mu _)

abbrev Q14v23 (τ : Nat → Option Nat) (ρ : Nat → Nat → Nat) (h : pv_H) (a0 : Nat) (x1 : Int) : Option Value → pv_H → Prop := fun r h' => pv_Ty τ ρ h' ∧ pv_Fr τ [1535] h h' ∧ r = none
set_option maxHeartbeats 4000000 in
set_option maxRecDepth 20000 in
/-- java/util/Arrays.fill([II)V -/
theorem ct14v23 {τ : Nat → Option Nat} {ρ : Nat → Nat → Nat} {K : Nat → Nat} {h : pv_H} {a0 : Nat} {x1 : Int} (hT : pv_Ty τ ρ h) (hA0 : τ a0 = some 23) (hX1 : (-1) ≤ x1 ∧ x1 ≤ (-1)) : pv_C K 14 [.ref a0, .int (pv_I x1)] h (Q14v23 τ ρ h a0 x1) := by
  refine pw_entry 2 ?_
  show pv_T K 14 0 (pv_fl [some (.ref a0), some (.int (pv_I x1)), none, none]) [] h (Q14v23 τ ρ h a0 x1)
  have hF0 : pv_Fr τ [1535] h h := pv_Fr.rf
  have L5 : ∀ (nn : Nat) (h_5 : pv_H) (xL2_5 xL3_5 : Int), (pv_Ty τ ρ h_5) → (pv_Fr τ [1535] h h_5) → ((-1) ≤ x1 ∧ x1 ≤ (-1)) → (0 ≤ xL2_5 ∧ xL2_5 ≤ 10) → (10 ≤ xL3_5 ∧ xL3_5 ≤ 10) → 10 - xL2_5 < nn → pv_T K 14 5 (pv_fl [some (.ref a0), some (.int (pv_I x1)), some (.int (pv_I xL2_5)), some (.int (pv_I xL3_5))]) [] h_5 (Q14v23 τ ρ h a0 x1) := by
    intro nn
    induction nn with
    | zero => intro h_5 xL2_5 xL3_5 hT_5 hF_5 rL1_5 rL2_5 rL3_5 hm; exfalso; omega
    | succ nn ih5 =>
      intro h_5 xL2_5 xL3_5 hT_5 hF_5 rL1_5 rL2_5 rL3_5 hm5
      refine pw_iload_n d14_5 rfl ?_
      refine pw_iload_n d14_6 rfl ?_
      refine pw_icmp_ge d14_7 rfl (by omega) (by omega) (fun c7 => ?_) (fun c7 => ?_)
      · exact pw_return d14_20 tt14 ⟨hT_5, hF_5, rfl⟩
      · refine pw_aload_n d14_10 rfl ?_
        refine pw_iload_n d14_11 rfl ?_
        refine pw_iload_n d14_12 rfl ?_
        refine pw_iast d14_13 hT_5 hA0 rfl rfl rfl (by omega) (by omega) (by omega) (by omega) (fun h13 T13 F13 E13 => ?_)
        have f13 := hF_5.tr (F13.up (by decide))
        refine pw_iinc d14_14 m14 rfl rfl rfl ?_
        refine pw_goto d14_17 rfl ?_
        exact ih5 h13 ((xL2_5 + 1)) (xL3_5) T13 f13 (by omega) (by omega) (by omega) (by omega)
  refine pw_iconst d14_0 ?_
  refine pw_istore_n d14_1 m14 rfl rfl ?_
  refine pw_aload_n d14_2 rfl ?_
  refine pw_alen d14_3 hT hA0 rfl (by decide) ?_
  refine pw_istore_n d14_4 m14 rfl rfl ?_
  exact L5 _ h (0) (((10 : Nat) : Int)) hT hF0 (by omega) (by omega) (by omega) (pv_mu _)

abbrev Q14v24 (τ : Nat → Option Nat) (ρ : Nat → Nat → Nat) (h : pv_H) (a0 : Nat) (x1 : Int) : Option Value → pv_H → Prop := fun r h' => pv_Ty τ ρ h' ∧ pv_Fr τ [1599] h h' ∧ r = none
set_option maxHeartbeats 4000000 in
set_option maxRecDepth 20000 in
/-- java/util/Arrays.fill([II)V -/
theorem ct14v24 {τ : Nat → Option Nat} {ρ : Nat → Nat → Nat} {K : Nat → Nat} {h : pv_H} {a0 : Nat} {x1 : Int} (hT : pv_Ty τ ρ h) (hA0 : τ a0 = some 24) (hX1 : (-1) ≤ x1 ∧ x1 ≤ (-1)) : pv_C K 14 [.ref a0, .int (pv_I x1)] h (Q14v24 τ ρ h a0 x1) := by
  refine pw_entry 2 ?_
  show pv_T K 14 0 (pv_fl [some (.ref a0), some (.int (pv_I x1)), none, none]) [] h (Q14v24 τ ρ h a0 x1)
  have hF0 : pv_Fr τ [1599] h h := pv_Fr.rf
  have L5 : ∀ (nn : Nat) (h_5 : pv_H) (xL2_5 xL3_5 : Int), (pv_Ty τ ρ h_5) → (pv_Fr τ [1599] h h_5) → ((-1) ≤ x1 ∧ x1 ≤ (-1)) → (0 ≤ xL2_5 ∧ xL2_5 ≤ 10) → (10 ≤ xL3_5 ∧ xL3_5 ≤ 10) → 10 - xL2_5 < nn → pv_T K 14 5 (pv_fl [some (.ref a0), some (.int (pv_I x1)), some (.int (pv_I xL2_5)), some (.int (pv_I xL3_5))]) [] h_5 (Q14v24 τ ρ h a0 x1) := by
    intro nn
    induction nn with
    | zero => intro h_5 xL2_5 xL3_5 hT_5 hF_5 rL1_5 rL2_5 rL3_5 hm; exfalso; omega
    | succ nn ih5 =>
      intro h_5 xL2_5 xL3_5 hT_5 hF_5 rL1_5 rL2_5 rL3_5 hm5
      refine pw_iload_n d14_5 rfl ?_
      refine pw_iload_n d14_6 rfl ?_
      refine pw_icmp_ge d14_7 rfl (by omega) (by omega) (fun c7 => ?_) (fun c7 => ?_)
      · exact pw_return d14_20 tt14 ⟨hT_5, hF_5, rfl⟩
      · refine pw_aload_n d14_10 rfl ?_
        refine pw_iload_n d14_11 rfl ?_
        refine pw_iload_n d14_12 rfl ?_
        refine pw_iast d14_13 hT_5 hA0 rfl rfl rfl (by omega) (by omega) (by omega) (by omega) (fun h13 T13 F13 E13 => ?_)
        have f13 := hF_5.tr (F13.up (by decide))
        refine pw_iinc d14_14 m14 rfl rfl rfl ?_
        refine pw_goto d14_17 rfl ?_
        exact ih5 h13 ((xL2_5 + 1)) (xL3_5) T13 f13 (by omega) (by omega) (by omega) (by omega)
  refine pw_iconst d14_0 ?_
  refine pw_istore_n d14_1 m14 rfl rfl ?_
  refine pw_aload_n d14_2 rfl ?_
  refine pw_alen d14_3 hT hA0 rfl (by decide) ?_
  refine pw_istore_n d14_4 m14 rfl rfl ?_
  exact L5 _ h (0) (((10 : Nat) : Int)) hT hF0 (by omega) (by omega) (by omega) (pv_mu _)

abbrev Q14v25 (τ : Nat → Option Nat) (ρ : Nat → Nat → Nat) (h : pv_H) (a0 : Nat) (x1 : Int) : Option Value → pv_H → Prop := fun r h' => pv_Ty τ ρ h' ∧ pv_Fr τ [1663] h h' ∧ r = none
set_option maxHeartbeats 4000000 in
set_option maxRecDepth 20000 in
/-- java/util/Arrays.fill([II)V -/
theorem ct14v25 {τ : Nat → Option Nat} {ρ : Nat → Nat → Nat} {K : Nat → Nat} {h : pv_H} {a0 : Nat} {x1 : Int} (hT : pv_Ty τ ρ h) (hA0 : τ a0 = some 25) (hX1 : (-1) ≤ x1 ∧ x1 ≤ (-1)) : pv_C K 14 [.ref a0, .int (pv_I x1)] h (Q14v25 τ ρ h a0 x1) := by
  refine pw_entry 2 ?_
  show pv_T K 14 0 (pv_fl [some (.ref a0), some (.int (pv_I x1)), none, none]) [] h (Q14v25 τ ρ h a0 x1)
  have hF0 : pv_Fr τ [1663] h h := pv_Fr.rf
  have L5 : ∀ (nn : Nat) (h_5 : pv_H) (xL2_5 xL3_5 : Int), (pv_Ty τ ρ h_5) → (pv_Fr τ [1663] h h_5) → ((-1) ≤ x1 ∧ x1 ≤ (-1)) → (0 ≤ xL2_5 ∧ xL2_5 ≤ 10) → (10 ≤ xL3_5 ∧ xL3_5 ≤ 10) → 10 - xL2_5 < nn → pv_T K 14 5 (pv_fl [some (.ref a0), some (.int (pv_I x1)), some (.int (pv_I xL2_5)), some (.int (pv_I xL3_5))]) [] h_5 (Q14v25 τ ρ h a0 x1) := by
    intro nn
    induction nn with
    | zero => intro h_5 xL2_5 xL3_5 hT_5 hF_5 rL1_5 rL2_5 rL3_5 hm; exfalso; omega
    | succ nn ih5 =>
      intro h_5 xL2_5 xL3_5 hT_5 hF_5 rL1_5 rL2_5 rL3_5 hm5
      refine pw_iload_n d14_5 rfl ?_
      refine pw_iload_n d14_6 rfl ?_
      refine pw_icmp_ge d14_7 rfl (by omega) (by omega) (fun c7 => ?_) (fun c7 => ?_)
      · exact pw_return d14_20 tt14 ⟨hT_5, hF_5, rfl⟩
      · refine pw_aload_n d14_10 rfl ?_
        refine pw_iload_n d14_11 rfl ?_
        refine pw_iload_n d14_12 rfl ?_
        refine pw_iast d14_13 hT_5 hA0 rfl rfl rfl (by omega) (by omega) (by omega) (by omega) (fun h13 T13 F13 E13 => ?_)
        have f13 := hF_5.tr (F13.up (by decide))
        refine pw_iinc d14_14 m14 rfl rfl rfl ?_
        refine pw_goto d14_17 rfl ?_
        exact ih5 h13 ((xL2_5 + 1)) (xL3_5) T13 f13 (by omega) (by omega) (by omega) (by omega)
  refine pw_iconst d14_0 ?_
  refine pw_istore_n d14_1 m14 rfl rfl ?_
  refine pw_aload_n d14_2 rfl ?_
  refine pw_alen d14_3 hT hA0 rfl (by decide) ?_
  refine pw_istore_n d14_4 m14 rfl rfl ?_
  exact L5 _ h (0) (((10 : Nat) : Int)) hT hF0 (by omega) (by omega) (by omega) (pv_mu _)

abbrev Q14v26 (τ : Nat → Option Nat) (ρ : Nat → Nat → Nat) (h : pv_H) (a0 : Nat) (x1 : Int) : Option Value → pv_H → Prop := fun r h' => pv_Ty τ ρ h' ∧ pv_Fr τ [1727] h h' ∧ r = none
set_option maxHeartbeats 4000000 in
set_option maxRecDepth 20000 in
/-- java/util/Arrays.fill([II)V -/
theorem ct14v26 {τ : Nat → Option Nat} {ρ : Nat → Nat → Nat} {K : Nat → Nat} {h : pv_H} {a0 : Nat} {x1 : Int} (hT : pv_Ty τ ρ h) (hA0 : τ a0 = some 26) (hX1 : 0 ≤ x1 ∧ x1 ≤ 0) : pv_C K 14 [.ref a0, .int (pv_I x1)] h (Q14v26 τ ρ h a0 x1) := by
  refine pw_entry 2 ?_
  show pv_T K 14 0 (pv_fl [some (.ref a0), some (.int (pv_I x1)), none, none]) [] h (Q14v26 τ ρ h a0 x1)
  have hF0 : pv_Fr τ [1727] h h := pv_Fr.rf
  have L5 : ∀ (nn : Nat) (h_5 : pv_H) (xL2_5 xL3_5 : Int), (pv_Ty τ ρ h_5) → (pv_Fr τ [1727] h h_5) → (0 ≤ x1 ∧ x1 ≤ 0) → (0 ≤ xL2_5 ∧ xL2_5 ≤ 100) → (100 ≤ xL3_5 ∧ xL3_5 ≤ 100) → 100 - xL2_5 < nn → pv_T K 14 5 (pv_fl [some (.ref a0), some (.int (pv_I x1)), some (.int (pv_I xL2_5)), some (.int (pv_I xL3_5))]) [] h_5 (Q14v26 τ ρ h a0 x1) := by
    intro nn
    induction nn with
    | zero => intro h_5 xL2_5 xL3_5 hT_5 hF_5 rL1_5 rL2_5 rL3_5 hm; exfalso; omega
    | succ nn ih5 =>
      intro h_5 xL2_5 xL3_5 hT_5 hF_5 rL1_5 rL2_5 rL3_5 hm5
      refine pw_iload_n d14_5 rfl ?_
      refine pw_iload_n d14_6 rfl ?_
      refine pw_icmp_ge d14_7 rfl (by omega) (by omega) (fun c7 => ?_) (fun c7 => ?_)
      · exact pw_return d14_20 tt14 ⟨hT_5, hF_5, rfl⟩
      · refine pw_aload_n d14_10 rfl ?_
        refine pw_iload_n d14_11 rfl ?_
        refine pw_iload_n d14_12 rfl ?_
        refine pw_iast d14_13 hT_5 hA0 rfl rfl rfl (by omega) (by omega) (by omega) (by omega) (fun h13 T13 F13 E13 => ?_)
        have f13 := hF_5.tr (F13.up (by decide))
        refine pw_iinc d14_14 m14 rfl rfl rfl ?_
        refine pw_goto d14_17 rfl ?_
        exact ih5 h13 ((xL2_5 + 1)) (xL3_5) T13 f13 (by omega) (by omega) (by omega) (by omega)
  refine pw_iconst d14_0 ?_
  refine pw_istore_n d14_1 m14 rfl rfl ?_
  refine pw_aload_n d14_2 rfl ?_
  refine pw_alen d14_3 hT hA0 rfl (by decide) ?_
  refine pw_istore_n d14_4 m14 rfl rfl ?_
  exact L5 _ h (0) (((100 : Nat) : Int)) hT hF0 (by omega) (by omega) (by omega) (pv_mu _)

abbrev Q14v27 (τ : Nat → Option Nat) (ρ : Nat → Nat → Nat) (h : pv_H) (a0 : Nat) (x1 : Int) : Option Value → pv_H → Prop := fun r h' => pv_Ty τ ρ h' ∧ pv_Fr τ [1791] h h' ∧ r = none
set_option maxHeartbeats 4000000 in
set_option maxRecDepth 20000 in
/-- java/util/Arrays.fill([II)V -/
theorem ct14v27 {τ : Nat → Option Nat} {ρ : Nat → Nat → Nat} {K : Nat → Nat} {h : pv_H} {a0 : Nat} {x1 : Int} (hT : pv_Ty τ ρ h) (hA0 : τ a0 = some 27) (hX1 : 0 ≤ x1 ∧ x1 ≤ 0) : pv_C K 14 [.ref a0, .int (pv_I x1)] h (Q14v27 τ ρ h a0 x1) := by
  refine pw_entry 2 ?_
  show pv_T K 14 0 (pv_fl [some (.ref a0), some (.int (pv_I x1)), none, none]) [] h (Q14v27 τ ρ h a0 x1)
  have hF0 : pv_Fr τ [1791] h h := pv_Fr.rf
  have L5 : ∀ (nn : Nat) (h_5 : pv_H) (xL2_5 xL3_5 : Int), (pv_Ty τ ρ h_5) → (pv_Fr τ [1791] h h_5) → (0 ≤ x1 ∧ x1 ≤ 0) → (0 ≤ xL2_5 ∧ xL2_5 ≤ 100) → (100 ≤ xL3_5 ∧ xL3_5 ≤ 100) → 100 - xL2_5 < nn → pv_T K 14 5 (pv_fl [some (.ref a0), some (.int (pv_I x1)), some (.int (pv_I xL2_5)), some (.int (pv_I xL3_5))]) [] h_5 (Q14v27 τ ρ h a0 x1) := by
    intro nn
    induction nn with
    | zero => intro h_5 xL2_5 xL3_5 hT_5 hF_5 rL1_5 rL2_5 rL3_5 hm; exfalso; omega
    | succ nn ih5 =>
      intro h_5 xL2_5 xL3_5 hT_5 hF_5 rL1_5 rL2_5 rL3_5 hm5
      refine pw_iload_n d14_5 rfl ?_
      refine pw_iload_n d14_6 rfl ?_
      refine pw_icmp_ge d14_7 rfl (by omega) (by omega) (fun c7 => ?_) (fun c7 => ?_)
      · exact pw_return d14_20 tt14 ⟨hT_5, hF_5, rfl⟩
      · refine pw_aload_n d14_10 rfl ?_
        refine pw_iload_n d14_11 rfl ?_
        refine pw_iload_n d14_12 rfl ?_
        refine pw_iast d14_13 hT_5 hA0 rfl rfl rfl (by omega) (by omega) (by omega) (by omega) (fun h13 T13 F13 E13 => ?_)
        have f13 := hF_5.tr (F13.up (by decide))
        refine pw_iinc d14_14 m14 rfl rfl rfl ?_
        refine pw_goto d14_17 rfl ?_
        exact ih5 h13 ((xL2_5 + 1)) (xL3_5) T13 f13 (by omega) (by omega) (by omega) (by omega)
  refine pw_iconst d14_0 ?_
  refine pw_istore_n d14_1 m14 rfl rfl ?_
  refine pw_aload_n d14_2 rfl ?_
  refine pw_alen d14_3 hT hA0 rfl (by decide) ?_
  refine pw_istore_n d14_4 m14 rfl rfl ?_
  exact L5 _ h (0) (((100 : Nat) : Int)) hT hF0 (by omega) (by omega) (by omega) (pv_mu _)

abbrev Q14v32 (τ : Nat → Option Nat) (ρ : Nat → Nat → Nat) (h : pv_H) (a0 : Nat) (x1 : Int) : Option Value → pv_H → Prop := fun r h' => pv_Ty τ ρ h' ∧ pv_Fr τ [2111] h h' ∧ r = none
set_option maxHeartbeats 4000000 in
set_option maxRecDepth 20000 in
/-- java/util/Arrays.fill([II)V -/
theorem ct14v32 {τ : Nat → Option Nat} {ρ : Nat → Nat → Nat} {K : Nat → Nat} {h : pv_H} {a0 : Nat} {x1 : Int} (hT : pv_Ty τ ρ h) (hA0 : τ a0 = some 32) (hX1 : 0 ≤ x1 ∧ x1 ≤ 0) : pv_C K 14 [.ref a0, .int (pv_I x1)] h (Q14v32 τ ρ h a0 x1) := by
  refine pw_entry 2 ?_
  show pv_T K 14 0 (pv_fl [some (.ref a0), some (.int (pv_I x1)), none, none]) [] h (Q14v32 τ ρ h a0 x1)
  have hF0 : pv_Fr τ [2111] h h := pv_Fr.rf
  have L5 : ∀ (nn : Nat) (h_5 : pv_H) (xL2_5 xL3_5 : Int), (pv_Ty τ ρ h_5) → (pv_Fr τ [2111] h h_5) → (0 ≤ x1 ∧ x1 ≤ 0) → (0 ≤ xL2_5 ∧ xL2_5 ≤ 18) → (18 ≤ xL3_5 ∧ xL3_5 ≤ 18) → 18 - xL2_5 < nn → pv_T K 14 5 (pv_fl [some (.ref a0), some (.int (pv_I x1)), some (.int (pv_I xL2_5)), some (.int (pv_I xL3_5))]) [] h_5 (Q14v32 τ ρ h a0 x1) := by
    intro nn
    induction nn with
    | zero => intro h_5 xL2_5 xL3_5 hT_5 hF_5 rL1_5 rL2_5 rL3_5 hm; exfalso; omega
    | succ nn ih5 =>
      intro h_5 xL2_5 xL3_5 hT_5 hF_5 rL1_5 rL2_5 rL3_5 hm5
      refine pw_iload_n d14_5 rfl ?_
      refine pw_iload_n d14_6 rfl ?_
      refine pw_icmp_ge d14_7 rfl (by omega) (by omega) (fun c7 => ?_) (fun c7 => ?_)
      · exact pw_return d14_20 tt14 ⟨hT_5, hF_5, rfl⟩
      · refine pw_aload_n d14_10 rfl ?_
        refine pw_iload_n d14_11 rfl ?_
        refine pw_iload_n d14_12 rfl ?_
        refine pw_iast d14_13 hT_5 hA0 rfl rfl rfl (by omega) (by omega) (by omega) (by omega) (fun h13 T13 F13 E13 => ?_)
        have f13 := hF_5.tr (F13.up (by decide))
        refine pw_iinc d14_14 m14 rfl rfl rfl ?_
        refine pw_goto d14_17 rfl ?_
        exact ih5 h13 ((xL2_5 + 1)) (xL3_5) T13 f13 (by omega) (by omega) (by omega) (by omega)
  refine pw_iconst d14_0 ?_
  refine pw_istore_n d14_1 m14 rfl rfl ?_
  refine pw_aload_n d14_2 rfl ?_
  refine pw_alen d14_3 hT hA0 rfl (by decide) ?_
  refine pw_istore_n d14_4 m14 rfl rfl ?_
  exact L5 _ h (0) (((18 : Nat) : Int)) hT hF0 (by omega) (by omega) (by omega) (pv_mu _)

abbrev Q148v31 (τ : Nat → Option Nat) (ρ : Nat → Nat → Nat) (h : pv_H) (a0 : Nat) (x1 : Int) : Option Value → pv_H → Prop := fun r h' => pv_Ty τ ρ h' ∧ pv_Fr τ [2047] h h' ∧ r = none
set_option maxHeartbeats 4000000 in
set_option maxRecDepth 20000 in
/-- java/util/Arrays.fill([JJ)V -/
theorem ct148v31 {τ : Nat → Option Nat} {ρ : Nat → Nat → Nat} {K : Nat → Nat} {h : pv_H} {a0 : Nat} {x1 : Int} (hT : pv_Ty τ ρ h) (hA0 : τ a0 = some 31) (hX1 : (-9223372036854775808) ≤ x1 ∧ x1 ≤ 9223372036854775807) : pv_C K 148 [.ref a0, .long (pv_J x1)] h (Q148v31 τ ρ h a0 x1) := by
  refine pw_entry 2 ?_
  show pv_T K 148 0 (pv_fl [some (.ref a0), some (.long (pv_J x1)), none, none, none]) [] h (Q148v31 τ ρ h a0 x1)
  have hF0 : pv_Fr τ [2047] h h := pv_Fr.rf
  have L6 : ∀ (nn : Nat) (h_6 : pv_H) (xL3_6 xL4_6 : Int) (o2_6 : Option Value), (pv_Ty τ ρ h_6) → (pv_Fr τ [2047] h h_6) → ((-9223372036854775808) ≤ x1 ∧ x1 ≤ 9223372036854775807) → (0 ≤ xL3_6 ∧ xL3_6 ≤ 60) → (60 ≤ xL4_6 ∧ xL4_6 ≤ 60) → 60 - xL3_6 < nn → pv_T K 148 6 (pv_fl [some (.ref a0), some (.long (pv_J x1)), o2_6, some (.int (pv_I xL3_6)), some (.int (pv_I xL4_6))]) [] h_6 (Q148v31 τ ρ h a0 x1) := by
    intro nn
    induction nn with
    | zero => intro h_6 xL3_6 xL4_6 o2_6 hT_6 hF_6 rL1_6 rL3_6 rL4_6 hm; exfalso; omega
    | succ nn ih6 =>
      intro h_6 xL3_6 xL4_6 o2_6 hT_6 hF_6 rL1_6 rL3_6 rL4_6 hm6
      refine pw_iload_n d148_6 rfl ?_
      refine pw_iload d148_7 rfl ?_
      refine pw_icmp_ge d148_9 rfl (by omega) (by omega) (fun c9 => ?_) (fun c9 => ?_)
      · exact pw_return d148_22 tt148 ⟨hT_6, hF_6, rfl⟩
      · refine pw_aload_n d148_12 rfl ?_
        refine pw_iload_n d148_13 rfl ?_
        refine pw_lload_n d148_14 rfl ?_
        refine pw_last d148_15 hT_6 hA0 rfl rfl rfl (by omega) (by omega) (by omega) (fun h15 T15 F15 E15 => ?_)
        have f15 := hF_6.tr (F15.up (by decide))
        refine pw_iinc d148_16 m148 rfl rfl rfl ?_
        refine pw_goto d148_19 rfl ?_
        exact ih6 h15 ((xL3_6 + 1)) (xL4_6) _ T15 f15 (by omega) (by omega) (by omega) (by omega)
  refine pw_iconst d148_0 ?_
  refine pw_istore_n d148_1 m148 rfl rfl ?_
  refine pw_aload_n d148_2 rfl ?_
  refine pw_alen d148_3 hT hA0 rfl (by decide) ?_
  refine pw_istore d148_4 m148 rfl rfl ?_
  exact L6 _ h (0) (((60 : Nat) : Int)) _ hT hF0 (by omega) (by omega) (by omega) (pv_mu _)

abbrev Q148v37 (τ : Nat → Option Nat) (ρ : Nat → Nat → Nat) (h : pv_H) (a0 : Nat) (x1 : Int) : Option Value → pv_H → Prop := fun r h' => pv_Ty τ ρ h' ∧ pv_Fr τ [2431] h h' ∧ r = none
set_option maxHeartbeats 4000000 in
set_option maxRecDepth 20000 in
/-- java/util/Arrays.fill([JJ)V -/
theorem ct148v37 {τ : Nat → Option Nat} {ρ : Nat → Nat → Nat} {K : Nat → Nat} {h : pv_H} {a0 : Nat} {x1 : Int} (hT : pv_Ty τ ρ h) (hA0 : τ a0 = some 37) (hX1 : (-9223372036854775808) ≤ x1 ∧ x1 ≤ 9223372036854775807) : pv_C K 148 [.ref a0, .long (pv_J x1)] h (Q148v37 τ ρ h a0 x1) := by
  refine pw_entry 2 ?_
  show pv_T K 148 0 (pv_fl [some (.ref a0), some (.long (pv_J x1)), none, none, none]) [] h (Q148v37 τ ρ h a0 x1)
  have hF0 : pv_Fr τ [2431] h h := pv_Fr.rf
  have L6 : ∀ (nn : Nat) (h_6 : pv_H) (xL3_6 xL4_6 : Int) (o2_6 : Option Value), (pv_Ty τ ρ h_6) → (pv_Fr τ [2431] h h_6) → ((-9223372036854775808) ≤ x1 ∧ x1 ≤ 9223372036854775807) → (0 ≤ xL3_6 ∧ xL3_6 ≤ 10) → (10 ≤ xL4_6 ∧ xL4_6 ≤ 10) → 10 - xL3_6 < nn → pv_T K 148 6 (pv_fl [some (.ref a0), some (.long (pv_J x1)), o2_6, some (.int (pv_I xL3_6)), some (.int (pv_I xL4_6))]) [] h_6 (Q148v37 τ ρ h a0 x1) := by
    intro nn
    induction nn with
    | zero => intro h_6 xL3_6 xL4_6 o2_6 hT_6 hF_6 rL1_6 rL3_6 rL4_6 hm; exfalso; omega
    | succ nn ih6 =>
      intro h_6 xL3_6 xL4_6 o2_6 hT_6 hF_6 rL1_6 rL3_6 rL4_6 hm6
      refine pw_iload_n d148_6 rfl ?_
      refine pw_iload d148_7 rfl ?_
      refine pw_icmp_ge d148_9 rfl (by omega) (by omega) (fun c9 => ?_) (fun c9 => ?_)
      · exact pw_return d148_22 tt148 ⟨hT_6, hF_6, rfl⟩
      · refine pw_aload_n d148_12 rfl ?_
        refine pw_iload_n d148_13 rfl ?_
        refine pw_lload_n d148_14 rfl ?_
        refine pw_last d148_15 hT_6 hA0 rfl rfl rfl (by omega) (by omega) (by omega) (fun h15 T15 F15 E15 => ?_)
        have f15 := hF_6.tr (F15.up (by decide))
        refine pw_iinc d148_16 m148 rfl rfl rfl ?_
        refine pw_goto d148_19 rfl ?_
        exact ih6 h15 ((xL3_6 + 1)) (xL4_6) _ T15 f15 (by omega) (by omega) (by omega) (by omega)
  refine pw_iconst d148_0 ?_
  refine pw_istore_n d148_1 m148 rfl rfl ?_
  refine pw_aload_n d148_2 rfl ?_
  refine pw_alen d148_3 hT hA0 rfl (by decide) ?_
  refine pw_istore d148_4 m148 rfl rfl ?_
  exact L6 _ h (0) (((10 : Nat) : Int)) _ hT hF0 (by omega) (by omega) (by omega) (pv_mu _)

abbrev Q15 (τ : Nat → Option Nat) (ρ : Nat → Nat → Nat) (h : pv_H) (a0 : Nat) : Option Value → pv_H → Prop := fun r h' => pv_Ty τ ρ h' ∧ pv_Fr τ [142, 143] h h' ∧ r = none
set_option maxHeartbeats 4000000 in
set_option maxRecDepth 20000 in
/-- AngleNet$Net.forgetFlips()V -/
theorem ct15 {τ : Nat → Option Nat} {ρ : Nat → Nat → Nat} {K : Nat → Nat} {h : pv_H} {a0 : Nat} (hT : pv_Ty τ ρ h) (hA0 : τ a0 = some 2) : pv_C K 15 [.ref a0] h (Q15 τ ρ h a0) := by
  refine pw_entry 0 ?_
  show pv_T K 15 0 (pv_fl [some (.ref a0)]) [] h (Q15 τ ρ h a0)
  have hF0 : pv_Fr τ [142, 143] h h := pv_Fr.rf
  refine pw_aload_n d15_0 rfl ?_
  refine pw_iconst d15_1 ?_
  refine pw_putI d15_2 g15_66 w2_14 hT hA0 rfl rfl rfl (by omega) (by omega) (fun h2 T2 F2 E2 => ?_)
  have f2 := hF0.tr (F2.up (by decide))
  refine pw_aload_n d15_5 rfl ?_
  refine pw_iconst d15_6 ?_
  refine pw_putI d15_7 g15_69 w2_15 T2 hA0 rfl rfl rfl (by omega) (by omega) (fun h7 T7 F7 E7 => ?_)
  have f7 := f2.tr (F7.up (by decide))
  have q7 := ((F7 a0 2 hA0).1 14 (by decide)).1
  exact pw_return d15_10 tt15 ⟨T7, f7, rfl⟩

abbrev Q13 (τ : Nat → Option Nat) (ρ : Nat → Nat → Nat) (h : pv_H) (a0 : Nat) : Option Value → pv_H → Prop := fun r h' => pv_Ty τ ρ h' ∧ pv_Fr τ [128, 129, 130, 131, 132, 142, 143, 1471, 1535, 1599, 1663, 1727, 1791] h h' ∧ r = none
set_option maxHeartbeats 4000000 in
set_option maxRecDepth 20000 in
/-- AngleNet$Net.clear()V -/
theorem ct13 {τ : Nat → Option Nat} {ρ : Nat → Nat → Nat} {K : Nat → Nat} {h : pv_H} {a0 : Nat} (hT : pv_Ty τ ρ h) (hA0 : τ a0 = some 2) : pv_C K 13 [.ref a0] h (Q13 τ ρ h a0) := by
  refine pw_entry 0 ?_
  show pv_T K 13 0 (pv_fl [some (.ref a0)]) [] h (Q13 τ ρ h a0)
  have hF0 : pv_Fr τ [128, 129, 130, 131, 132, 142, 143, 1471, 1535, 1599, 1663, 1727, 1791] h h := pv_Fr.rf
  refine pw_aload_n d13_0 rfl ?_
  refine pw_iconst d13_1 ?_
  refine pw_putI d13_2 g13_41 w2_0 hT hA0 rfl rfl rfl (by omega) (by omega) (fun h2 T2 F2 E2 => ?_)
  have f2 := hF0.tr (F2.up (by decide))
  refine pw_aload_n d13_5 rfl ?_
  refine pw_iconst d13_6 ?_
  refine pw_putI d13_7 g13_45 w2_1 T2 hA0 rfl rfl rfl (by omega) (by omega) (fun h7 T7 F7 E7 => ?_)
  have f7 := f2.tr (F7.up (by decide))
  have q7 := ((F7 a0 2 hA0).1 0 (by decide)).1
  refine pw_aload_n d13_10 rfl ?_
  refine pw_iconst d13_11 ?_
  refine pw_putI d13_12 g13_48 w2_2 T7 hA0 rfl rfl rfl (by omega) (by omega) (fun h12 T12 F12 E12 => ?_)
  have f12 := f7.tr (F12.up (by decide))
  have q12 := ((F12 a0 2 hA0).1 0 (by decide)).1
  have q12b := ((F12 a0 2 hA0).1 1 (by decide)).1
  refine pw_aload_n d13_15 rfl ?_
  refine pw_iconst d13_16 ?_
  refine pw_putI d13_17 g13_51 w2_3 T12 hA0 rfl rfl rfl (by omega) (by omega) (fun h17 T17 F17 E17 => ?_)
  have f17 := f12.tr (F17.up (by decide))
  have q17 := ((F17 a0 2 hA0).1 0 (by decide)).1
  have q17b := ((F17 a0 2 hA0).1 1 (by decide)).1
  have q17c := ((F17 a0 2 hA0).1 2 (by decide)).1
  refine pw_aload_n d13_20 rfl ?_
  refine pw_iconst d13_21 ?_
  refine pw_putI d13_22 g13_54 w2_4 T17 hA0 rfl rfl rfl (by omega) (by omega) (fun h22 T22 F22 E22 => ?_)
  have f22 := f17.tr (F22.up (by decide))
  have q22 := ((F22 a0 2 hA0).1 0 (by decide)).1
  have q22b := ((F22 a0 2 hA0).1 1 (by decide)).1
  have q22c := ((F22 a0 2 hA0).1 2 (by decide)).1
  have q22d := ((F22 a0 2 hA0).1 3 (by decide)).1
  refine pw_aload_n d13_25 rfl ?_
  refine pw_getR d13_26 g13_18 T22 hA0 rfl rfl (fun t26 => ?_)
  have t26 : τ (ρ a0 7) = some 22 := t26
  refine pw_iconst d13_29 ?_
  refine pw_callS2 d13_30 k13_57 rfl rfl (ct14v22 (τ := τ) (ρ := ρ) T22 t26 (by omega)) (fun r30 h30 q30 => ?_)
  obtain ⟨T30, F30, ez30⟩ := q30
  subst ez30
  have f30 := f22.tr (F30.up (by decide))
  have q30b := ((F30 a0 2 hA0).1 0 (by decide)).1
  have q30c := ((F30 a0 2 hA0).1 1 (by decide)).1
  have q30d := ((F30 a0 2 hA0).1 2 (by decide)).1
  have q30e := ((F30 a0 2 hA0).1 3 (by decide)).1
  have q30f := ((F30 a0 2 hA0).1 4 (by decide)).1
  refine pw_aload_n d13_33 rfl ?_
  refine pw_getR d13_34 g13_21 T30 hA0 rfl rfl (fun t34 => ?_)
  have t34 : τ (ρ a0 8) = some 23 := t34
  refine pw_iconst d13_37 ?_
  refine pw_callS2 d13_38 k13_57 rfl rfl (ct14v23 (τ := τ) (ρ := ρ) T30 t34 (by omega)) (fun r38 h38 q38 => ?_)
  obtain ⟨T38, F38, ez38⟩ := q38
  subst ez38
  have f38 := f30.tr (F38.up (by decide))
  have q38b := ((F38 a0 2 hA0).1 0 (by decide)).1
  have q38c := ((F38 a0 2 hA0).1 1 (by decide)).1
  have q38d := ((F38 a0 2 hA0).1 2 (by decide)).1
  have q38e := ((F38 a0 2 hA0).1 3 (by decide)).1
  have q38f := ((F38 a0 2 hA0).1 4 (by decide)).1
  refine pw_aload_n d13_41 rfl ?_
  refine pw_getR d13_42 g13_24 T38 hA0 rfl rfl (fun t42 => ?_)
  have t42 : τ (ρ a0 9) = some 24 := t42
  refine pw_iconst d13_45 ?_
  refine pw_callS2 d13_46 k13_57 rfl rfl (ct14v24 (τ := τ) (ρ := ρ) T38 t42 (by omega)) (fun r46 h46 q46 => ?_)
  obtain ⟨T46, F46, ez46⟩ := q46
  subst ez46
  have f46 := f38.tr (F46.up (by decide))
  have q46b := ((F46 a0 2 hA0).1 0 (by decide)).1
  have q46c := ((F46 a0 2 hA0).1 1 (by decide)).1
  have q46d := ((F46 a0 2 hA0).1 2 (by decide)).1
  have q46e := ((F46 a0 2 hA0).1 3 (by decide)).1
  have q46f := ((F46 a0 2 hA0).1 4 (by decide)).1
  refine pw_aload_n d13_49 rfl ?_
  refine pw_getR d13_50 g13_27 T46 hA0 rfl rfl (fun t50 => ?_)
  have t50 : τ (ρ a0 10) = some 25 := t50
  refine pw_iconst d13_53 ?_
  refine pw_callS2 d13_54 k13_57 rfl rfl (ct14v25 (τ := τ) (ρ := ρ) T46 t50 (by omega)) (fun r54 h54 q54 => ?_)
  obtain ⟨T54, F54, ez54⟩ := q54
  subst ez54
  have f54 := f46.tr (F54.up (by decide))
  have q54b := ((F54 a0 2 hA0).1 0 (by decide)).1
  have q54c := ((F54 a0 2 hA0).1 1 (by decide)).1
  have q54d := ((F54 a0 2 hA0).1 2 (by decide)).1
  have q54e := ((F54 a0 2 hA0).1 3 (by decide)).1
  have q54f := ((F54 a0 2 hA0).1 4 (by decide)).1
  refine pw_aload_n d13_57 rfl ?_
  refine pw_getR d13_58 g13_30 T54 hA0 rfl rfl (fun t58 => ?_)
  have t58 : τ (ρ a0 11) = some 26 := t58
  refine pw_iconst d13_61 ?_
  refine pw_callS2 d13_62 k13_57 rfl rfl (ct14v26 (τ := τ) (ρ := ρ) T54 t58 (by omega)) (fun r62 h62 q62 => ?_)
  obtain ⟨T62, F62, ez62⟩ := q62
  subst ez62
  have f62 := f54.tr (F62.up (by decide))
  have q62b := ((F62 a0 2 hA0).1 0 (by decide)).1
  have q62c := ((F62 a0 2 hA0).1 1 (by decide)).1
  have q62d := ((F62 a0 2 hA0).1 2 (by decide)).1
  have q62e := ((F62 a0 2 hA0).1 3 (by decide)).1
  have q62f := ((F62 a0 2 hA0).1 4 (by decide)).1
  refine pw_aload_n d13_65 rfl ?_
  refine pw_getR d13_66 g13_33 T62 hA0 rfl rfl (fun t66 => ?_)
  have t66 : τ (ρ a0 12) = some 27 := t66
  refine pw_iconst d13_69 ?_
  refine pw_callS2 d13_70 k13_57 rfl rfl (ct14v27 (τ := τ) (ρ := ρ) T62 t66 (by omega)) (fun r70 h70 q70 => ?_)
  obtain ⟨T70, F70, ez70⟩ := q70
  subst ez70
  have f70 := f62.tr (F70.up (by decide))
  have q70b := ((F70 a0 2 hA0).1 0 (by decide)).1
  have q70c := ((F70 a0 2 hA0).1 1 (by decide)).1
  have q70d := ((F70 a0 2 hA0).1 2 (by decide)).1
  have q70e := ((F70 a0 2 hA0).1 3 (by decide)).1
  have q70f := ((F70 a0 2 hA0).1 4 (by decide)).1
  refine pw_aload_n d13_73 rfl ?_
  refine pw_callV0 d13_74 k13_63 T70 hA0 rfl rfl rfl (ct15 (τ := τ) (ρ := ρ) T70 hA0) (fun r74 h74 q74 => ?_)
  obtain ⟨T74, F74, ez74⟩ := q74
  subst ez74
  have f74 := f70.tr (F74.up (by decide))
  have q74b := ((F74 a0 2 hA0).1 0 (by decide)).1
  have q74c := ((F74 a0 2 hA0).1 1 (by decide)).1
  have q74d := ((F74 a0 2 hA0).1 2 (by decide)).1
  have q74e := ((F74 a0 2 hA0).1 3 (by decide)).1
  have q74f := ((F74 a0 2 hA0).1 4 (by decide)).1
  exact pw_return d13_77 tt13 ⟨T74, f74, rfl⟩

abbrev Q36 (τ : Nat → Option Nat) (ρ : Nat → Nat → Nat) (h : pv_H) (a0 : Nat) (x1 : Int) : Option Value → pv_H → Prop := fun r h' => pv_Ty τ ρ h' ∧ pv_Fr τ [128, 131, 132] h h' ∧ r = none
set_option maxHeartbeats 4000000 in
set_option maxRecDepth 20000 in
/-- AngleNet$Net.begin(I)V -/
theorem ct36 {τ : Nat → Option Nat} {ρ : Nat → Nat → Nat} {K : Nat → Nat} {h : pv_H} {a0 : Nat} {x1 : Int} (hT : pv_Ty τ ρ h) (hA0 : τ a0 = some 2) (hX1 : 0 ≤ x1 ∧ x1 ≤ 10) : pv_C K 36 [.ref a0, .int (pv_I x1)] h (Q36 τ ρ h a0 x1) := by
  refine pw_entry 0 ?_
  show pv_T K 36 0 (pv_fl [some (.ref a0), some (.int (pv_I x1))]) [] h (Q36 τ ρ h a0 x1)
  have hF0 : pv_Fr τ [128, 131, 132] h h := pv_Fr.rf
  refine pw_aload_n d36_0 rfl ?_
  refine pw_iload_n d36_1 rfl ?_
  refine pw_putI d36_2 g36_41 w2_0 hT hA0 rfl rfl rfl (by omega) (by omega) (fun h2 T2 F2 E2 => ?_)
  have f2 := hF0.tr (F2.up (by decide))
  refine pw_aload_n d36_5 rfl ?_
  refine pw_iconst d36_6 ?_
  refine pw_putI d36_7 g36_51 w2_3 T2 hA0 rfl rfl rfl (by omega) (by omega) (fun h7 T7 F7 E7 => ?_)
  have f7 := f2.tr (F7.up (by decide))
  have q7 := ((F7 a0 2 hA0).1 0 (by decide)).1
  refine pw_aload_n d36_10 rfl ?_
  refine pw_sipush d36_11 (by decide) ?_
  refine pw_putI d36_14 g36_54 w2_4 T7 hA0 rfl rfl rfl (by omega) (by omega) (fun h14 T14 F14 E14 => ?_)
  have f14 := f7.tr (F14.up (by decide))
  have q14 := ((F14 a0 2 hA0).1 0 (by decide)).1
  have q14b := ((F14 a0 2 hA0).1 3 (by decide)).1
  exact pw_return d36_17 tt36 ⟨T14, f14, rfl⟩

abbrev Q52 (τ : Nat → Option Nat) (ρ : Nat → Nat → Nat) (h : pv_H) (a0 : Nat) (a1 : Nat) : Option Value → pv_H → Prop := fun r h' => pv_Ty τ ρ h' ∧ pv_Fr τ [128, 129, 130, 131, 132, 142, 143, 1343, 1407, 1471, 1535, 1599, 1663, 1727, 1791, 1855] h h' ∧ r = none
set_option maxHeartbeats 4000000 in
set_option maxRecDepth 20000 in
/-- AngleNet$Net.copyFrom(LAngleNet$Net;)V -/
theorem ct52 {τ : Nat → Option Nat} {ρ : Nat → Nat → Nat} {K : Nat → Nat} {h : pv_H} {a0 : Nat} {a1 : Nat} (hT : pv_Ty τ ρ h) (hA0 : τ a0 = some 2) (hA1 : τ a1 = some 2) : pv_C K 52 [.ref a0, .ref a1] h (Q52 τ ρ h a0 a1) := by
  refine pw_entry 0 ?_
  show pv_T K 52 0 (pv_fl [some (.ref a0), some (.ref a1)]) [] h (Q52 τ ρ h a0 a1)
  have hF0 : pv_Fr τ [128, 129, 130, 131, 132, 142, 143, 1343, 1407, 1471, 1535, 1599, 1663, 1727, 1791, 1855] h h := pv_Fr.rf
  refine pw_aload_n d52_0 rfl ?_
  refine pw_aload_n d52_1 rfl ?_
  refine pw_getI d52_2 g52_41 hT hA1 rfl rfl (fun u2 vu2 => ?_)
  refine pw_putI d52_5 g52_41 w2_0 hT hA0 rfl rfl rfl (by omega) (by omega) (fun h5 T5 F5 E5 => ?_)
  have f5 := hF0.tr (F5.up (by decide))
  refine pw_aload_n d52_8 rfl ?_
  refine pw_aload_n d52_9 rfl ?_
  refine pw_getI d52_10 g52_45 T5 hA1 rfl rfl (fun u10 vu10 => ?_)
  refine pw_putI d52_13 g52_45 w2_1 T5 hA0 rfl rfl rfl (by omega) (by omega) (fun h13 T13 F13 E13 => ?_)
  have f13 := f5.tr (F13.up (by decide))
  have q13 := ((F13 a0 2 hA0).1 0 (by decide)).1
  have q13b := ((F13 a1 2 hA1).1 0 (by decide)).1
  refine pw_aload_n d52_16 rfl ?_
  refine pw_aload_n d52_17 rfl ?_
  refine pw_getI d52_18 g52_48 T13 hA1 rfl rfl (fun u18 vu18 => ?_)
  refine pw_putI d52_21 g52_48 w2_2 T13 hA0 rfl rfl rfl (by omega) (by omega) (fun h21 T21 F21 E21 => ?_)
  have f21 := f13.tr (F21.up (by decide))
  have q21 := ((F21 a0 2 hA0).1 0 (by decide)).1
  have q21b := ((F21 a0 2 hA0).1 1 (by decide)).1
  have q21c := ((F21 a1 2 hA1).1 0 (by decide)).1
  have q21d := ((F21 a1 2 hA1).1 1 (by decide)).1
  refine pw_aload_n d52_24 rfl ?_
  refine pw_aload_n d52_25 rfl ?_
  refine pw_getI d52_26 g52_51 T21 hA1 rfl rfl (fun u26 vu26 => ?_)
  refine pw_putI d52_29 g52_51 w2_3 T21 hA0 rfl rfl rfl (by omega) (by omega) (fun h29 T29 F29 E29 => ?_)
  have f29 := f21.tr (F29.up (by decide))
  have q29 := ((F29 a0 2 hA0).1 0 (by decide)).1
  have q29b := ((F29 a0 2 hA0).1 1 (by decide)).1
  have q29c := ((F29 a0 2 hA0).1 2 (by decide)).1
  have q29d := ((F29 a1 2 hA1).1 0 (by decide)).1
  have q29e := ((F29 a1 2 hA1).1 1 (by decide)).1
  have q29f := ((F29 a1 2 hA1).1 2 (by decide)).1
  refine pw_aload_n d52_32 rfl ?_
  refine pw_aload_n d52_33 rfl ?_
  refine pw_getI d52_34 g52_54 T29 hA1 rfl rfl (fun u34 vu34 => ?_)
  refine pw_putI d52_37 g52_54 w2_4 T29 hA0 rfl rfl rfl (by omega) (by omega) (fun h37 T37 F37 E37 => ?_)
  have f37 := f29.tr (F37.up (by decide))
  have q37 := ((F37 a0 2 hA0).1 0 (by decide)).1
  have q37b := ((F37 a0 2 hA0).1 1 (by decide)).1
  have q37c := ((F37 a0 2 hA0).1 2 (by decide)).1
  have q37d := ((F37 a0 2 hA0).1 3 (by decide)).1
  have q37e := ((F37 a1 2 hA1).1 0 (by decide)).1
  have q37f := ((F37 a1 2 hA1).1 1 (by decide)).1
  have q37g := ((F37 a1 2 hA1).1 2 (by decide)).1
  have q37h := ((F37 a1 2 hA1).1 3 (by decide)).1
  refine pw_aload_n d52_40 rfl ?_
  refine pw_aload_n d52_41 rfl ?_
  refine pw_getI d52_42 g52_66 T37 hA1 rfl rfl (fun u42 vu42 => ?_)
  refine pw_putI d52_45 g52_66 w2_14 T37 hA0 rfl rfl rfl (by omega) (by omega) (fun h45 T45 F45 E45 => ?_)
  have f45 := f37.tr (F45.up (by decide))
  have q45 := ((F45 a0 2 hA0).1 0 (by decide)).1
  have q45b := ((F45 a0 2 hA0).1 1 (by decide)).1
  have q45c := ((F45 a0 2 hA0).1 2 (by decide)).1
  have q45d := ((F45 a0 2 hA0).1 3 (by decide)).1
  have q45e := ((F45 a0 2 hA0).1 4 (by decide)).1
  have q45f := ((F45 a1 2 hA1).1 0 (by decide)).1
  have q45g := ((F45 a1 2 hA1).1 1 (by decide)).1
  have q45h := ((F45 a1 2 hA1).1 2 (by decide)).1
  have q45i := ((F45 a1 2 hA1).1 3 (by decide)).1
  have q45j := ((F45 a1 2 hA1).1 4 (by decide)).1
  refine pw_aload_n d52_48 rfl ?_
  refine pw_aload_n d52_49 rfl ?_
  refine pw_getI d52_50 g52_69 T45 hA1 rfl rfl (fun u50 vu50 => ?_)
  refine pw_putI d52_53 g52_69 w2_15 T45 hA0 rfl rfl rfl (by omega) (by omega) (fun h53 T53 F53 E53 => ?_)
  have f53 := f45.tr (F53.up (by decide))
  have q53 := ((F53 a0 2 hA0).1 0 (by decide)).1
  have q53b := ((F53 a0 2 hA0).1 1 (by decide)).1
  have q53c := ((F53 a0 2 hA0).1 2 (by decide)).1
  have q53d := ((F53 a0 2 hA0).1 3 (by decide)).1
  have q53e := ((F53 a0 2 hA0).1 4 (by decide)).1
  have q53f := ((F53 a0 2 hA0).1 14 (by decide)).1
  have q53g := ((F53 a1 2 hA1).1 0 (by decide)).1
  have q53h := ((F53 a1 2 hA1).1 1 (by decide)).1
  have q53i := ((F53 a1 2 hA1).1 2 (by decide)).1
  have q53j := ((F53 a1 2 hA1).1 3 (by decide)).1
  have q53k := ((F53 a1 2 hA1).1 4 (by decide)).1
  have q53l := ((F53 a1 2 hA1).1 14 (by decide)).1
  refine pw_aload_n d52_56 rfl ?_
  refine pw_getR d52_57 g52_9 T53 hA1 rfl rfl (fun t57 => ?_)
  have t57 : τ (ρ a1 5) = some 20 := t57
  refine pw_iconst d52_60 ?_
  refine pw_aload_n d52_61 rfl ?_
  refine pw_getR d52_62 g52_9 T53 hA0 rfl rfl (fun t62 => ?_)
  have t62 : τ (ρ a0 5) = some 20 := t62
  refine pw_iconst d52_65 ?_
  refine pw_aload_n d52_66 rfl ?_
  refine pw_getR d52_67 g52_9 T53 hA0 rfl rfl (fun t67 => ?_)
  have t67 : τ (ρ a0 5) = some 20 := t67
  refine pw_alen d52_70 T53 t67 rfl (by decide) ?_
  refine pw_copyT d52_71 k52_72 T53 t57 t67 rfl rfl rfl rfl (by omega) (by omega) (fun h71 T71 F71 E71 => ?_)
  have f71 := f53.tr (F71.up (by decide))
  have q71 := ((F71 a0 2 hA0).1 0 (by decide)).1
  have q71b := ((F71 a0 2 hA0).1 1 (by decide)).1
  have q71c := ((F71 a0 2 hA0).1 2 (by decide)).1
  have q71d := ((F71 a0 2 hA0).1 3 (by decide)).1
  have q71e := ((F71 a0 2 hA0).1 4 (by decide)).1
  have q71f := ((F71 a0 2 hA0).1 14 (by decide)).1
  have q71g := ((F71 a0 2 hA0).1 15 (by decide)).1
  have q71h := ((F71 a1 2 hA1).1 0 (by decide)).1
  have q71i := ((F71 a1 2 hA1).1 1 (by decide)).1
  have q71j := ((F71 a1 2 hA1).1 2 (by decide)).1
  have q71k := ((F71 a1 2 hA1).1 3 (by decide)).1
  have q71l := ((F71 a1 2 hA1).1 4 (by decide)).1
  have q71m := ((F71 a1 2 hA1).1 14 (by decide)).1
  have q71n := ((F71 a1 2 hA1).1 15 (by decide)).1
  refine pw_aload_n d52_74 rfl ?_
  refine pw_getR d52_75 g52_15 T71 hA1 rfl rfl (fun t75 => ?_)
  have t75 : τ (ρ a1 6) = some 21 := t75
  refine pw_iconst d52_78 ?_
  refine pw_aload_n d52_79 rfl ?_
  refine pw_getR d52_80 g52_15 T71 hA0 rfl rfl (fun t80 => ?_)
  have t80 : τ (ρ a0 6) = some 21 := t80
  refine pw_iconst d52_83 ?_
  refine pw_aload_n d52_84 rfl ?_
  refine pw_getR d52_85 g52_15 T71 hA0 rfl rfl (fun t85 => ?_)
  have t85 : τ (ρ a0 6) = some 21 := t85
  refine pw_alen d52_88 T71 t85 rfl (by decide) ?_
  refine pw_copyT d52_89 k52_72 T71 t75 t85 rfl rfl rfl rfl (by omega) (by omega) (fun h89 T89 F89 E89 => ?_)
  have f89 := f71.tr (F89.up (by decide))
  have q89 := ((F89 a0 2 hA0).1 0 (by decide)).1
  have q89b := ((F89 a0 2 hA0).1 1 (by decide)).1
  have q89c := ((F89 a0 2 hA0).1 2 (by decide)).1
  have q89d := ((F89 a0 2 hA0).1 3 (by decide)).1
  have q89e := ((F89 a0 2 hA0).1 4 (by decide)).1
  have q89f := ((F89 a0 2 hA0).1 14 (by decide)).1
  have q89g := ((F89 a0 2 hA0).1 15 (by decide)).1
  have q89h := ((F89 a1 2 hA1).1 0 (by decide)).1
  have q89i := ((F89 a1 2 hA1).1 1 (by decide)).1
  have q89j := ((F89 a1 2 hA1).1 2 (by decide)).1
  have q89k := ((F89 a1 2 hA1).1 3 (by decide)).1
  have q89l := ((F89 a1 2 hA1).1 4 (by decide)).1
  have q89m := ((F89 a1 2 hA1).1 14 (by decide)).1
  have q89n := ((F89 a1 2 hA1).1 15 (by decide)).1
  refine pw_aload_n d52_92 rfl ?_
  refine pw_getR d52_93 g52_18 T89 hA1 rfl rfl (fun t93 => ?_)
  have t93 : τ (ρ a1 7) = some 22 := t93
  refine pw_iconst d52_96 ?_
  refine pw_aload_n d52_97 rfl ?_
  refine pw_getR d52_98 g52_18 T89 hA0 rfl rfl (fun t98 => ?_)
  have t98 : τ (ρ a0 7) = some 22 := t98
  refine pw_iconst d52_101 ?_
  refine pw_aload_n d52_102 rfl ?_
  refine pw_getR d52_103 g52_18 T89 hA0 rfl rfl (fun t103 => ?_)
  have t103 : τ (ρ a0 7) = some 22 := t103
  refine pw_alen d52_106 T89 t103 rfl (by decide) ?_
  refine pw_copyT d52_107 k52_72 T89 t93 t103 rfl rfl rfl rfl (by omega) (by omega) (fun h107 T107 F107 E107 => ?_)
  have f107 := f89.tr (F107.up (by decide))
  have q107 := ((F107 a0 2 hA0).1 0 (by decide)).1
  have q107b := ((F107 a0 2 hA0).1 1 (by decide)).1
  have q107c := ((F107 a0 2 hA0).1 2 (by decide)).1
  have q107d := ((F107 a0 2 hA0).1 3 (by decide)).1
  have q107e := ((F107 a0 2 hA0).1 4 (by decide)).1
  have q107f := ((F107 a0 2 hA0).1 14 (by decide)).1
  have q107g := ((F107 a0 2 hA0).1 15 (by decide)).1
  have q107h := ((F107 a1 2 hA1).1 0 (by decide)).1
  have q107i := ((F107 a1 2 hA1).1 1 (by decide)).1
  have q107j := ((F107 a1 2 hA1).1 2 (by decide)).1
  have q107k := ((F107 a1 2 hA1).1 3 (by decide)).1
  have q107l := ((F107 a1 2 hA1).1 4 (by decide)).1
  have q107m := ((F107 a1 2 hA1).1 14 (by decide)).1
  have q107n := ((F107 a1 2 hA1).1 15 (by decide)).1
  refine pw_aload_n d52_110 rfl ?_
  refine pw_getR d52_111 g52_21 T107 hA1 rfl rfl (fun t111 => ?_)
  have t111 : τ (ρ a1 8) = some 23 := t111
  refine pw_iconst d52_114 ?_
  refine pw_aload_n d52_115 rfl ?_
  refine pw_getR d52_116 g52_21 T107 hA0 rfl rfl (fun t116 => ?_)
  have t116 : τ (ρ a0 8) = some 23 := t116
  refine pw_iconst d52_119 ?_
  refine pw_aload_n d52_120 rfl ?_
  refine pw_getR d52_121 g52_21 T107 hA0 rfl rfl (fun t121 => ?_)
  have t121 : τ (ρ a0 8) = some 23 := t121
  refine pw_alen d52_124 T107 t121 rfl (by decide) ?_
  refine pw_copyT d52_125 k52_72 T107 t111 t121 rfl rfl rfl rfl (by omega) (by omega) (fun h125 T125 F125 E125 => ?_)
  have f125 := f107.tr (F125.up (by decide))
  have q125 := ((F125 a0 2 hA0).1 0 (by decide)).1
  have q125b := ((F125 a0 2 hA0).1 1 (by decide)).1
  have q125c := ((F125 a0 2 hA0).1 2 (by decide)).1
  have q125d := ((F125 a0 2 hA0).1 3 (by decide)).1
  have q125e := ((F125 a0 2 hA0).1 4 (by decide)).1
  have q125f := ((F125 a0 2 hA0).1 14 (by decide)).1
  have q125g := ((F125 a0 2 hA0).1 15 (by decide)).1
  have q125h := ((F125 a1 2 hA1).1 0 (by decide)).1
  have q125i := ((F125 a1 2 hA1).1 1 (by decide)).1
  have q125j := ((F125 a1 2 hA1).1 2 (by decide)).1
  have q125k := ((F125 a1 2 hA1).1 3 (by decide)).1
  have q125l := ((F125 a1 2 hA1).1 4 (by decide)).1
  have q125m := ((F125 a1 2 hA1).1 14 (by decide)).1
  have q125n := ((F125 a1 2 hA1).1 15 (by decide)).1
  refine pw_aload_n d52_128 rfl ?_
  refine pw_getR d52_129 g52_24 T125 hA1 rfl rfl (fun t129 => ?_)
  have t129 : τ (ρ a1 9) = some 24 := t129
  refine pw_iconst d52_132 ?_
  refine pw_aload_n d52_133 rfl ?_
  refine pw_getR d52_134 g52_24 T125 hA0 rfl rfl (fun t134 => ?_)
  have t134 : τ (ρ a0 9) = some 24 := t134
  refine pw_iconst d52_137 ?_
  refine pw_aload_n d52_138 rfl ?_
  refine pw_getR d52_139 g52_24 T125 hA0 rfl rfl (fun t139 => ?_)
  have t139 : τ (ρ a0 9) = some 24 := t139
  refine pw_alen d52_142 T125 t139 rfl (by decide) ?_
  refine pw_copyT d52_143 k52_72 T125 t129 t139 rfl rfl rfl rfl (by omega) (by omega) (fun h143 T143 F143 E143 => ?_)
  have f143 := f125.tr (F143.up (by decide))
  have q143 := ((F143 a0 2 hA0).1 0 (by decide)).1
  have q143b := ((F143 a0 2 hA0).1 1 (by decide)).1
  have q143c := ((F143 a0 2 hA0).1 2 (by decide)).1
  have q143d := ((F143 a0 2 hA0).1 3 (by decide)).1
  have q143e := ((F143 a0 2 hA0).1 4 (by decide)).1
  have q143f := ((F143 a0 2 hA0).1 14 (by decide)).1
  have q143g := ((F143 a0 2 hA0).1 15 (by decide)).1
  have q143h := ((F143 a1 2 hA1).1 0 (by decide)).1
  have q143i := ((F143 a1 2 hA1).1 1 (by decide)).1
  have q143j := ((F143 a1 2 hA1).1 2 (by decide)).1
  have q143k := ((F143 a1 2 hA1).1 3 (by decide)).1
  have q143l := ((F143 a1 2 hA1).1 4 (by decide)).1
  have q143m := ((F143 a1 2 hA1).1 14 (by decide)).1
  have q143n := ((F143 a1 2 hA1).1 15 (by decide)).1
  refine pw_aload_n d52_146 rfl ?_
  refine pw_getR d52_147 g52_27 T143 hA1 rfl rfl (fun t147 => ?_)
  have t147 : τ (ρ a1 10) = some 25 := t147
  refine pw_iconst d52_150 ?_
  refine pw_aload_n d52_151 rfl ?_
  refine pw_getR d52_152 g52_27 T143 hA0 rfl rfl (fun t152 => ?_)
  have t152 : τ (ρ a0 10) = some 25 := t152
  refine pw_iconst d52_155 ?_
  refine pw_aload_n d52_156 rfl ?_
  refine pw_getR d52_157 g52_27 T143 hA0 rfl rfl (fun t157 => ?_)
  have t157 : τ (ρ a0 10) = some 25 := t157
  refine pw_alen d52_160 T143 t157 rfl (by decide) ?_
  refine pw_copyT d52_161 k52_72 T143 t147 t157 rfl rfl rfl rfl (by omega) (by omega) (fun h161 T161 F161 E161 => ?_)
  have f161 := f143.tr (F161.up (by decide))
  have q161 := ((F161 a0 2 hA0).1 0 (by decide)).1
  have q161b := ((F161 a0 2 hA0).1 1 (by decide)).1
  have q161c := ((F161 a0 2 hA0).1 2 (by decide)).1
  have q161d := ((F161 a0 2 hA0).1 3 (by decide)).1
  have q161e := ((F161 a0 2 hA0).1 4 (by decide)).1
  have q161f := ((F161 a0 2 hA0).1 14 (by decide)).1
  have q161g := ((F161 a0 2 hA0).1 15 (by decide)).1
  have q161h := ((F161 a1 2 hA1).1 0 (by decide)).1
  have q161i := ((F161 a1 2 hA1).1 1 (by decide)).1
  have q161j := ((F161 a1 2 hA1).1 2 (by decide)).1
  have q161k := ((F161 a1 2 hA1).1 3 (by decide)).1
  have q161l := ((F161 a1 2 hA1).1 4 (by decide)).1
  have q161m := ((F161 a1 2 hA1).1 14 (by decide)).1
  have q161n := ((F161 a1 2 hA1).1 15 (by decide)).1
  refine pw_aload_n d52_164 rfl ?_
  refine pw_getR d52_165 g52_30 T161 hA1 rfl rfl (fun t165 => ?_)
  have t165 : τ (ρ a1 11) = some 26 := t165
  refine pw_iconst d52_168 ?_
  refine pw_aload_n d52_169 rfl ?_
  refine pw_getR d52_170 g52_30 T161 hA0 rfl rfl (fun t170 => ?_)
  have t170 : τ (ρ a0 11) = some 26 := t170
  refine pw_iconst d52_173 ?_
  refine pw_aload_n d52_174 rfl ?_
  refine pw_getR d52_175 g52_30 T161 hA0 rfl rfl (fun t175 => ?_)
  have t175 : τ (ρ a0 11) = some 26 := t175
  refine pw_alen d52_178 T161 t175 rfl (by decide) ?_
  refine pw_copyT d52_179 k52_72 T161 t165 t175 rfl rfl rfl rfl (by omega) (by omega) (fun h179 T179 F179 E179 => ?_)
  have f179 := f161.tr (F179.up (by decide))
  have q179 := ((F179 a0 2 hA0).1 0 (by decide)).1
  have q179b := ((F179 a0 2 hA0).1 1 (by decide)).1
  have q179c := ((F179 a0 2 hA0).1 2 (by decide)).1
  have q179d := ((F179 a0 2 hA0).1 3 (by decide)).1
  have q179e := ((F179 a0 2 hA0).1 4 (by decide)).1
  have q179f := ((F179 a0 2 hA0).1 14 (by decide)).1
  have q179g := ((F179 a0 2 hA0).1 15 (by decide)).1
  have q179h := ((F179 a1 2 hA1).1 0 (by decide)).1
  have q179i := ((F179 a1 2 hA1).1 1 (by decide)).1
  have q179j := ((F179 a1 2 hA1).1 2 (by decide)).1
  have q179k := ((F179 a1 2 hA1).1 3 (by decide)).1
  have q179l := ((F179 a1 2 hA1).1 4 (by decide)).1
  have q179m := ((F179 a1 2 hA1).1 14 (by decide)).1
  have q179n := ((F179 a1 2 hA1).1 15 (by decide)).1
  refine pw_aload_n d52_182 rfl ?_
  refine pw_getR d52_183 g52_33 T179 hA1 rfl rfl (fun t183 => ?_)
  have t183 : τ (ρ a1 12) = some 27 := t183
  refine pw_iconst d52_186 ?_
  refine pw_aload_n d52_187 rfl ?_
  refine pw_getR d52_188 g52_33 T179 hA0 rfl rfl (fun t188 => ?_)
  have t188 : τ (ρ a0 12) = some 27 := t188
  refine pw_iconst d52_191 ?_
  refine pw_aload_n d52_192 rfl ?_
  refine pw_getR d52_193 g52_33 T179 hA0 rfl rfl (fun t193 => ?_)
  have t193 : τ (ρ a0 12) = some 27 := t193
  refine pw_alen d52_196 T179 t193 rfl (by decide) ?_
  refine pw_copyT d52_197 k52_72 T179 t183 t193 rfl rfl rfl rfl (by omega) (by omega) (fun h197 T197 F197 E197 => ?_)
  have f197 := f179.tr (F197.up (by decide))
  have q197 := ((F197 a0 2 hA0).1 0 (by decide)).1
  have q197b := ((F197 a0 2 hA0).1 1 (by decide)).1
  have q197c := ((F197 a0 2 hA0).1 2 (by decide)).1
  have q197d := ((F197 a0 2 hA0).1 3 (by decide)).1
  have q197e := ((F197 a0 2 hA0).1 4 (by decide)).1
  have q197f := ((F197 a0 2 hA0).1 14 (by decide)).1
  have q197g := ((F197 a0 2 hA0).1 15 (by decide)).1
  have q197h := ((F197 a1 2 hA1).1 0 (by decide)).1
  have q197i := ((F197 a1 2 hA1).1 1 (by decide)).1
  have q197j := ((F197 a1 2 hA1).1 2 (by decide)).1
  have q197k := ((F197 a1 2 hA1).1 3 (by decide)).1
  have q197l := ((F197 a1 2 hA1).1 4 (by decide)).1
  have q197m := ((F197 a1 2 hA1).1 14 (by decide)).1
  have q197n := ((F197 a1 2 hA1).1 15 (by decide)).1
  refine pw_aload_n d52_200 rfl ?_
  refine pw_getR d52_201 g52_38 T197 hA1 rfl rfl (fun t201 => ?_)
  have t201 : τ (ρ a1 13) = some 28 := t201
  refine pw_iconst d52_204 ?_
  refine pw_aload_n d52_205 rfl ?_
  refine pw_getR d52_206 g52_38 T197 hA0 rfl rfl (fun t206 => ?_)
  have t206 : τ (ρ a0 13) = some 28 := t206
  refine pw_iconst d52_209 ?_
  refine pw_aload_n d52_210 rfl ?_
  refine pw_getR d52_211 g52_38 T197 hA0 rfl rfl (fun t211 => ?_)
  have t211 : τ (ρ a0 13) = some 28 := t211
  refine pw_alen d52_214 T197 t211 rfl (by decide) ?_
  refine pw_copyT d52_215 k52_72 T197 t201 t211 rfl rfl rfl rfl (by omega) (by omega) (fun h215 T215 F215 E215 => ?_)
  have f215 := f197.tr (F215.up (by decide))
  have q215 := ((F215 a0 2 hA0).1 0 (by decide)).1
  have q215b := ((F215 a0 2 hA0).1 1 (by decide)).1
  have q215c := ((F215 a0 2 hA0).1 2 (by decide)).1
  have q215d := ((F215 a0 2 hA0).1 3 (by decide)).1
  have q215e := ((F215 a0 2 hA0).1 4 (by decide)).1
  have q215f := ((F215 a0 2 hA0).1 14 (by decide)).1
  have q215g := ((F215 a0 2 hA0).1 15 (by decide)).1
  have q215h := ((F215 a1 2 hA1).1 0 (by decide)).1
  have q215i := ((F215 a1 2 hA1).1 1 (by decide)).1
  have q215j := ((F215 a1 2 hA1).1 2 (by decide)).1
  have q215k := ((F215 a1 2 hA1).1 3 (by decide)).1
  have q215l := ((F215 a1 2 hA1).1 4 (by decide)).1
  have q215m := ((F215 a1 2 hA1).1 14 (by decide)).1
  have q215n := ((F215 a1 2 hA1).1 15 (by decide)).1
  exact pw_return d52_218 tt52 ⟨T215, f215, rfl⟩
