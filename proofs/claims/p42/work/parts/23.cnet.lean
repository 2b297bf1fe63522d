abbrev Q48 (τ : Nat → Option Nat) (ρ : Nat → Nat → Nat) (h : pv_H) (a0 : Nat) (x1 : Int) : Option Value → pv_H → Prop := fun r h' => h = h' ∧ ∃ z : Int, r = some (.int (pv_I z)) ∧ 0 ≤ z ∧ z ≤ 1 ∧ ((z = 1 ∧ 0 ≤ x1 ∧ x1 ≤ 9 ∧ x1 < pv_fI h a0 0) ∨ (z = 0 ∧ (x1 < 0 ∨ pv_fI h a0 0 ≤ x1)))
set_option maxHeartbeats 4000000 in
set_option maxRecDepth 20000 in
/-- AngleNet$Net.isPost(I)Z -/
theorem c48 {τ : Nat → Option Nat} {ρ : Nat → Nat → Nat} {K : Nat → Nat} {h : pv_H} {a0 : Nat} {x1 : Int} (hT : pv_Ty τ ρ h) (hA0 : τ a0 = some 2) (hX1 : (-2147483648) ≤ x1 ∧ x1 ≤ 2147483647) : pv_C K 48 [.ref a0, .int (pv_I x1)] h (Q48 τ ρ h a0 x1) := by
  refine pw_entry 0 ?_
  show pv_T K 48 0 (pv_fl [some (.ref a0), some (.int (pv_I x1))]) [] h (Q48 τ ρ h a0 x1)
  refine pw_iload_n d48_0 rfl ?_
  refine pw_if_lt d48_1 rfl (by omega) (fun c49 => ?_) (fun c49 => ?_)
  · refine pw_iconst d48_16 ?_
    exact pw_zreturn d48_17 t48 (by omega) ⟨rfl, 0, rfl, (by omega), (by omega), (by omega)⟩
  · refine pw_iload_n d48_4 rfl ?_
    refine pw_aload_n d48_5 rfl ?_
    refine pw_getI d48_6 g48_41 hT hA0 rfl rfl (fun u50 vu50 => ?_)
    refine pw_icmp_ge d48_9 rfl (by omega) (by omega) (fun c51 => ?_) (fun c51 => ?_)
    · refine pw_iconst d48_16 ?_
      exact pw_zreturn d48_17 t48 (by omega) ⟨rfl, 0, rfl, (by omega), (by omega), (by omega)⟩
    · refine pw_iconst d48_12 ?_
      refine pw_goto d48_13 rfl ?_
      exact pw_zreturn d48_17 t48 (by omega) ⟨rfl, 1, rfl, (by omega), (by omega), (by omega)⟩

abbrev Q55 (τ : Nat → Option Nat) (ρ : Nat → Nat → Nat) (h : pv_H) (a0 : Nat) (x1 : Int) : Option Value → pv_H → Prop := fun r h' => h = h' ∧ ∃ z : Int, r = some (.int (pv_I z)) ∧ 0 ≤ z ∧ z ≤ 1 ∧ ((z = 1 ∧ 0 ≤ x1 ∧ x1 ≤ 17 ∧ x1 < pv_fI h a0 1) ∨ (z = 0 ∧ (x1 < 0 ∨ pv_fI h a0 1 ≤ x1)))
set_option maxHeartbeats 4000000 in
set_option maxRecDepth 20000 in
/-- AngleNet$Net.isThird(I)Z -/
theorem c55 {τ : Nat → Option Nat} {ρ : Nat → Nat → Nat} {K : Nat → Nat} {h : pv_H} {a0 : Nat} {x1 : Int} (hT : pv_Ty τ ρ h) (hA0 : τ a0 = some 2) (hX1 : (-2147483648) ≤ x1 ∧ x1 ≤ 2147483647) : pv_C K 55 [.ref a0, .int (pv_I x1)] h (Q55 τ ρ h a0 x1) := by
  refine pw_entry 0 ?_
  show pv_T K 55 0 (pv_fl [some (.ref a0), some (.int (pv_I x1))]) [] h (Q55 τ ρ h a0 x1)
  refine pw_iload_n d55_0 rfl ?_
  refine pw_if_lt d55_1 rfl (by omega) (fun c58 => ?_) (fun c58 => ?_)
  · refine pw_iconst d55_16 ?_
    exact pw_zreturn d55_17 t55 (by omega) ⟨rfl, 0, rfl, (by omega), (by omega), (by omega)⟩
  · refine pw_iload_n d55_4 rfl ?_
    refine pw_aload_n d55_5 rfl ?_
    refine pw_getI d55_6 g55_45 hT hA0 rfl rfl (fun u59 vu59 => ?_)
    refine pw_icmp_ge d55_9 rfl (by omega) (by omega) (fun c60 => ?_) (fun c60 => ?_)
    · refine pw_iconst d55_16 ?_
      exact pw_zreturn d55_17 t55 (by omega) ⟨rfl, 0, rfl, (by omega), (by omega), (by omega)⟩
    · refine pw_iconst d55_12 ?_
      refine pw_goto d55_13 rfl ?_
      exact pw_zreturn d55_17 t55 (by omega) ⟨rfl, 1, rfl, (by omega), (by omega), (by omega)⟩

abbrev Q64 (τ : Nat → Option Nat) (ρ : Nat → Nat → Nat) (h : pv_H) (a0 : Nat) : Option Value → pv_H → Prop := fun r h' => h = h' ∧ ∃ z : Int, r = some (.int (pv_I z)) ∧ 0 ≤ z ∧ z ≤ 1
set_option maxHeartbeats 4000000 in
set_option maxRecDepth 20000 in
/-- AngleNet$Net.isThere()Z -/
theorem c64 {τ : Nat → Option Nat} {ρ : Nat → Nat → Nat} {K : Nat → Nat} {h : pv_H} {a0 : Nat} (hT : pv_Ty τ ρ h) (hA0 : τ a0 = some 2) : pv_C K 64 [.ref a0] h (Q64 τ ρ h a0) := by
  refine pw_entry 0 ?_
  show pv_T K 64 0 (pv_fl [some (.ref a0)]) [] h (Q64 τ ρ h a0)
  refine pw_aload_n d64_0 rfl ?_
  refine pw_getI d64_1 g64_41 hT hA0 rfl rfl (fun u65 vu65 => ?_)
  refine pw_if_le d64_4 rfl (by omega) (fun c66 => ?_) (fun c66 => ?_)
  · refine pw_iconst d64_11 ?_
    exact pw_zreturn d64_12 t64 (by omega) ⟨rfl, 0, rfl, (by omega), (by omega)⟩
  · refine pw_iconst d64_7 ?_
    refine pw_goto d64_8 rfl ?_
    exact pw_zreturn d64_12 t64 (by omega) ⟨rfl, 1, rfl, (by omega), (by omega)⟩

abbrev Q47 (τ : Nat → Option Nat) (ρ : Nat → Nat → Nat) (h : pv_H) (a0 : Nat) (x1 : Int) (x2 : Int) : Option Value → pv_H → Prop := fun r h' => h = h' ∧ ∃ z : Int, r = some (.int (pv_I z)) ∧ 0 ≤ z ∧ z ≤ 1 ∧ (z = 1 → 0 ≤ x1 ∧ x1 ≤ 9 ∧ 0 ≤ x2 ∧ x2 ≤ 9)
set_option maxHeartbeats 4000000 in
set_option maxRecDepth 20000 in
/-- AngleNet$Net.isSide(II)Z -/
theorem c47 {τ : Nat → Option Nat} {ρ : Nat → Nat → Nat} {K : Nat → Nat} {h : pv_H} {a0 : Nat} {x1 : Int} {x2 : Int} (hT : pv_Ty τ ρ h) (hA0 : τ a0 = some 2) (hX1 : (-2147483648) ≤ x1 ∧ x1 ≤ 2147483647) (hX2 : (-2147483648) ≤ x2 ∧ x2 ≤ 2147483647) : pv_C K 47 [.ref a0, .int (pv_I x1), .int (pv_I x2)] h (Q47 τ ρ h a0 x1 x2) := by
  refine pw_entry 0 ?_
  show pv_T K 47 0 (pv_fl [some (.ref a0), some (.int (pv_I x1)), some (.int (pv_I x2))]) [] h (Q47 τ ρ h a0 x1 x2)
  refine pw_aload_n d47_0 rfl ?_
  refine pw_iload_n d47_1 rfl ?_
  refine pw_callV1 d47_2 k47_78 hT hA0 rfl rfl rfl (c48 (τ := τ) (ρ := ρ) hT hA0 (by omega)) (fun r103 h104 q105 => ?_)
  obtain ⟨eh104, z108, ez108, lz108, uz108, pz108_0⟩ := q105
  subst eh104
  subst ez108
  refine pw_if_eq d47_5 rfl (by omega) (fun c109 => ?_) (fun c109 => ?_)
  · refine pw_iconst d47_39 ?_
    exact pw_zreturn d47_40 t47 (by omega) ⟨rfl, 0, rfl, (by omega), (by omega), (by omega)⟩
  · refine pw_aload_n d47_8 rfl ?_
    refine pw_iload_n d47_9 rfl ?_
    refine pw_callV1 d47_10 k47_78 hT hA0 rfl rfl rfl (c48 (τ := τ) (ρ := ρ) hT hA0 (by omega)) (fun r110 h111 q112 => ?_)
    obtain ⟨eh111, z115, ez115, lz115, uz115, pz115_0⟩ := q112
    subst eh111
    subst ez115
    refine pw_if_eq d47_13 rfl (by omega) (fun c116 => ?_) (fun c116 => ?_)
    · refine pw_iconst d47_39 ?_
      exact pw_zreturn d47_40 t47 (by omega) ⟨rfl, 0, rfl, (by omega), (by omega), (by omega)⟩
    · refine pw_iload_n d47_16 rfl ?_
      refine pw_iload_n d47_17 rfl ?_
      refine pw_icmp_eq d47_18 rfl (by omega) (by omega) (fun c117 => ?_) (fun c117 => ?_)
      · refine pw_iconst d47_39 ?_
        exact pw_zreturn d47_40 t47 (by omega) ⟨rfl, 0, rfl, (by omega), (by omega), (by omega)⟩
      · refine pw_aload_n d47_21 rfl ?_
        refine pw_getR d47_22 g47_33 hT hA0 rfl rfl (fun t118 => ?_)
        have t118 : τ (ρ a0 12) = some 27 := t118
        refine pw_bipush d47_25 (by decide) ?_
        refine pw_iload_n d47_27 rfl ?_
        refine pw_imul d47_28 ?_
        refine pw_iload_n d47_29 rfl ?_
        refine pw_iadd d47_30 ?_
        refine pw_iald d47_31 hT t118 rfl rfl (by omega) (by omega) (fun u119 vu119 => ?_)
        refine pw_if_le d47_32 rfl (by omega) (fun c120 => ?_) (fun c120 => ?_)
        · refine pw_iconst d47_39 ?_
          exact pw_zreturn d47_40 t47 (by omega) ⟨rfl, 0, rfl, (by omega), (by omega), (by omega)⟩
        · refine pw_iconst d47_35 ?_
          refine pw_goto d47_36 rfl ?_
          exact pw_zreturn d47_40 t47 (by omega) ⟨rfl, 1, rfl, (by omega), (by omega), (by omega)⟩

abbrev Q80 (τ : Nat → Option Nat) (ρ : Nat → Nat → Nat) (h : pv_H) (a0 : Nat) (x1 : Int) (x2 : Int) : Option Value → pv_H → Prop := fun r h' => h = h' ∧ ∃ z : Int, r = some (.int (pv_I z)) ∧ 0 ≤ z ∧ z ≤ 1
set_option maxHeartbeats 4000000 in
set_option maxRecDepth 20000 in
/-- AngleNet$Net.isRim(II)Z -/
theorem c80 {τ : Nat → Option Nat} {ρ : Nat → Nat → Nat} {K : Nat → Nat} {h : pv_H} {a0 : Nat} {x1 : Int} {x2 : Int} (hT : pv_Ty τ ρ h) (hA0 : τ a0 = some 2) (hX1 : (-2147483648) ≤ x1 ∧ x1 ≤ 2147483647) (hX2 : (-2147483648) ≤ x2 ∧ x2 ≤ 2147483647) : pv_C K 80 [.ref a0, .int (pv_I x1), .int (pv_I x2)] h (Q80 τ ρ h a0 x1 x2) := by
  refine pw_entry 0 ?_
  show pv_T K 80 0 (pv_fl [some (.ref a0), some (.int (pv_I x1)), some (.int (pv_I x2))]) [] h (Q80 τ ρ h a0 x1 x2)
  refine pw_aload_n d80_0 rfl ?_
  refine pw_iload_n d80_1 rfl ?_
  refine pw_callV1 d80_2 k80_78 hT hA0 rfl rfl rfl (c48 (τ := τ) (ρ := ρ) hT hA0 (by omega)) (fun r155 h156 q157 => ?_)
  obtain ⟨eh156, z160, ez160, lz160, uz160, pz160_0⟩ := q157
  subst eh156
  subst ez160
  refine pw_if_eq d80_5 rfl (by omega) (fun c161 => ?_) (fun c161 => ?_)
  · refine pw_iconst d80_35 ?_
    exact pw_zreturn d80_36 t80 (by omega) ⟨rfl, 0, rfl, (by omega), (by omega)⟩
  · refine pw_aload_n d80_8 rfl ?_
    refine pw_iload_n d80_9 rfl ?_
    refine pw_callV1 d80_10 k80_78 hT hA0 rfl rfl rfl (c48 (τ := τ) (ρ := ρ) hT hA0 (by omega)) (fun r162 h163 q164 => ?_)
    obtain ⟨eh163, z167, ez167, lz167, uz167, pz167_0⟩ := q164
    subst eh163
    subst ez167
    refine pw_if_eq d80_13 rfl (by omega) (fun c168 => ?_) (fun c168 => ?_)
    · refine pw_iconst d80_35 ?_
      exact pw_zreturn d80_36 t80 (by omega) ⟨rfl, 0, rfl, (by omega), (by omega)⟩
    · refine pw_aload_n d80_16 rfl ?_
      refine pw_getR d80_17 g80_33 hT hA0 rfl rfl (fun t169 => ?_)
      have t169 : τ (ρ a0 12) = some 27 := t169
      refine pw_bipush d80_20 (by decide) ?_
      refine pw_iload_n d80_22 rfl ?_
      refine pw_imul d80_23 ?_
      refine pw_iload_n d80_24 rfl ?_
      refine pw_iadd d80_25 ?_
      refine pw_iald d80_26 hT t169 rfl rfl (by omega) (by omega) (fun u170 vu170 => ?_)
      refine pw_iconst d80_27 ?_
      refine pw_icmp_ne d80_28 rfl (by omega) (by omega) (fun c171 => ?_) (fun c171 => ?_)
      · refine pw_iconst d80_35 ?_
        exact pw_zreturn d80_36 t80 (by omega) ⟨rfl, 0, rfl, (by omega), (by omega)⟩
      · refine pw_iconst d80_31 ?_
        refine pw_goto d80_32 rfl ?_
        exact pw_zreturn d80_36 t80 (by omega) ⟨rfl, 1, rfl, (by omega), (by omega)⟩

abbrev Q112 (τ : Nat → Option Nat) (ρ : Nat → Nat → Nat) (h : pv_H) (a0 : Nat) (x1 : Int) : Option Value → pv_H → Prop := fun r h' => h = h' ∧ ∃ z : Int, r = some (.int (pv_I z)) ∧ 0 ≤ z ∧ z ≤ 1 ∧ (z = 1 → 0 ≤ x1 ∧ x1 ≤ 9)
set_option maxHeartbeats 4000000 in
set_option maxRecDepth 20000 in
/-- AngleNet$Net.hasPlace(I)Z -/
theorem c112 {τ : Nat → Option Nat} {ρ : Nat → Nat → Nat} {K : Nat → Nat} {h : pv_H} {a0 : Nat} {x1 : Int} (hT : pv_Ty τ ρ h) (hA0 : τ a0 = some 2) (hX1 : (-2147483648) ≤ x1 ∧ x1 ≤ 2147483647) : pv_C K 112 [.ref a0, .int (pv_I x1)] h (Q112 τ ρ h a0 x1) := by
  refine pw_entry 0 ?_
  show pv_T K 112 0 (pv_fl [some (.ref a0), some (.int (pv_I x1))]) [] h (Q112 τ ρ h a0 x1)
  refine pw_aload_n d112_0 rfl ?_
  refine pw_iload_n d112_1 rfl ?_
  refine pw_callV1 d112_2 k112_78 hT hA0 rfl rfl rfl (c48 (τ := τ) (ρ := ρ) hT hA0 (by omega)) (fun r192 h193 q194 => ?_)
  obtain ⟨eh193, z197, ez197, lz197, uz197, pz197_0⟩ := q194
  subst eh193
  subst ez197
  refine pw_if_eq d112_5 rfl (by omega) (fun c198 => ?_) (fun c198 => ?_)
  · refine pw_iconst d112_22 ?_
    exact pw_zreturn d112_23 t112 (by omega) ⟨rfl, 0, rfl, (by omega), (by omega), (by omega)⟩
  · refine pw_aload_n d112_8 rfl ?_
    refine pw_getR d112_9 g112_21 hT hA0 rfl rfl (fun t199 => ?_)
    have t199 : τ (ρ a0 8) = some 23 := t199
    refine pw_iload_n d112_12 rfl ?_
    refine pw_iald d112_13 hT t199 rfl rfl (by omega) (by omega) (fun u200 vu200 => ?_)
    refine pw_iconst d112_14 ?_
    refine pw_icmp_eq d112_15 rfl (by omega) (by omega) (fun c201 => ?_) (fun c201 => ?_)
    · refine pw_iconst d112_22 ?_
      exact pw_zreturn d112_23 t112 (by omega) ⟨rfl, 0, rfl, (by omega), (by omega), (by omega)⟩
    · refine pw_iconst d112_18 ?_
      refine pw_goto d112_19 rfl ?_
      exact pw_zreturn d112_23 t112 (by omega) ⟨rfl, 1, rfl, (by omega), (by omega), (by omega)⟩

abbrev Q40 (τ : Nat → Option Nat) (ρ : Nat → Nat → Nat) (h : pv_H) (a0 : Nat) (x1 : Int) : Option Value → pv_H → Prop := fun r h' => h = h' ∧ ∃ z : Int, r = some (.int (pv_I z)) ∧ (-2147483648) ≤ z ∧ z ≤ 2147483647
set_option maxHeartbeats 4000000 in
set_option maxRecDepth 20000 in
/-- AngleNet$Net.postsOf(I)I -/
theorem c40 {τ : Nat → Option Nat} {ρ : Nat → Nat → Nat} {K : Nat → Nat} {h : pv_H} {a0 : Nat} {x1 : Int} (hT : pv_Ty τ ρ h) (hA0 : τ a0 = some 2) (hX1 : 0 ≤ x1 ∧ x1 ≤ 17) : pv_C K 40 [.ref a0, .int (pv_I x1)] h (Q40 τ ρ h a0 x1) := by
  refine pw_entry 0 ?_
  show pv_T K 40 0 (pv_fl [some (.ref a0), some (.int (pv_I x1))]) [] h (Q40 τ ρ h a0 x1)
  refine pw_iconst d40_0 ?_
  refine pw_aload_n d40_1 rfl ?_
  refine pw_getR d40_2 g40_9 hT hA0 rfl rfl (fun t224 => ?_)
  have t224 : τ (ρ a0 5) = some 20 := t224
  refine pw_iconst d40_5 ?_
  refine pw_iload_n d40_6 rfl ?_
  refine pw_imul d40_7 ?_
  refine pw_iald d40_8 hT t224 rfl rfl (by omega) (by omega) (fun u225 vu225 => ?_)
  refine pw_ishl d40_9 (fun z226 hz226 ez226 => ?_)
  refine pw_iconst d40_10 ?_
  refine pw_aload_n d40_11 rfl ?_
  refine pw_getR d40_12 g40_9 hT hA0 rfl rfl (fun t227 => ?_)
  have t227 : τ (ρ a0 5) = some 20 := t227
  refine pw_iconst d40_15 ?_
  refine pw_iload_n d40_16 rfl ?_
  refine pw_imul d40_17 ?_
  refine pw_iconst d40_18 ?_
  refine pw_iadd d40_19 ?_
  refine pw_iald d40_20 hT t227 rfl rfl (by omega) (by omega) (fun u228 vu228 => ?_)
  refine pw_ishl d40_21 (fun z229 hz229 ez229 => ?_)
  refine pw_ior d40_22 (fun z230 hz230 ez230 => ?_)
  refine pw_iconst d40_23 ?_
  refine pw_aload_n d40_24 rfl ?_
  refine pw_getR d40_25 g40_9 hT hA0 rfl rfl (fun t231 => ?_)
  have t231 : τ (ρ a0 5) = some 20 := t231
  refine pw_iconst d40_28 ?_
  refine pw_iload_n d40_29 rfl ?_
  refine pw_imul d40_30 ?_
  refine pw_iconst d40_31 ?_
  refine pw_iadd d40_32 ?_
  refine pw_iald d40_33 hT t231 rfl rfl (by omega) (by omega) (fun u232 vu232 => ?_)
  refine pw_ishl d40_34 (fun z233 hz233 ez233 => ?_)
  refine pw_ior d40_35 (fun z234 hz234 ez234 => ?_)
  exact pw_ireturn d40_36 t40 ⟨rfl, z234, rfl, (by omega), (by omega)⟩

abbrev Q58 (τ : Nat → Option Nat) (ρ : Nat → Nat → Nat) (h : pv_H) (a0 : Nat) (x1 : Int) (x2 : Int) : Option Value → pv_H → Prop := fun r h' => h = h' ∧ ∃ z : Int, r = some (.int (pv_I z)) ∧ 0 ≤ z ∧ z ≤ 1
set_option maxHeartbeats 4000000 in
set_option maxRecDepth 20000 in
/-- AngleNet$Net.hasPost(II)Z -/
theorem c58 {τ : Nat → Option Nat} {ρ : Nat → Nat → Nat} {K : Nat → Nat} {h : pv_H} {a0 : Nat} {x1 : Int} {x2 : Int} (hT : pv_Ty τ ρ h) (hA0 : τ a0 = some 2) (hX1 : 0 ≤ x1 ∧ x1 ≤ 17) (hX2 : (-2147483648) ≤ x2 ∧ x2 ≤ 2147483647) : pv_C K 58 [.ref a0, .int (pv_I x1), .int (pv_I x2)] h (Q58 τ ρ h a0 x1 x2) := by
  refine pw_entry 0 ?_
  show pv_T K 58 0 (pv_fl [some (.ref a0), some (.int (pv_I x1)), some (.int (pv_I x2))]) [] h (Q58 τ ρ h a0 x1 x2)
  refine pw_aload_n d58_0 rfl ?_
  refine pw_iload_n d58_1 rfl ?_
  refine pw_callV1 d58_2 k58_82 hT hA0 rfl rfl rfl (c40 (τ := τ) (ρ := ρ) hT hA0 (by omega)) (fun r253 h254 q255 => ?_)
  obtain ⟨eh254, z258, ez258, lz258, uz258⟩ := q255
  subst eh254
  subst ez258
  refine pw_iload_n d58_5 rfl ?_
  refine pw_ishr d58_6 (fun z259 hz259 ez259 => ?_)
  refine pw_iconst d58_7 ?_
  refine pw_iand d58_8 (fun z260 hz260 ez260 => ?_)
  refine pw_if_eq d58_9 rfl (by omega) (fun c261 => ?_) (fun c261 => ?_)
  · refine pw_iconst d58_16 ?_
    exact pw_zreturn d58_17 t58 (by omega) ⟨rfl, 0, rfl, (by omega), (by omega)⟩
  · refine pw_iconst d58_12 ?_
    refine pw_goto d58_13 rfl ?_
    exact pw_zreturn d58_17 t58 (by omega) ⟨rfl, 1, rfl, (by omega), (by omega)⟩

abbrev Q39 (τ : Nat → Option Nat) (ρ : Nat → Nat → Nat) (h : pv_H) (a0 : Nat) (x1 : Int) (x2 : Int) (x3 : Int) : Option Value → pv_H → Prop := fun r h' => h = h' ∧ ∃ z : Int, r = some (.int (pv_I z)) ∧ 0 ≤ z ∧ z ≤ 1
set_option maxHeartbeats 4000000 in
set_option maxRecDepth 20000 in
/-- AngleNet$Net.takesThird(III)Z -/
theorem c39 {τ : Nat → Option Nat} {ρ : Nat → Nat → Nat} {K : Nat → Nat} {h : pv_H} {a0 : Nat} {x1 : Int} {x2 : Int} {x3 : Int} (hT : pv_Ty τ ρ h) (hA0 : τ a0 = some 2) (hX1 : 0 ≤ x1 ∧ x1 ≤ 9) (hX2 : 0 ≤ x2 ∧ x2 ≤ 9) (hX3 : 0 ≤ x3 ∧ x3 ≤ 9) : pv_C K 39 [.ref a0, .int (pv_I x1), .int (pv_I x2), .int (pv_I x3)] h (Q39 τ ρ h a0 x1 x2 x3) := by
  refine pw_entry 2 ?_
  show pv_T K 39 0 (pv_fl [some (.ref a0), some (.int (pv_I x1)), some (.int (pv_I x2)), some (.int (pv_I x3)), none, none]) [] h (Q39 τ ρ h a0 x1 x2 x3)
  have L16 : ∀ (nn : Nat) (xL4_16 xL5_16 : Int), (0 ≤ x1 ∧ x1 ≤ 9) → (0 ≤ x2 ∧ x2 ≤ 9) → (0 ≤ x3 ∧ x3 ≤ 9) → ((-2147483648) ≤ xL4_16 ∧ xL4_16 ≤ 2147483647) → (0 ≤ xL5_16 ∧ xL5_16 ≤ 18) → 18 - xL5_16 < nn → pv_T K 39 16 (pv_fl [some (.ref a0), some (.int (pv_I x1)), some (.int (pv_I x2)), some (.int (pv_I x3)), some (.int (pv_I xL4_16)), some (.int (pv_I xL5_16))]) [] h (Q39 τ ρ h a0 x1 x2 x3) := by
    intro nn
    induction nn with
    | zero => intro xL4_16 xL5_16 rL1_16 rL2_16 rL3_16 rL4_16 rL5_16 hm; exfalso; omega
    | succ nn ih16 =>
      intro xL4_16 xL5_16 rL1_16 rL2_16 rL3_16 rL4_16 rL5_16 hm16
      refine pw_iload d39_16 rfl ?_
      refine pw_aload_n d39_18 rfl ?_
      refine pw_getI d39_19 g39_45 hT hA0 rfl rfl (fun u488 vu488 => ?_)
      refine pw_icmp_ge d39_22 rfl (by omega) (by omega) (fun c489 => ?_) (fun c489 => ?_)
      · refine pw_aload_n d39_44 rfl ?_
        refine pw_getR d39_45 g39_33 hT hA0 rfl rfl (fun t490 => ?_)
        have t490 : τ (ρ a0 12) = some 27 := t490
        refine pw_bipush d39_48 (by decide) ?_
        refine pw_iload_n d39_50 rfl ?_
        refine pw_imul d39_51 ?_
        refine pw_iload_n d39_52 rfl ?_
        refine pw_iadd d39_53 ?_
        refine pw_iald d39_54 hT t490 rfl rfl (by omega) (by omega) (fun u491 vu491 => ?_)
        refine pw_iconst d39_55 ?_
        refine pw_icmp_ge d39_56 rfl (by omega) (by omega) (fun c492 => ?_) (fun c492 => ?_)
        · refine pw_iconst d39_93 ?_
          exact pw_zreturn d39_94 t39 (by omega) ⟨rfl, 0, rfl, (by omega), (by omega)⟩
        · refine pw_aload_n d39_59 rfl ?_
          refine pw_getR d39_60 g39_33 hT hA0 rfl rfl (fun t493 => ?_)
          have t493 : τ (ρ a0 12) = some 27 := t493
          refine pw_bipush d39_63 (by decide) ?_
          refine pw_iload_n d39_65 rfl ?_
          refine pw_imul d39_66 ?_
          refine pw_iload_n d39_67 rfl ?_
          refine pw_iadd d39_68 ?_
          refine pw_iald d39_69 hT t493 rfl rfl (by omega) (by omega) (fun u494 vu494 => ?_)
          refine pw_iconst d39_70 ?_
          refine pw_icmp_ge d39_71 rfl (by omega) (by omega) (fun c495 => ?_) (fun c495 => ?_)
          · refine pw_iconst d39_93 ?_
            exact pw_zreturn d39_94 t39 (by omega) ⟨rfl, 0, rfl, (by omega), (by omega)⟩
          · refine pw_aload_n d39_74 rfl ?_
            refine pw_getR d39_75 g39_33 hT hA0 rfl rfl (fun t496 => ?_)
            have t496 : τ (ρ a0 12) = some 27 := t496
            refine pw_bipush d39_78 (by decide) ?_
            refine pw_iload_n d39_80 rfl ?_
            refine pw_imul d39_81 ?_
            refine pw_iload_n d39_82 rfl ?_
            refine pw_iadd d39_83 ?_
            refine pw_iald d39_84 hT t496 rfl rfl (by omega) (by omega) (fun u497 vu497 => ?_)
            refine pw_iconst d39_85 ?_
            refine pw_icmp_ge d39_86 rfl (by omega) (by omega) (fun c498 => ?_) (fun c498 => ?_)
            · refine pw_iconst d39_93 ?_
              exact pw_zreturn d39_94 t39 (by omega) ⟨rfl, 0, rfl, (by omega), (by omega)⟩
            · refine pw_iconst d39_89 ?_
              refine pw_goto d39_90 rfl ?_
              exact pw_zreturn d39_94 t39 (by omega) ⟨rfl, 1, rfl, (by omega), (by omega)⟩
      · refine pw_aload_n d39_25 rfl ?_
        refine pw_iload d39_26 rfl ?_
        refine pw_callV1 d39_28 k39_82 hT hA0 rfl rfl rfl (c40 (τ := τ) (ρ := ρ) hT hA0 (by omega)) (fun r499 h500 q501 => ?_)
        obtain ⟨eh500, z504, ez504, lz504, uz504⟩ := q501
        subst eh500
        subst ez504
        refine pw_iload d39_31 rfl ?_
        refine pw_icmp_ne d39_33 rfl (by omega) (by omega) (fun c505 => ?_) (fun c505 => ?_)
        · refine pw_iinc d39_38 m39 rfl rfl rfl ?_
          refine pw_goto d39_41 rfl ?_
          exact ih16 (xL4_16) ((xL5_16 + 1)) (by omega) (by omega) (by omega) (by omega) (by omega) (by omega)
        · refine pw_iconst d39_36 ?_
          exact pw_zreturn d39_37 t39 (by omega) ⟨rfl, 0, rfl, (by omega), (by omega)⟩
  refine pw_iconst d39_0 ?_
  refine pw_iload_n d39_1 rfl ?_
  refine pw_ishl d39_2 (fun z506 hz506 ez506 => ?_)
  refine pw_iconst d39_3 ?_
  refine pw_iload_n d39_4 rfl ?_
  refine pw_ishl d39_5 (fun z507 hz507 ez507 => ?_)
  refine pw_ior d39_6 (fun z508 hz508 ez508 => ?_)
  refine pw_iconst d39_7 ?_
  refine pw_iload_n d39_8 rfl ?_
  refine pw_ishl d39_9 (fun z509 hz509 ez509 => ?_)
  refine pw_ior d39_10 (fun z510 hz510 ez510 => ?_)
  refine pw_istore d39_11 m39 rfl rfl ?_
  refine pw_iconst d39_13 ?_
  refine pw_istore d39_14 m39 rfl rfl ?_
  exact L16 _ (z510) (0) (by omega) (by omega) (by omega) (by omega) (by omega) (pv_mu _)

abbrev Q43 (τ : Nat → Option Nat) (ρ : Nat → Nat → Nat) (h : pv_H) (a0 : Nat) (x1 : Int) (x2 : Int) : Option Value → pv_H → Prop := fun r h' => pv_Ty τ ρ h' ∧ pv_Fr τ [1791] h h' ∧ r = none
set_option maxHeartbeats 4000000 in
set_option maxRecDepth 20000 in
/-- AngleNet$Net.shareSides(II)V -/
theorem c43 {τ : Nat → Option Nat} {ρ : Nat → Nat → Nat} {K : Nat → Nat} {h : pv_H} {a0 : Nat} {x1 : Int} {x2 : Int} (hT : pv_Ty τ ρ h) (hA0 : τ a0 = some 2) (hX1 : 0 ≤ x1 ∧ x1 ≤ 17) (hX2 : (-2147483648) ≤ x2 ∧ x2 ≤ 2147483647) : pv_C K 43 [.ref a0, .int (pv_I x1), .int (pv_I x2)] h (Q43 τ ρ h a0 x1 x2) := by
  refine pw_entry 3 ?_
  show pv_T K 43 0 (pv_fl [some (.ref a0), some (.int (pv_I x1)), some (.int (pv_I x2)), none, none, none]) [] h (Q43 τ ρ h a0 x1 x2)
  have hF0 : pv_Fr τ [1791] h h := pv_Fr.rf
  have L2 : ∀ (nn : Nat) (h_2 : pv_H) (xL3_2 : Int) (o4_2 o5_2 : Option Value), (pv_Ty τ ρ h_2) → (pv_Fr τ [1791] h h_2) → (0 ≤ x1 ∧ x1 ≤ 17) → ((-2147483648) ≤ x2 ∧ x2 ≤ 2147483647) → (0 ≤ xL3_2 ∧ xL3_2 ≤ 3) → 3 - xL3_2 < nn → pv_T K 43 2 (pv_fl [some (.ref a0), some (.int (pv_I x1)), some (.int (pv_I x2)), some (.int (pv_I xL3_2)), o4_2, o5_2]) [] h_2 (Q43 τ ρ h a0 x1 x2) := by
    intro nn
    induction nn with
    | zero => intro h_2 xL3_2 o4_2 o5_2 hT_2 hF_2 rL1_2 rL2_2 rL3_2 hm; exfalso; omega
    | succ nn ih2 =>
      intro h_2 xL3_2 o4_2 o5_2 hT_2 hF_2 rL1_2 rL2_2 rL3_2 hm2
      refine pw_iload_n d43_2 rfl ?_
      refine pw_iconst d43_3 ?_
      refine pw_icmp_ge d43_4 rfl (by omega) (by omega) (fun c626 => ?_) (fun c626 => ?_)
      · exact pw_return d43_75 t43 ⟨hT_2, hF_2, rfl⟩
      · refine pw_aload_n d43_7 rfl ?_
        refine pw_getR d43_8 g43_9 hT_2 hA0 rfl rfl (fun t627 => ?_)
        have t627 : τ (ρ a0 5) = some 20 := t627
        refine pw_iconst d43_11 ?_
        refine pw_iload_n d43_12 rfl ?_
        refine pw_imul d43_13 ?_
        refine pw_iload_n d43_14 rfl ?_
        refine pw_iadd d43_15 ?_
        refine pw_iald d43_16 hT_2 t627 rfl rfl (by omega) (by omega) (fun u628 vu628 => ?_)
        refine pw_istore d43_17 m43 rfl rfl ?_
        refine pw_aload_n d43_19 rfl ?_
        refine pw_getR d43_20 g43_9 hT_2 hA0 rfl rfl (fun t629 => ?_)
        have t629 : τ (ρ a0 5) = some 20 := t629
        refine pw_iconst d43_23 ?_
        refine pw_iload_n d43_24 rfl ?_
        refine pw_imul d43_25 ?_
        refine pw_iload_n d43_26 rfl ?_
        refine pw_iconst d43_27 ?_
        refine pw_iadd d43_28 ?_
        refine pw_iconst d43_29 ?_
        refine pw_irem d43_30 (by omega) (by omega) (by omega) (by omega) ?_
        refine pw_iadd d43_31 ?_
        refine pw_iald d43_32 hT_2 t629 rfl rfl (by omega) (by omega) (fun u630 vu630 => ?_)
        refine pw_istore d43_33 m43 rfl rfl ?_
        refine pw_aload_n d43_35 rfl ?_
        refine pw_getR d43_36 g43_33 hT_2 hA0 rfl rfl (fun t631 => ?_)
        have t631 : τ (ρ a0 12) = some 27 := t631
        refine pw_bipush d43_39 (by decide) ?_
        refine pw_iload d43_41 rfl ?_
        refine pw_imul d43_43 ?_
        refine pw_iload d43_44 rfl ?_
        refine pw_iadd d43_46 ?_
        refine pw_dup2 d43_47 rfl rfl ?_
        refine pw_iald d43_48 hT_2 t631 rfl rfl (by omega) (by omega) (fun u632 vu632 => ?_)
        refine pw_name (x := (pv_aI h_2 (ρ a0 12) (((10 * (pv_aI h_2 (ρ a0 5) (((3 * x1) + xL3_2)).toNat)) + (pv_aI h_2 (ρ a0 5) (((3 * x1) + ((xL3_2 + 1) % 3))).toNat))).toNat)) (fun z633 ez633 => ?_)
        have hz633 : (-2147483648) ≤ z633 ∧ z633 ≤ 2147483647 := by subst ez633; omega
        refine pw_iload_n d43_49 rfl ?_
        refine pw_iadd d43_50 ?_
        refine pw_any (fun z634 hz634 ez634 => ?_)
        refine pw_iast d43_51 hT_2 t631 rfl rfl rfl (by omega) (by omega) (by omega) (by omega) (fun h635 T636 F637 E638 => ?_)
        have f639 := hF_2.tr (F637.up (by decide))
        refine pw_aload_n d43_52 rfl ?_
        refine pw_getR d43_53 g43_33 T636 hA0 rfl rfl (fun t640 => ?_)
        have t640 : τ (ρ a0 12) = some 27 := t640
        refine pw_bipush d43_56 (by decide) ?_
        refine pw_iload d43_58 rfl ?_
        refine pw_imul d43_60 ?_
        refine pw_iload d43_61 rfl ?_
        refine pw_iadd d43_63 ?_
        refine pw_dup2 d43_64 rfl rfl ?_
        refine pw_iald d43_65 T636 t640 rfl rfl (by omega) (by omega) (fun u641 vu641 => ?_)
        refine pw_name (x := (pv_aI h635 (ρ a0 12) (((10 * (pv_aI h_2 (ρ a0 5) (((3 * x1) + ((xL3_2 + 1) % 3))).toNat)) + (pv_aI h_2 (ρ a0 5) (((3 * x1) + xL3_2)).toNat))).toNat)) (fun z642 ez642 => ?_)
        have hz642 : (-2147483648) ≤ z642 ∧ z642 ≤ 2147483647 := by subst ez642; omega
        refine pw_iload_n d43_66 rfl ?_
        refine pw_iadd d43_67 ?_
        refine pw_any (fun z643 hz643 ez643 => ?_)
        refine pw_iast d43_68 T636 t640 rfl rfl rfl (by omega) (by omega) (by omega) (by omega) (fun h644 T645 F646 E647 => ?_)
        have f648 := f639.tr (F646.up (by decide))
        refine pw_iinc d43_69 m43 rfl rfl rfl ?_
        refine pw_goto d43_72 rfl ?_
        exact ih2 h644 ((xL3_2 + 1)) _ _ T645 f648 (by omega) (by omega) (by omega) (by omega)
  refine pw_iconst d43_0 ?_
  refine pw_istore_n d43_1 m43 rfl rfl ?_
  exact L2 _ h (0) _ _ hT hF0 (by omega) (by omega) (by omega) (pv_mu _)

abbrev Q42 (τ : Nat → Option Nat) (ρ : Nat → Nat → Nat) (h : pv_H) (a0 : Nat) (x1 : Int) (x2 : Int) (x3 : Int) (x4 : Int) (x5 : Int) : Option Value → pv_H → Prop := fun r h' => pv_Ty τ ρ h' ∧ pv_Fr τ [1343, 1407, 1791] h h' ∧ r = none
set_option maxHeartbeats 4000000 in
set_option maxRecDepth 20000 in
/-- AngleNet$Net.putThird(IIIII)V -/
theorem c42 {τ : Nat → Option Nat} {ρ : Nat → Nat → Nat} {K : Nat → Nat} {h : pv_H} {a0 : Nat} {x1 : Int} {x2 : Int} {x3 : Int} {x4 : Int} {x5 : Int} (hT : pv_Ty τ ρ h) (hA0 : τ a0 = some 2) (hX1 : 0 ≤ x1 ∧ x1 ≤ 17) (hX2 : 0 ≤ x2 ∧ x2 ≤ 9) (hX3 : 0 ≤ x3 ∧ x3 ≤ 9) (hX4 : 0 ≤ x4 ∧ x4 ≤ 9) (hX5 : 0 ≤ x5 ∧ x5 ≤ 540) : pv_C K 42 [.ref a0, .int (pv_I x1), .int (pv_I x2), .int (pv_I x3), .int (pv_I x4), .int (pv_I x5)] h (Q42 τ ρ h a0 x1 x2 x3 x4 x5) := by
  refine pw_entry 0 ?_
  show pv_T K 42 0 (pv_fl [some (.ref a0), some (.int (pv_I x1)), some (.int (pv_I x2)), some (.int (pv_I x3)), some (.int (pv_I x4)), some (.int (pv_I x5))]) [] h (Q42 τ ρ h a0 x1 x2 x3 x4 x5)
  have hF0 : pv_Fr τ [1343, 1407, 1791] h h := pv_Fr.rf
  refine pw_aload_n d42_0 rfl ?_
  refine pw_getR d42_1 g42_9 hT hA0 rfl rfl (fun t711 => ?_)
  have t711 : τ (ρ a0 5) = some 20 := t711
  refine pw_iconst d42_4 ?_
  refine pw_iload_n d42_5 rfl ?_
  refine pw_imul d42_6 ?_
  refine pw_iload_n d42_7 rfl ?_
  refine pw_iast d42_8 hT t711 rfl rfl rfl (by omega) (by omega) (by omega) (by omega) (fun h712 T713 F714 E715 => ?_)
  have f716 := hF0.tr (F714.up (by decide))
  refine pw_aload_n d42_9 rfl ?_
  refine pw_getR d42_10 g42_9 T713 hA0 rfl rfl (fun t717 => ?_)
  have t717 : τ (ρ a0 5) = some 20 := t717
  refine pw_iconst d42_13 ?_
  refine pw_iload_n d42_14 rfl ?_
  refine pw_imul d42_15 ?_
  refine pw_iconst d42_16 ?_
  refine pw_iadd d42_17 ?_
  refine pw_iload_n d42_18 rfl ?_
  refine pw_iast d42_19 T713 t717 rfl rfl rfl (by omega) (by omega) (by omega) (by omega) (fun h718 T719 F720 E721 => ?_)
  have f722 := f716.tr (F720.up (by decide))
  refine pw_aload_n d42_20 rfl ?_
  refine pw_getR d42_21 g42_9 T719 hA0 rfl rfl (fun t723 => ?_)
  have t723 : τ (ρ a0 5) = some 20 := t723
  refine pw_iconst d42_24 ?_
  refine pw_iload_n d42_25 rfl ?_
  refine pw_imul d42_26 ?_
  refine pw_iconst d42_27 ?_
  refine pw_iadd d42_28 ?_
  refine pw_iload d42_29 rfl ?_
  refine pw_iast d42_31 T719 t723 rfl rfl rfl (by omega) (by omega) (by omega) (by omega) (fun h724 T725 F726 E727 => ?_)
  have f728 := f722.tr (F726.up (by decide))
  refine pw_aload_n d42_32 rfl ?_
  refine pw_getR d42_33 g42_15 T725 hA0 rfl rfl (fun t729 => ?_)
  have t729 : τ (ρ a0 6) = some 21 := t729
  refine pw_iload_n d42_36 rfl ?_
  refine pw_iload d42_37 rfl ?_
  refine pw_iast d42_39 T725 t729 rfl rfl rfl (by omega) (by omega) (by omega) (by omega) (fun h730 T731 F732 E733 => ?_)
  have f734 := f728.tr (F732.up (by decide))
  refine pw_aload_n d42_40 rfl ?_
  refine pw_iload_n d42_41 rfl ?_
  refine pw_iconst d42_42 ?_
  refine pw_callV2 d42_43 k42_86 T731 hA0 rfl rfl rfl (c43 (τ := τ) (ρ := ρ) T731 hA0 (by omega) (by omega)) (fun r735 h736 q737 => ?_)
  obtain ⟨T738, F739, ez740⟩ := q737
  subst ez740
  have f741 := f734.tr (F739.up (by decide))
  exact pw_return d42_46 t42 ⟨T738, f741, rfl⟩

abbrev Q126 (τ : Nat → Option Nat) (ρ : Nat → Nat → Nat) (h : pv_H) (a0 : Nat) (x1 : Int) : Option Value → pv_H → Prop := fun r h' => pv_Ty τ ρ h' ∧ pv_Fr τ [1791] h h' ∧ r = none
set_option maxHeartbeats 4000000 in
set_option maxRecDepth 20000 in
/-- AngleNet$Net.liftThird(I)V -/
theorem c126 {τ : Nat → Option Nat} {ρ : Nat → Nat → Nat} {K : Nat → Nat} {h : pv_H} {a0 : Nat} {x1 : Int} (hT : pv_Ty τ ρ h) (hA0 : τ a0 = some 2) (hX1 : 0 ≤ x1 ∧ x1 ≤ 17) : pv_C K 126 [.ref a0, .int (pv_I x1)] h (Q126 τ ρ h a0 x1) := by
  refine pw_entry 0 ?_
  show pv_T K 126 0 (pv_fl [some (.ref a0), some (.int (pv_I x1))]) [] h (Q126 τ ρ h a0 x1)
  have hF0 : pv_Fr τ [1791] h h := pv_Fr.rf
  refine pw_aload_n d126_0 rfl ?_
  refine pw_iload_n d126_1 rfl ?_
  refine pw_iconst d126_2 ?_
  refine pw_callV2 d126_3 k126_86 hT hA0 rfl rfl rfl (c43 (τ := τ) (ρ := ρ) hT hA0 (by omega) (by omega)) (fun r756 h757 q758 => ?_)
  obtain ⟨T759, F760, ez761⟩ := q758
  subst ez761
  have f762 := hF0.tr (F760.up (by decide))
  exact pw_return d126_6 t126 ⟨T759, f762, rfl⟩

abbrev Q49 (τ : Nat → Option Nat) (ρ : Nat → Nat → Nat) (h : pv_H) (a0 : Nat) (x1 : Int) (x2 : Int) (x3 : Int) : Option Value → pv_H → Prop := fun r h' => pv_Ty τ ρ h' ∧ pv_Fr τ [1727] h h' ∧ r = none
set_option maxHeartbeats 4000000 in
set_option maxRecDepth 20000 in
/-- AngleNet$Net.putWeight(III)V -/
theorem c49 {τ : Nat → Option Nat} {ρ : Nat → Nat → Nat} {K : Nat → Nat} {h : pv_H} {a0 : Nat} {x1 : Int} {x2 : Int} {x3 : Int} (hT : pv_Ty τ ρ h) (hA0 : τ a0 = some 2) (hX1 : 0 ≤ x1 ∧ x1 ≤ 9) (hX2 : 0 ≤ x2 ∧ x2 ≤ 9) (hX3 : 0 ≤ x3 ∧ x3 ≤ 360) : pv_C K 49 [.ref a0, .int (pv_I x1), .int (pv_I x2), .int (pv_I x3)] h (Q49 τ ρ h a0 x1 x2 x3) := by
  refine pw_entry 0 ?_
  show pv_T K 49 0 (pv_fl [some (.ref a0), some (.int (pv_I x1)), some (.int (pv_I x2)), some (.int (pv_I x3))]) [] h (Q49 τ ρ h a0 x1 x2 x3)
  have hF0 : pv_Fr τ [1727] h h := pv_Fr.rf
  refine pw_aload_n d49_0 rfl ?_
  refine pw_getR d49_1 g49_30 hT hA0 rfl rfl (fun t787 => ?_)
  have t787 : τ (ρ a0 11) = some 26 := t787
  refine pw_bipush d49_4 (by decide) ?_
  refine pw_iload_n d49_6 rfl ?_
  refine pw_imul d49_7 ?_
  refine pw_iload_n d49_8 rfl ?_
  refine pw_iadd d49_9 ?_
  refine pw_iload_n d49_10 rfl ?_
  refine pw_iast d49_11 hT t787 rfl rfl rfl (by omega) (by omega) (by omega) (by omega) (fun h788 T789 F790 E791 => ?_)
  have f792 := hF0.tr (F790.up (by decide))
  refine pw_aload_n d49_12 rfl ?_
  refine pw_getR d49_13 g49_30 T789 hA0 rfl rfl (fun t793 => ?_)
  have t793 : τ (ρ a0 11) = some 26 := t793
  refine pw_bipush d49_16 (by decide) ?_
  refine pw_iload_n d49_18 rfl ?_
  refine pw_imul d49_19 ?_
  refine pw_iload_n d49_20 rfl ?_
  refine pw_iadd d49_21 ?_
  refine pw_iload_n d49_22 rfl ?_
  refine pw_iast d49_23 T789 t793 rfl rfl rfl (by omega) (by omega) (by omega) (by omega) (fun h794 T795 F796 E797 => ?_)
  have f798 := f792.tr (F796.up (by decide))
  exact pw_return d49_24 t49 ⟨T795, f798, rfl⟩

abbrev Q57 (τ : Nat → Option Nat) (ρ : Nat → Nat → Nat) (h : pv_H) (a0 : Nat) (x1 : Int) : Option Value → pv_H → Prop := fun r h' => h = h' ∧ ∃ z : Int, r = some (.int (pv_I z)) ∧ (-2147483648) ≤ z ∧ z ≤ 2147483647
set_option maxHeartbeats 4000000 in
set_option maxRecDepth 20000 in
/-- AngleNet$Net.thirdsAt(I)I -/
theorem c57 {τ : Nat → Option Nat} {ρ : Nat → Nat → Nat} {K : Nat → Nat} {h : pv_H} {a0 : Nat} {x1 : Int} (hT : pv_Ty τ ρ h) (hA0 : τ a0 = some 2) (hX1 : (-2147483648) ≤ x1 ∧ x1 ≤ 2147483647) : pv_C K 57 [.ref a0, .int (pv_I x1)] h (Q57 τ ρ h a0 x1) := by
  refine pw_entry 2 ?_
  show pv_T K 57 0 (pv_fl [some (.ref a0), some (.int (pv_I x1)), none, none]) [] h (Q57 τ ρ h a0 x1)
  have L4 : ∀ (nn : Nat) (xL2_4 xL3_4 : Int), ((-2147483648) ≤ x1 ∧ x1 ≤ 2147483647) → ((-2147483648) ≤ xL2_4 ∧ xL2_4 ≤ 2147483647) → (0 ≤ xL3_4 ∧ xL3_4 ≤ 18) → 18 - xL3_4 < nn → pv_T K 57 4 (pv_fl [some (.ref a0), some (.int (pv_I x1)), some (.int (pv_I xL2_4)), some (.int (pv_I xL3_4))]) [] h (Q57 τ ρ h a0 x1) := by
    intro nn
    induction nn with
    | zero => intro xL2_4 xL3_4 rL1_4 rL2_4 rL3_4 hm; exfalso; omega
    | succ nn ih4 =>
      intro xL2_4 xL3_4 rL1_4 rL2_4 rL3_4 hm4
      have J27 : ∀ (xS0_27 : Int) (o2_27 : Option Value), ((-2147483648) ≤ x1 ∧ x1 ≤ 2147483647) → (0 ≤ xL3_4 ∧ xL3_4 ≤ 17) → (0 ≤ xS0_27 ∧ xS0_27 ≤ 1) → ((-2147483648) ≤ xL2_4 ∧ xL2_4 ≤ 2147483647) → pv_T K 57 27 (pv_fl [some (.ref a0), some (.int (pv_I x1)), o2_27, some (.int (pv_I xL3_4))]) [.int (pv_I xS0_27), .int (pv_I xL2_4)] h (Q57 τ ρ h a0 x1) := by
        intro xS0_27 o2_27 rL1_27 rL3_27 rS0_27 rS1_27
        refine pw_iadd d57_27 ?_
        refine pw_any (fun z1207 hz1207 ez1207 => ?_)
        refine pw_istore_n d57_28 m57 rfl rfl ?_
        refine pw_iinc d57_29 m57 rfl rfl rfl ?_
        refine pw_goto d57_32 rfl ?_
        exact ih4 (z1207) ((xL3_4 + 1)) (by omega) (by omega) (by omega) (by omega)
      refine pw_iload_n d57_4 rfl ?_
      refine pw_aload_n d57_5 rfl ?_
      refine pw_getI d57_6 g57_45 hT hA0 rfl rfl (fun u1208 vu1208 => ?_)
      refine pw_icmp_ge d57_9 rfl (by omega) (by omega) (fun c1209 => ?_) (fun c1209 => ?_)
      · refine pw_iload_n d57_35 rfl ?_
        exact pw_ireturn d57_36 t57 ⟨rfl, xL2_4, rfl, (by omega), (by omega)⟩
      · refine pw_iload_n d57_12 rfl ?_
        refine pw_aload_n d57_13 rfl ?_
        refine pw_iload_n d57_14 rfl ?_
        refine pw_iload_n d57_15 rfl ?_
        refine pw_callV2 d57_16 k57_90 hT hA0 rfl rfl rfl (c58 (τ := τ) (ρ := ρ) hT hA0 (by omega) (by omega)) (fun r1210 h1211 q1212 => ?_)
        obtain ⟨eh1211, z1215, ez1215, lz1215, uz1215⟩ := q1212
        subst eh1211
        subst ez1215
        refine pw_if_eq d57_19 rfl (by omega) (fun c1216 => ?_) (fun c1216 => ?_)
        · refine pw_iconst d57_26 ?_
          exact J27 (0) _ (by omega) (by omega) (by omega) (by omega)
        · refine pw_iconst d57_22 ?_
          refine pw_goto d57_23 rfl ?_
          exact J27 (1) _ (by omega) (by omega) (by omega) (by omega)
  refine pw_iconst d57_0 ?_
  refine pw_istore_n d57_1 m57 rfl rfl ?_
  refine pw_iconst d57_2 ?_
  refine pw_istore_n d57_3 m57 rfl rfl ?_
  exact L4 _ (0) (0) (by omega) (by omega) (by omega) (pv_mu _)

abbrev Q59 (τ : Nat → Option Nat) (ρ : Nat → Nat → Nat) (h : pv_H) (a0 : Nat) (x1 : Int) : Option Value → pv_H → Prop := fun r h' => h = h' ∧ ∃ z : Int, r = some (.int (pv_I z)) ∧ (-2147483648) ≤ z ∧ z ≤ 2147483647
set_option maxHeartbeats 4000000 in
set_option maxRecDepth 20000 in
/-- AngleNet$Net.sidesAt(I)I -/
theorem c59 {τ : Nat → Option Nat} {ρ : Nat → Nat → Nat} {K : Nat → Nat} {h : pv_H} {a0 : Nat} {x1 : Int} (hT : pv_Ty τ ρ h) (hA0 : τ a0 = some 2) (hX1 : (-2147483648) ≤ x1 ∧ x1 ≤ 2147483647) : pv_C K 59 [.ref a0, .int (pv_I x1)] h (Q59 τ ρ h a0 x1) := by
  refine pw_entry 2 ?_
  show pv_T K 59 0 (pv_fl [some (.ref a0), some (.int (pv_I x1)), none, none]) [] h (Q59 τ ρ h a0 x1)
  have L4 : ∀ (nn : Nat) (xL2_4 xL3_4 : Int), ((-2147483648) ≤ x1 ∧ x1 ≤ 2147483647) → ((-2147483648) ≤ xL2_4 ∧ xL2_4 ≤ 2147483647) → (0 ≤ xL3_4 ∧ xL3_4 ≤ 10) → 10 - xL3_4 < nn → pv_T K 59 4 (pv_fl [some (.ref a0), some (.int (pv_I x1)), some (.int (pv_I xL2_4)), some (.int (pv_I xL3_4))]) [] h (Q59 τ ρ h a0 x1) := by
    intro nn
    induction nn with
    | zero => intro xL2_4 xL3_4 rL1_4 rL2_4 rL3_4 hm; exfalso; omega
    | succ nn ih4 =>
      intro xL2_4 xL3_4 rL1_4 rL2_4 rL3_4 hm4
      have J27 : ∀ (xS0_27 : Int) (o2_27 : Option Value), ((-2147483648) ≤ x1 ∧ x1 ≤ 2147483647) → (0 ≤ xL3_4 ∧ xL3_4 ≤ 9) → (0 ≤ xS0_27 ∧ xS0_27 ≤ 1) → ((-2147483648) ≤ xL2_4 ∧ xL2_4 ≤ 2147483647) → pv_T K 59 27 (pv_fl [some (.ref a0), some (.int (pv_I x1)), o2_27, some (.int (pv_I xL3_4))]) [.int (pv_I xS0_27), .int (pv_I xL2_4)] h (Q59 τ ρ h a0 x1) := by
        intro xS0_27 o2_27 rL1_27 rL3_27 rS0_27 rS1_27
        refine pw_iadd d59_27 ?_
        refine pw_any (fun z1625 hz1625 ez1625 => ?_)
        refine pw_istore_n d59_28 m59 rfl rfl ?_
        refine pw_iinc d59_29 m59 rfl rfl rfl ?_
        refine pw_goto d59_32 rfl ?_
        exact ih4 (z1625) ((xL3_4 + 1)) (by omega) (by omega) (by omega) (by omega)
      refine pw_iload_n d59_4 rfl ?_
      refine pw_aload_n d59_5 rfl ?_
      refine pw_getI d59_6 g59_41 hT hA0 rfl rfl (fun u1626 vu1626 => ?_)
      refine pw_icmp_ge d59_9 rfl (by omega) (by omega) (fun c1627 => ?_) (fun c1627 => ?_)
      · refine pw_iload_n d59_35 rfl ?_
        exact pw_ireturn d59_36 t59 ⟨rfl, xL2_4, rfl, (by omega), (by omega)⟩
      · refine pw_iload_n d59_12 rfl ?_
        refine pw_aload_n d59_13 rfl ?_
        refine pw_iload_n d59_14 rfl ?_
        refine pw_iload_n d59_15 rfl ?_
        refine pw_callV2 d59_16 k59_94 hT hA0 rfl rfl rfl (c47 (τ := τ) (ρ := ρ) hT hA0 (by omega) (by omega)) (fun r1628 h1629 q1630 => ?_)
        obtain ⟨eh1629, z1633, ez1633, lz1633, uz1633, pz1633_0⟩ := q1630
        subst eh1629
        subst ez1633
        refine pw_if_eq d59_19 rfl (by omega) (fun c1634 => ?_) (fun c1634 => ?_)
        · refine pw_iconst d59_26 ?_
          exact J27 (0) _ (by omega) (by omega) (by omega) (by omega)
        · refine pw_iconst d59_22 ?_
          refine pw_goto d59_23 rfl ?_
          exact J27 (1) _ (by omega) (by omega) (by omega) (by omega)
  refine pw_iconst d59_0 ?_
  refine pw_istore_n d59_1 m59 rfl rfl ?_
  refine pw_iconst d59_2 ?_
  refine pw_istore_n d59_3 m59 rfl rfl ?_
  exact L4 _ (0) (0) (by omega) (by omega) (by omega) (pv_mu _)

abbrev Q68 (τ : Nat → Option Nat) (ρ : Nat → Nat → Nat) (h : pv_H) (a0 : Nat) : Option Value → pv_H → Prop := fun r h' => h = h' ∧ ∃ z : Int, r = some (.int (pv_I z)) ∧ (-2147483648) ≤ z ∧ z ≤ 2147483647
set_option maxHeartbeats 4000000 in
set_option maxRecDepth 20000 in
/-- AngleNet$Net.sideCount()I -/
theorem c68 {τ : Nat → Option Nat} {ρ : Nat → Nat → Nat} {K : Nat → Nat} {h : pv_H} {a0 : Nat} (hT : pv_Ty τ ρ h) (hA0 : τ a0 = some 2) : pv_C K 68 [.ref a0] h (Q68 τ ρ h a0) := by
  refine pw_entry 2 ?_
  show pv_T K 68 0 (pv_fl [some (.ref a0), none, none]) [] h (Q68 τ ρ h a0)
  have L4 : ∀ (nn : Nat) (xL1_4 xL2_4 : Int), ((-2147483648) ≤ xL1_4 ∧ xL1_4 ≤ 2147483647) → (0 ≤ xL2_4 ∧ xL2_4 ≤ 10) → 10 - xL2_4 < nn → pv_T K 68 4 (pv_fl [some (.ref a0), some (.int (pv_I xL1_4)), some (.int (pv_I xL2_4))]) [] h (Q68 τ ρ h a0) := by
    intro nn
    induction nn with
    | zero => intro xL1_4 xL2_4 rL1_4 rL2_4 hm; exfalso; omega
    | succ nn ih4 =>
      intro xL1_4 xL2_4 rL1_4 rL2_4 hm4
      refine pw_iload_n d68_4 rfl ?_
      refine pw_aload_n d68_5 rfl ?_
      refine pw_getI d68_6 g68_41 hT hA0 rfl rfl (fun u1733 vu1733 => ?_)
      refine pw_icmp_ge d68_9 rfl (by omega) (by omega) (fun c1734 => ?_) (fun c1734 => ?_)
      · refine pw_iload_n d68_26 rfl ?_
        refine pw_iconst d68_27 ?_
        refine pw_idivU d68_28 (by omega) (by omega) (fun z1735 hz1735 ez1735 => ?_)
        exact pw_ireturn d68_29 t68 ⟨rfl, z1735, rfl, (by omega), (by omega)⟩
      · refine pw_iload_n d68_12 rfl ?_
        refine pw_aload_n d68_13 rfl ?_
        refine pw_iload_n d68_14 rfl ?_
        refine pw_callV1 d68_15 k68_97 hT hA0 rfl rfl rfl (c59 (τ := τ) (ρ := ρ) hT hA0 (by omega)) (fun r1736 h1737 q1738 => ?_)
        obtain ⟨eh1737, z1741, ez1741, lz1741, uz1741⟩ := q1738
        subst eh1737
        subst ez1741
        refine pw_iadd d68_18 ?_
        refine pw_any (fun z1742 hz1742 ez1742 => ?_)
        refine pw_istore_n d68_19 m68 rfl rfl ?_
        refine pw_iinc d68_20 m68 rfl rfl rfl ?_
        refine pw_goto d68_23 rfl ?_
        exact ih4 (z1742) ((xL2_4 + 1)) (by omega) (by omega) (by omega)
  refine pw_iconst d68_0 ?_
  refine pw_istore_n d68_1 m68 rfl rfl ?_
  refine pw_iconst d68_2 ?_
  refine pw_istore_n d68_3 m68 rfl rfl ?_
  exact L4 _ (0) (0) (by omega) (by omega) (pv_mu _)

abbrev Q62 (τ : Nat → Option Nat) (ρ : Nat → Nat → Nat) (h : pv_H) (a0 : Nat) (x1 : Int) : Option Value → pv_H → Prop := fun r h' => h = h' ∧ ∃ z : Int, r = some (.int (pv_I z)) ∧ (-1) ≤ z ∧ z ≤ 99
set_option maxHeartbeats 4000000 in
set_option maxRecDepth 20000 in
/-- AngleNet$Net.sideNumbered(I)I -/
theorem c62 {τ : Nat → Option Nat} {ρ : Nat → Nat → Nat} {K : Nat → Nat} {h : pv_H} {a0 : Nat} {x1 : Int} (hT : pv_Ty τ ρ h) (hA0 : τ a0 = some 2) (hX1 : (-2147483648) ≤ x1 ∧ x1 ≤ 2147483647) : pv_C K 62 [.ref a0, .int (pv_I x1)] h (Q62 τ ρ h a0 x1) := by
  refine pw_entry 3 ?_
  show pv_T K 62 0 (pv_fl [some (.ref a0), some (.int (pv_I x1)), none, none, none]) [] h (Q62 τ ρ h a0 x1)
  have L4 : ∀ (nn : Nat) (xL2_4 xL3_4 : Int) (o4_4 : Option Value), ((-2147483648) ≤ x1 ∧ x1 ≤ 2147483647) → ((-2147483648) ≤ xL2_4 ∧ xL2_4 ≤ 2147483647) → (0 ≤ xL3_4 ∧ xL3_4 ≤ 10) → 10 - xL3_4 < nn → pv_T K 62 4 (pv_fl [some (.ref a0), some (.int (pv_I x1)), some (.int (pv_I xL2_4)), some (.int (pv_I xL3_4)), o4_4]) [] h (Q62 τ ρ h a0 x1) := by
    intro nn
    induction nn with
    | zero => intro xL2_4 xL3_4 o4_4 rL1_4 rL2_4 rL3_4 hm; exfalso; omega
    | succ nn ih4 =>
      intro xL2_4 xL3_4 o4_4 rL1_4 rL2_4 rL3_4 hm4
      have L17 : ∀ (nn : Nat) (xL2_17 xL4_17 : Int), ((-2147483648) ≤ x1 ∧ x1 ≤ 2147483647) → ((-2147483648) ≤ xL2_17 ∧ xL2_17 ≤ 2147483647) → (0 ≤ xL3_4 ∧ xL3_4 ≤ 9) → (1 ≤ xL4_17 ∧ xL4_17 ≤ 10) → 10 - xL4_17 < nn → pv_T K 62 17 (pv_fl [some (.ref a0), some (.int (pv_I x1)), some (.int (pv_I xL2_17)), some (.int (pv_I xL3_4)), some (.int (pv_I xL4_17))]) [] h (Q62 τ ρ h a0 x1) := by
        intro nn
        induction nn with
        | zero => intro xL2_17 xL4_17 rL1_17 rL2_17 rL3_17 rL4_17 hm; exfalso; omega
        | succ nn ih17 =>
          intro xL2_17 xL4_17 rL1_17 rL2_17 rL3_17 rL4_17 hm17
          have J52 : ∀ (xL2_52 : Int), ((-2147483648) ≤ x1 ∧ x1 ≤ 2147483647) → ((-2147483648) ≤ xL2_52 ∧ xL2_52 ≤ 2147483647) → (0 ≤ xL3_4 ∧ xL3_4 ≤ 9) → (1 ≤ xL4_17 ∧ xL4_17 ≤ 9) → pv_T K 62 52 (pv_fl [some (.ref a0), some (.int (pv_I x1)), some (.int (pv_I xL2_52)), some (.int (pv_I xL3_4)), some (.int (pv_I xL4_17))]) [] h (Q62 τ ρ h a0 x1) := by
            intro xL2_52 rL1_52 rL2_52 rL3_52 rL4_52
            refine pw_iinc d62_52 m62 rfl rfl rfl ?_
            refine pw_goto d62_55 rfl ?_
            exact ih17 (xL2_52) ((xL4_17 + 1)) (by omega) (by omega) (by omega) (by omega) (by omega)
          refine pw_iload d62_17 rfl ?_
          refine pw_aload_n d62_19 rfl ?_
          refine pw_getI d62_20 g62_41 hT hA0 rfl rfl (fun u2372 vu2372 => ?_)
          refine pw_icmp_ge d62_23 rfl (by omega) (by omega) (fun c2373 => ?_) (fun c2373 => ?_)
          · refine pw_iinc d62_58 m62 rfl rfl rfl ?_
            refine pw_goto d62_61 rfl ?_
            exact ih4 (xL2_17) ((xL3_4 + 1)) _ (by omega) (by omega) (by omega) (by omega)
          · refine pw_aload_n d62_26 rfl ?_
            refine pw_iload_n d62_27 rfl ?_
            refine pw_iload d62_28 rfl ?_
            refine pw_callV2 d62_30 k62_94 hT hA0 rfl rfl rfl (c47 (τ := τ) (ρ := ρ) hT hA0 (by omega) (by omega)) (fun r2374 h2375 q2376 => ?_)
            obtain ⟨eh2375, z2379, ez2379, lz2379, uz2379, pz2379_0⟩ := q2376
            subst eh2375
            subst ez2379
            refine pw_if_eq d62_33 rfl (by omega) (fun c2380 => ?_) (fun c2380 => ?_)
            · exact J52 (xL2_17) (by omega) (by omega) (by omega) (by omega)
            · refine pw_iload_n d62_36 rfl ?_
              refine pw_iload_n d62_37 rfl ?_
              refine pw_icmp_ne d62_38 rfl (by omega) (by omega) (fun c2381 => ?_) (fun c2381 => ?_)
              · refine pw_iincU d62_49 m62 rfl rfl rfl (fun z2382 hz2382 => ?_)
                exact J52 (z2382) (by omega) (by omega) (by omega) (by omega)
              · refine pw_bipush d62_41 (by decide) ?_
                refine pw_iload_n d62_43 rfl ?_
                refine pw_imul d62_44 ?_
                refine pw_iload d62_45 rfl ?_
                refine pw_iadd d62_47 ?_
                exact pw_ireturn d62_48 t62 ⟨rfl, ((10 * xL3_4) + xL4_17), rfl, (by omega), (by omega)⟩
      refine pw_iload_n d62_4 rfl ?_
      refine pw_aload_n d62_5 rfl ?_
      refine pw_getI d62_6 g62_41 hT hA0 rfl rfl (fun u2383 vu2383 => ?_)
      refine pw_icmp_ge d62_9 rfl (by omega) (by omega) (fun c2384 => ?_) (fun c2384 => ?_)
      · refine pw_iconst d62_64 ?_
        exact pw_ireturn d62_65 t62 ⟨rfl, (-1), rfl, (by omega), (by omega)⟩
      · refine pw_iload_n d62_12 rfl ?_
        refine pw_iconst d62_13 ?_
        refine pw_iadd d62_14 ?_
        refine pw_istore d62_15 m62 rfl rfl ?_
        exact L17 _ (xL2_4) ((xL3_4 + 1)) (by omega) (by omega) (by omega) (by omega) (pv_mu _)
  refine pw_iconst d62_0 ?_
  refine pw_istore_n d62_1 m62 rfl rfl ?_
  refine pw_iconst d62_2 ?_
  refine pw_istore_n d62_3 m62 rfl rfl ?_
  exact L4 _ (0) (0) _ (by omega) (by omega) (by omega) (pv_mu _)

abbrev Q88 (τ : Nat → Option Nat) (ρ : Nat → Nat → Nat) (h : pv_H) (a0 : Nat) (x1 : Int) (x2 : Int) (x3 : Int) : Option Value → pv_H → Prop := fun r h' => h = h' ∧ ∃ z : Int, r = some (.int (pv_I z)) ∧ (-1) ≤ z ∧ z ≤ 17
set_option maxHeartbeats 4000000 in
set_option maxRecDepth 20000 in
/-- AngleNet$Net.thirdOn(III)I -/
theorem c88 {τ : Nat → Option Nat} {ρ : Nat → Nat → Nat} {K : Nat → Nat} {h : pv_H} {a0 : Nat} {x1 : Int} {x2 : Int} {x3 : Int} (hT : pv_Ty τ ρ h) (hA0 : τ a0 = some 2) (hX1 : (-2147483648) ≤ x1 ∧ x1 ≤ 2147483647) (hX2 : (-2147483648) ≤ x2 ∧ x2 ≤ 2147483647) (hX3 : (-2147483648) ≤ x3 ∧ x3 ≤ 2147483647) : pv_C K 88 [.ref a0, .int (pv_I x1), .int (pv_I x2), .int (pv_I x3)] h (Q88 τ ρ h a0 x1 x2 x3) := by
  refine pw_entry 2 ?_
  show pv_T K 88 0 (pv_fl [some (.ref a0), some (.int (pv_I x1)), some (.int (pv_I x2)), some (.int (pv_I x3)), none, none]) [] h (Q88 τ ρ h a0 x1 x2 x3)
  have L16 : ∀ (nn : Nat) (xL4_16 xL5_16 : Int) (o1_16 o2_16 o3_16 : Option Value), ((-2147483648) ≤ xL4_16 ∧ xL4_16 ≤ 2147483647) → (0 ≤ xL5_16 ∧ xL5_16 ≤ 2147483647) → 2147483647 - xL5_16 < nn → pv_T K 88 16 (pv_fl [some (.ref a0), o1_16, o2_16, o3_16, some (.int (pv_I xL4_16)), some (.int (pv_I xL5_16))]) [] h (Q88 τ ρ h a0 x1 x2 x3) := by
    intro nn
    induction nn with
    | zero => intro xL4_16 xL5_16 o1_16 o2_16 o3_16 rL4_16 rL5_16 hm; exfalso; omega
    | succ nn ih16 =>
      intro xL4_16 xL5_16 o1_16 o2_16 o3_16 rL4_16 rL5_16 hm16
      refine pw_iload d88_16 rfl ?_
      refine pw_aload_n d88_18 rfl ?_
      refine pw_getI d88_19 g88_45 hT hA0 rfl rfl (fun u2413 vu2413 => ?_)
      refine pw_icmp_ge d88_22 rfl (by omega) (by omega) (fun c2414 => ?_) (fun c2414 => ?_)
      · refine pw_iconst d88_48 ?_
        exact pw_ireturn d88_49 t88 ⟨rfl, (-1), rfl, (by omega), (by omega)⟩
      · refine pw_aload_n d88_25 rfl ?_
        refine pw_iload d88_26 rfl ?_
        refine pw_callV1 d88_28 k88_82 hT hA0 rfl rfl rfl (c40 (τ := τ) (ρ := ρ) hT hA0 (by omega)) (fun r2415 h2416 q2417 => ?_)
        obtain ⟨eh2416, z2420, ez2420, lz2420, uz2420⟩ := q2417
        subst eh2416
        subst ez2420
        refine pw_iload d88_31 rfl ?_
        refine pw_iand d88_33 (fun z2421 hz2421 ez2421 => ?_)
        refine pw_iload d88_34 rfl ?_
        refine pw_icmp_ne d88_36 rfl (by omega) (by omega) (fun c2422 => ?_) (fun c2422 => ?_)
        · refine pw_iinc d88_42 m88 rfl rfl rfl ?_
          refine pw_goto d88_45 rfl ?_
          exact ih16 (xL4_16) ((xL5_16 + 1)) _ _ _ (by omega) (by omega) (by omega)
        · refine pw_iload d88_39 rfl ?_
          exact pw_ireturn d88_41 t88 ⟨rfl, xL5_16, rfl, (by omega), (by omega)⟩
  refine pw_iconst d88_0 ?_
  refine pw_iload_n d88_1 rfl ?_
  refine pw_ishl d88_2 (fun z2423 hz2423 ez2423 => ?_)
  refine pw_iconst d88_3 ?_
  refine pw_iload_n d88_4 rfl ?_
  refine pw_ishl d88_5 (fun z2424 hz2424 ez2424 => ?_)
  refine pw_ior d88_6 (fun z2425 hz2425 ez2425 => ?_)
  refine pw_istore d88_7 m88 rfl rfl ?_
  refine pw_iconst d88_9 ?_
  refine pw_iload_n d88_10 rfl ?_
  refine pw_mmax d88_11 k88_100 rfl (by omega) (by omega) (fun z2426 pz2426 hz2426 => ?_)
  refine pw_istore d88_14 m88 rfl rfl ?_
  exact L16 _ (z2425) (z2426) _ _ _ (by omega) (by omega) (pv_mu _)

abbrev Q76 (τ : Nat → Option Nat) (ρ : Nat → Nat → Nat) (h : pv_H) (x0 : Int) : Option Value → pv_H → Prop := fun r h' => h = h' ∧ ∃ z : Int, r = some (.int (pv_I z)) ∧ 0 ≤ z ∧ z ≤ 32
set_option maxHeartbeats 4000000 in
set_option maxRecDepth 20000 in
/-- AngleNet.lowestBit(I)I -/
theorem c76 {τ : Nat → Option Nat} {ρ : Nat → Nat → Nat} {K : Nat → Nat} {h : pv_H} {x0 : Int} (hX0 : (-2147483648) ≤ x0 ∧ x0 ≤ 2147483647) : pv_C K 76 [.int (pv_I x0)] h (Q76 τ ρ h x0) := by
  refine pw_entry 1 ?_
  show pv_T K 76 0 (pv_fl [some (.int (pv_I x0)), none]) [] h (Q76 τ ρ h x0)
  have L2 : ∀ (nn : Nat) (xL1_2 : Int), ((-2147483648) ≤ x0 ∧ x0 ≤ 2147483647) → (0 ≤ xL1_2 ∧ xL1_2 ≤ 32) → 32 - xL1_2 < nn → pv_T K 76 2 (pv_fl [some (.int (pv_I x0)), some (.int (pv_I xL1_2))]) [] h (Q76 τ ρ h x0) := by
    intro nn
    induction nn with
    | zero => intro xL1_2 rL0_2 rL1_2 hm; exfalso; omega
    | succ nn ih2 =>
      intro xL1_2 rL0_2 rL1_2 hm2
      refine pw_iload_n d76_2 rfl ?_
      refine pw_bipush d76_3 (by decide) ?_
      refine pw_icmp_ge d76_5 rfl (by omega) (by omega) (fun c2487 => ?_) (fun c2487 => ?_)
      · refine pw_bipush d76_24 (by decide) ?_
        exact pw_ireturn d76_26 t76 ⟨rfl, 32, rfl, (by omega), (by omega)⟩
      · refine pw_iload_n d76_8 rfl ?_
        refine pw_iload_n d76_9 rfl ?_
        refine pw_ishr d76_10 (fun z2488 hz2488 ez2488 => ?_)
        refine pw_iconst d76_11 ?_
        refine pw_iand d76_12 (fun z2489 hz2489 ez2489 => ?_)
        refine pw_if_eq d76_13 rfl (by omega) (fun c2490 => ?_) (fun c2490 => ?_)
        · refine pw_iinc d76_18 m76 rfl rfl rfl ?_
          refine pw_goto d76_21 rfl ?_
          exact ih2 ((xL1_2 + 1)) (by omega) (by omega) (by omega)
        · refine pw_iload_n d76_16 rfl ?_
          exact pw_ireturn d76_17 t76 ⟨rfl, xL1_2, rfl, (by omega), (by omega)⟩
  refine pw_iconst d76_0 ?_
  refine pw_istore_n d76_1 m76 rfl rfl ?_
  exact L2 _ (0) (by omega) (by omega) (pv_mu _)

abbrev Q102 (τ : Nat → Option Nat) (ρ : Nat → Nat → Nat) (h : pv_H) (x0 : Int) (x1 : Int) : Option Value → pv_H → Prop := fun r h' => h = h' ∧ ∃ z : Int, r = some (.int (pv_I z)) ∧ 0 ≤ z ∧ z ≤ 1
set_option maxHeartbeats 4000000 in
set_option maxRecDepth 20000 in
/-- AngleNet.isLesser(II)Z -/
theorem c102 {τ : Nat → Option Nat} {ρ : Nat → Nat → Nat} {K : Nat → Nat} {h : pv_H} {x0 : Int} {x1 : Int} (hX0 : (-2147483648) ≤ x0 ∧ x0 ≤ 2147483647) (hX1 : (-2147483648) ≤ x1 ∧ x1 ≤ 2147483647) : pv_C K 102 [.int (pv_I x0), .int (pv_I x1)] h (Q102 τ ρ h x0 x1) := by
  refine pw_entry 1 ?_
  show pv_T K 102 0 (pv_fl [some (.int (pv_I x0)), some (.int (pv_I x1)), none]) [] h (Q102 τ ρ h x0 x1)
  refine pw_iload_n d102_0 rfl ?_
  refine pw_callS1 d102_1 k102_367 rfl rfl (c67 (τ := τ) (ρ := ρ) (by omega)) (fun r2523 h2524 q2525 => ?_)
  obtain ⟨eh2524, z2528, ez2528, lz2528, uz2528⟩ := q2525
  subst eh2524
  subst ez2528
  refine pw_iload_n d102_4 rfl ?_
  refine pw_callS1 d102_5 k102_367 rfl rfl (c67 (τ := τ) (ρ := ρ) (by omega)) (fun r2529 h2530 q2531 => ?_)
  obtain ⟨eh2530, z2534, ez2534, lz2534, uz2534⟩ := q2531
  subst eh2530
  subst ez2534
  refine pw_isub d102_8 ?_
  refine pw_any (fun z2535 hz2535 ez2535 => ?_)
  refine pw_istore_n d102_9 m102 rfl rfl ?_
  refine pw_iload_n d102_10 rfl ?_
  refine pw_if_lt d102_11 rfl (by omega) (fun c2536 => ?_) (fun c2536 => ?_)
  · refine pw_iconst d102_23 ?_
    refine pw_goto d102_24 rfl ?_
    exact pw_zreturn d102_28 t102 (by omega) ⟨rfl, 1, rfl, (by omega), (by omega)⟩
  · refine pw_iload_n d102_14 rfl ?_
    refine pw_if_ne d102_15 rfl (by omega) (fun c2537 => ?_) (fun c2537 => ?_)
    · refine pw_iconst d102_27 ?_
      exact pw_zreturn d102_28 t102 (by omega) ⟨rfl, 0, rfl, (by omega), (by omega)⟩
    · refine pw_iload_n d102_18 rfl ?_
      refine pw_iload_n d102_19 rfl ?_
      refine pw_icmp_ge d102_20 rfl (by omega) (by omega) (fun c2538 => ?_) (fun c2538 => ?_)
      · refine pw_iconst d102_27 ?_
        exact pw_zreturn d102_28 t102 (by omega) ⟨rfl, 0, rfl, (by omega), (by omega)⟩
      · refine pw_iconst d102_23 ?_
        refine pw_goto d102_24 rfl ?_
        exact pw_zreturn d102_28 t102 (by omega) ⟨rfl, 1, rfl, (by omega), (by omega)⟩

abbrev Q117 (τ : Nat → Option Nat) (ρ : Nat → Nat → Nat) (h : pv_H) (x0 : Int) : Option Value → pv_H → Prop := fun r h' => h = h' ∧ ∃ z : Int, r = some (.int (pv_I z)) ∧ (-1) ≤ z ∧ z ≤ 1
set_option maxHeartbeats 4000000 in
set_option maxRecDepth 20000 in
/-- AngleNet.signOf(J)I -/
theorem c117 {τ : Nat → Option Nat} {ρ : Nat → Nat → Nat} {K : Nat → Nat} {h : pv_H} {x0 : Int} (hX0 : (-9223372036854775808) ≤ x0 ∧ x0 ≤ 9223372036854775807) : pv_C K 117 [.long (pv_J x0)] h (Q117 τ ρ h x0) := by
  refine pw_entry 0 ?_
  show pv_T K 117 0 (pv_fl [some (.long (pv_J x0)), none]) [] h (Q117 τ ρ h x0)
  refine pw_lload_n d117_0 rfl ?_
  refine pw_lconst (z := 0) d117_1 (by decide) ?_
  refine pw_lcmp d117_2 (by omega) (by omega) (fun z2547 ez2547 => ?_)
  refine pw_if_ne d117_3 rfl (by omega) (fun c2548 => ?_) (fun c2548 => ?_)
  · refine pw_lload_n d117_8 rfl ?_
    refine pw_lconst (z := 0) d117_9 (by decide) ?_
    refine pw_lcmp d117_10 (by omega) (by omega) (fun z2549 ez2549 => ?_)
    refine pw_if_le d117_11 rfl (by omega) (fun c2550 => ?_) (fun c2550 => ?_)
    · refine pw_iconst d117_18 ?_
      exact pw_ireturn d117_19 t117 ⟨rfl, (-1), rfl, (by omega), (by omega)⟩
    · refine pw_iconst d117_14 ?_
      refine pw_goto d117_15 rfl ?_
      exact pw_ireturn d117_19 t117 ⟨rfl, 1, rfl, (by omega), (by omega)⟩
  · refine pw_iconst d117_6 ?_
    exact pw_ireturn d117_7 t117 ⟨rfl, 0, rfl, (by omega), (by omega)⟩

abbrev Q90 (τ : Nat → Option Nat) (ρ : Nat → Nat → Nat) (h : pv_H) (a0 : Nat) (x1 : Int) (x2 : Int) (x3 : Int) : Option Value → pv_H → Prop := fun r h' => h = h' ∧ ∃ z : Int, r = some (.int (pv_I z)) ∧ 0 ≤ z ∧ z ≤ 32
set_option maxHeartbeats 4000000 in
set_option maxRecDepth 20000 in
/-- AngleNet$Net.otherPost(III)I -/
theorem c90 {τ : Nat → Option Nat} {ρ : Nat → Nat → Nat} {K : Nat → Nat} {h : pv_H} {a0 : Nat} {x1 : Int} {x2 : Int} {x3 : Int} (hT : pv_Ty τ ρ h) (hA0 : τ a0 = some 2) (hX1 : 0 ≤ x1 ∧ x1 ≤ 17) (hX2 : (-2147483648) ≤ x2 ∧ x2 ≤ 2147483647) (hX3 : (-2147483648) ≤ x3 ∧ x3 ≤ 2147483647) : pv_C K 90 [.ref a0, .int (pv_I x1), .int (pv_I x2), .int (pv_I x3)] h (Q90 τ ρ h a0 x1 x2 x3) := by
  refine pw_entry 0 ?_
  show pv_T K 90 0 (pv_fl [some (.ref a0), some (.int (pv_I x1)), some (.int (pv_I x2)), some (.int (pv_I x3))]) [] h (Q90 τ ρ h a0 x1 x2 x3)
  refine pw_aload_n d90_0 rfl ?_
  refine pw_iload_n d90_1 rfl ?_
  refine pw_callV1 d90_2 k90_82 hT hA0 rfl rfl rfl (c40 (τ := τ) (ρ := ρ) hT hA0 (by omega)) (fun r2585 h2586 q2587 => ?_)
  obtain ⟨eh2586, z2590, ez2590, lz2590, uz2590⟩ := q2587
  subst eh2586
  subst ez2590
  refine pw_iconst d90_5 ?_
  refine pw_iload_n d90_6 rfl ?_
  refine pw_ishl d90_7 (fun z2591 hz2591 ez2591 => ?_)
  refine pw_iconst d90_8 ?_
  refine pw_iload_n d90_9 rfl ?_
  refine pw_ishl d90_10 (fun z2592 hz2592 ez2592 => ?_)
  refine pw_ior d90_11 (fun z2593 hz2593 ez2593 => ?_)
  refine pw_iconst d90_12 ?_
  refine pw_ixor d90_13 (fun z2594 hz2594 ez2594 => ?_)
  refine pw_iand d90_14 (fun z2595 hz2595 ez2595 => ?_)
  refine pw_callS1 d90_15 k90_106 rfl rfl (c76 (τ := τ) (ρ := ρ) (by omega)) (fun r2596 h2597 q2598 => ?_)
  obtain ⟨eh2597, z2601, ez2601, lz2601, uz2601⟩ := q2598
  subst eh2597
  subst ez2601
  exact pw_ireturn d90_18 t90 ⟨rfl, z2601, rfl, (by omega), (by omega)⟩

abbrev Q172 (τ : Nat → Option Nat) (ρ : Nat → Nat → Nat) (h : pv_H) (a0 : Nat) : Option Value → pv_H → Prop := fun r h' => h = h' ∧ ∃ z : Int, r = some (.int (pv_I z)) ∧ (-2147483648) ≤ z ∧ z ≤ 2147483647
set_option maxHeartbeats 4000000 in
set_option maxRecDepth 20000 in
/-- AngleNet$Net.placedPosts()I -/
theorem c172 {τ : Nat → Option Nat} {ρ : Nat → Nat → Nat} {K : Nat → Nat} {h : pv_H} {a0 : Nat} (hT : pv_Ty τ ρ h) (hA0 : τ a0 = some 2) : pv_C K 172 [.ref a0] h (Q172 τ ρ h a0) := by
  refine pw_entry 2 ?_
  show pv_T K 172 0 (pv_fl [some (.ref a0), none, none]) [] h (Q172 τ ρ h a0)
  have L4 : ∀ (nn : Nat) (xL1_4 xL2_4 : Int), ((-2147483648) ≤ xL1_4 ∧ xL1_4 ≤ 2147483647) → (0 ≤ xL2_4 ∧ xL2_4 ≤ 10) → 10 - xL2_4 < nn → pv_T K 172 4 (pv_fl [some (.ref a0), some (.int (pv_I xL1_4)), some (.int (pv_I xL2_4))]) [] h (Q172 τ ρ h a0) := by
    intro nn
    induction nn with
    | zero => intro xL1_4 xL2_4 rL1_4 rL2_4 hm; exfalso; omega
    | succ nn ih4 =>
      intro xL1_4 xL2_4 rL1_4 rL2_4 hm4
      have J30 : ∀ (xS0_30 : Int) (o1_30 : Option Value), (0 ≤ xL2_4 ∧ xL2_4 ≤ 9) → ((-2147483648) ≤ xS0_30 ∧ xS0_30 ≤ 2147483647) → ((-2147483648) ≤ xL1_4 ∧ xL1_4 ≤ 2147483647) → pv_T K 172 30 (pv_fl [some (.ref a0), o1_30, some (.int (pv_I xL2_4))]) [.int (pv_I xS0_30), .int (pv_I xL1_4)] h (Q172 τ ρ h a0) := by
        intro xS0_30 o1_30 rL2_30 rS0_30 rS1_30
        refine pw_ior d172_30 (fun z2671 hz2671 ez2671 => ?_)
        refine pw_istore_n d172_31 m172 rfl rfl ?_
        refine pw_iinc d172_32 m172 rfl rfl rfl ?_
        refine pw_goto d172_35 rfl ?_
        exact ih4 (z2671) ((xL2_4 + 1)) (by omega) (by omega) (by omega)
      refine pw_iload_n d172_4 rfl ?_
      refine pw_aload_n d172_5 rfl ?_
      refine pw_getI d172_6 g172_41 hT hA0 rfl rfl (fun u2672 vu2672 => ?_)
      refine pw_icmp_ge d172_9 rfl (by omega) (by omega) (fun c2673 => ?_) (fun c2673 => ?_)
      · refine pw_iload_n d172_38 rfl ?_
        exact pw_ireturn d172_39 t172 ⟨rfl, xL1_4, rfl, (by omega), (by omega)⟩
      · refine pw_iload_n d172_12 rfl ?_
        refine pw_aload_n d172_13 rfl ?_
        refine pw_getR d172_14 g172_21 hT hA0 rfl rfl (fun t2674 => ?_)
        have t2674 : τ (ρ a0 8) = some 23 := t2674
        refine pw_iload_n d172_17 rfl ?_
        refine pw_iald d172_18 hT t2674 rfl rfl (by omega) (by omega) (fun u2675 vu2675 => ?_)
        refine pw_iconst d172_19 ?_
        refine pw_icmp_eq d172_20 rfl (by omega) (by omega) (fun c2676 => ?_) (fun c2676 => ?_)
        · refine pw_iconst d172_29 ?_
          exact J30 (0) _ (by omega) (by omega) (by omega)
        · refine pw_iconst d172_23 ?_
          refine pw_iload_n d172_24 rfl ?_
          refine pw_ishl d172_25 (fun z2677 hz2677 ez2677 => ?_)
          refine pw_goto d172_26 rfl ?_
          exact J30 (z2677) _ (by omega) (by omega) (by omega)
  refine pw_iconst d172_0 ?_
  refine pw_istore_n d172_1 m172 rfl rfl ?_
  refine pw_iconst d172_2 ?_
  refine pw_istore_n d172_3 m172 rfl rfl ?_
  exact L4 _ (0) (0) (by omega) (by omega) (pv_mu _)

abbrev Q14 (τ : Nat → Option Nat) (ρ : Nat → Nat → Nat) (h : pv_H) (a0 : Nat) (x1 : Int) : Option Value → pv_H → Prop := fun r h' => pv_Ty τ ρ h' ∧ pv_Fr τ [1471] h h' ∧ r = none
set_option maxHeartbeats 4000000 in
set_option maxRecDepth 20000 in
/-- java/util/Arrays.fill([II)V -/
theorem c14 {τ : Nat → Option Nat} {ρ : Nat → Nat → Nat} {K : Nat → Nat} {h : pv_H} {a0 : Nat} {x1 : Int} (hT : pv_Ty τ ρ h) (hA0 : τ a0 = some 22) (hX1 : (-1) ≤ x1 ∧ x1 ≤ 0) : pv_C K 14 [.ref a0, .int (pv_I x1)] h (Q14 τ ρ h a0 x1) := by
  refine pw_entry 2 ?_
  show pv_T K 14 0 (pv_fl [some (.ref a0), some (.int (pv_I x1)), none, none]) [] h (Q14 τ ρ h a0 x1)
  have hF0 : pv_Fr τ [1471] h h := pv_Fr.rf
  have L5 : ∀ (nn : Nat) (h_5 : pv_H) (xL2_5 xL3_5 : Int), (pv_Ty τ ρ h_5) → (pv_Fr τ [1471] h h_5) → ((-1) ≤ x1 ∧ x1 ≤ 0) → (0 ≤ xL2_5 ∧ xL2_5 ≤ 10) → (10 ≤ xL3_5 ∧ xL3_5 ≤ 10) → 10 - xL2_5 < nn → pv_T K 14 5 (pv_fl [some (.ref a0), some (.int (pv_I x1)), some (.int (pv_I xL2_5)), some (.int (pv_I xL3_5))]) [] h_5 (Q14 τ ρ h a0 x1) := by
    intro nn
    induction nn with
    | zero => intro h_5 xL2_5 xL3_5 hT_5 hF_5 rL1_5 rL2_5 rL3_5 hm; exfalso; omega
    | succ nn ih5 =>
      intro h_5 xL2_5 xL3_5 hT_5 hF_5 rL1_5 rL2_5 rL3_5 hm5
      refine pw_iload_n d14_5 rfl ?_
      refine pw_iload_n d14_6 rfl ?_
      refine pw_icmp_ge d14_7 rfl (by omega) (by omega) (fun c2738 => ?_) (fun c2738 => ?_)
      · exact pw_return d14_20 t14 ⟨hT_5, hF_5, rfl⟩
      · refine pw_aload_n d14_10 rfl ?_
        refine pw_iload_n d14_11 rfl ?_
        refine pw_iload_n d14_12 rfl ?_
        refine pw_iast d14_13 hT_5 hA0 rfl rfl rfl (by omega) (by omega) (by omega) (by omega) (fun h2739 T2740 F2741 E2742 => ?_)
        have f2743 := hF_5.tr (F2741.up (by decide))
        refine pw_iinc d14_14 m14 rfl rfl rfl ?_
        refine pw_goto d14_17 rfl ?_
        exact ih5 h2739 ((xL2_5 + 1)) (xL3_5) T2740 f2743 (by omega) (by omega) (by omega) (by omega)
  refine pw_iconst d14_0 ?_
  refine pw_istore_n d14_1 m14 rfl rfl ?_
  refine pw_aload_n d14_2 rfl ?_
  refine pw_alen d14_3 hT hA0 rfl (by decide) ?_
  refine pw_istore_n d14_4 m14 rfl rfl ?_
  exact L5 _ h (0) (((10 : Nat) : Int)) hT hF0 (by omega) (by omega) (by omega) (pv_mu _)
