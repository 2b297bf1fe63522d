abbrev Q48 (τ : Nat → Option Nat) (ρ : Nat → Nat → Nat) (h : pv_H) (a0 : Nat) (x1 : Int) : Option Value → pv_H → Prop := fun r h' => h = h' ∧ ∃ z : Int, r = some (.int (pv_I z)) ∧ 0 ≤ z ∧ z ≤ 1 ∧ ((z = 1 ∧ 0 ≤ x1 ∧ x1 ≤ 9 ∧ x1 < pv_fI h a0 0) ∨ (z = 0 ∧ (x1 < 0 ∨ pv_fI h a0 0 ≤ x1)))
set_option maxHeartbeats 4000000 in
set_option maxRecDepth 20000 in
/-- AngleNet$Net.isPost(I)Z -/
theorem c48 {τ : Nat → Option Nat} {ρ : Nat → Nat → Nat} {K : Nat → Nat} {h : pv_H} {a0 : Nat} {x1 : Int} (hT : pv_Ty τ ρ h) (hA0 : τ a0 = some 2) (hX1 : (-2147483648) ≤ x1 ∧ x1 ≤ 2147483647) : pv_C K 48 [.ref a0, .int (pv_I x1)] h (Q48 τ ρ h a0 x1) := by
  refine pw_entry 0 ?_
  show pv_T K 48 0 (pv_fl [some (.ref a0), some (.int (pv_I x1))]) [] h (Q48 τ ρ h a0 x1)
  refine pw_iload_n d48_0 rfl ?_
  refine pw_if_lt d48_1 rfl (by omega) (fun c49 => ?_) (fun c49 => ?_)
  · refine pw_iconst d48_16 ?_
    exact pw_zreturn d48_17 t48 (by omega) ⟨rfl, 0, rfl, (by omega), (by omega), (by omega)⟩
  · refine pw_iload_n d48_4 rfl ?_
    refine pw_aload_n d48_5 rfl ?_
    refine pw_getI d48_6 g48_41 hT hA0 rfl rfl (fun u50 vu50 => ?_)
    refine pw_icmp_ge d48_9 rfl (by omega) (by omega) (fun c51 => ?_) (fun c51 => ?_)
    · refine pw_iconst d48_16 ?_
      exact pw_zreturn d48_17 t48 (by omega) ⟨rfl, 0, rfl, (by omega), (by omega), (by omega)⟩
    · refine pw_iconst d48_12 ?_
      refine pw_goto d48_13 rfl ?_
      exact pw_zreturn d48_17 t48 (by omega) ⟨rfl, 1, rfl, (by omega), (by omega), (by omega)⟩

abbrev Q55 (τ : Nat → Option Nat) (ρ : Nat → Nat → Nat) (h : pv_H) (a0 : Nat) (x1 : Int) : Option Value → pv_H → Prop := fun r h' => h = h' ∧ ∃ z : Int, r = some (.int (pv_I z)) ∧ 0 ≤ z ∧ z ≤ 1 ∧ ((z = 1 ∧ 0 ≤ x1 ∧ x1 ≤ 17 ∧ x1 < pv_fI h a0 1) ∨ (z = 0 ∧ (x1 < 0 ∨ pv_fI h a0 1 ≤ x1)))
set_option maxHeartbeats 4000000 in
set_option maxRecDepth 20000 in
/-- AngleNet$Net.isThird(I)Z -/
theorem c55 {τ : Nat → Option Nat} {ρ : Nat → Nat → Nat} {K : Nat → Nat} {h : pv_H} {a0 : Nat} {x1 : Int} (hT : pv_Ty τ ρ h) (hA0 : τ a0 = some 2) (hX1 : (-2147483648) ≤ x1 ∧ x1 ≤ 2147483647) : pv_C K 55 [.ref a0, .int (pv_I x1)] h (Q55 τ ρ h a0 x1) := by
  refine pw_entry 0 ?_
  show pv_T K 55 0 (pv_fl [some (.ref a0), some (.int (pv_I x1))]) [] h (Q55 τ ρ h a0 x1)
  refine pw_iload_n d55_0 rfl ?_
  refine pw_if_lt d55_1 rfl (by omega) (fun c58 => ?_) (fun c58 => ?_)
  · refine pw_iconst d55_16 ?_
    exact pw_zreturn d55_17 t55 (by omega) ⟨rfl, 0, rfl, (by omega), (by omega), (by omega)⟩
  · refine pw_iload_n d55_4 rfl ?_
    refine pw_aload_n d55_5 rfl ?_
    refine pw_getI d55_6 g55_45 hT hA0 rfl rfl (fun u59 vu59 => ?_)
    refine pw_icmp_ge d55_9 rfl (by omega) (by omega) (fun c60 => ?_) (fun c60 => ?_)
    · refine pw_iconst d55_16 ?_
      exact pw_zreturn d55_17 t55 (by omega) ⟨rfl, 0, rfl, (by omega), (by omega), (by omega)⟩
    · refine pw_iconst d55_12 ?_
      refine pw_goto d55_13 rfl ?_
      exact pw_zreturn d55_17 t55 (by omega) ⟨rfl, 1, rfl, (by omega), (by omega), (by omega)⟩

abbrev Q64 (τ : Nat → Option Nat) (ρ : Nat → Nat → Nat) (h : pv_H) (a0 : Nat) : Option Value → pv_H → Prop := fun r h' => h = h' ∧ ∃ z : Int, r = some (.int (pv_I z)) ∧ 0 ≤ z ∧ z ≤ 1
set_option maxHeartbeats 4000000 in
set_option maxRecDepth 20000 in
/-- AngleNet$Net.isThere()Z -/
theorem c64 {τ : Nat → Option Nat} {ρ : Nat → Nat → Nat} {K : Nat → Nat} {h : pv_H} {a0 : Nat} (hT : pv_Ty τ ρ h) (hA0 : τ a0 = some 2) : pv_C K 64 [.ref a0] h (Q64 τ ρ h a0) := by
  refine pw_entry 0 ?_
  show pv_T K 64 0 (pv_fl [some (.ref a0)]) [] h (Q64 τ ρ h a0)
  refine pw_aload_n d64_0 rfl ?_
  refine pw_getI d64_1 g64_41 hT hA0 rfl rfl (fun u65 vu65 => ?_)
  refine pw_if_le d64_4 rfl (by omega) (fun c66 => ?_) (fun c66 => ?_)
  · refine pw_iconst d64_11 ?_
    exact pw_zreturn d64_12 t64 (by omega) ⟨rfl, 0, rfl, (by omega), (by omega)⟩
  · refine pw_iconst d64_7 ?_
    refine pw_goto d64_8 rfl ?_
    exact pw_zreturn d64_12 t64 (by omega) ⟨rfl, 1, rfl, (by omega), (by omega)⟩

abbrev Q47 (τ : Nat → Option Nat) (ρ : Nat → Nat → Nat) (h : pv_H) (a0 : Nat) (x1 : Int) (x2 : Int) : Option Value → pv_H → Prop := fun r h' => h = h' ∧ ∃ z : Int, r = some (.int (pv_I z)) ∧ 0 ≤ z ∧ z ≤ 1 ∧ (z = 1 → 0 ≤ x1 ∧ x1 ≤ 9 ∧ 0 ≤ x2 ∧ x2 ≤ 9)
set_option maxHeartbeats 4000000 in
set_option maxRecDepth 20000 in
/-- AngleNet$Net.isSide(II)Z -/
theorem c47 {τ : Nat → Option Nat} {ρ : Nat → Nat → Nat} {K : Nat → Nat} {h : pv_H} {a0 : Nat} {x1 : Int} {x2 : Int} (hT : pv_Ty τ ρ h) (hA0 : τ a0 = some 2) (hX1 : (-2147483648) ≤ x1 ∧ x1 ≤ 2147483647) (hX2 : (-2147483648) ≤ x2 ∧ x2 ≤ 2147483647) : pv_C K 47 [.ref a0, .int (pv_I x1), .int (pv_I x2)] h (Q47 τ ρ h a0 x1 x2) := by
  refine pw_entry 0 ?_
  show pv_T K 47 0 (pv_fl [some (.ref a0), some (.int (pv_I x1)), some (.int (pv_I x2))]) [] h (Q47 τ ρ h a0 x1 x2)
  refine pw_aload_n d47_0 rfl ?_
  refine pw_iload_n d47_1 rfl ?_
  refine pw_callV1 d47_2 k47_78 hT hA0 rfl rfl rfl (c48 (τ := τ) (ρ := ρ) hT hA0 (by omega)) (fun r103 h104 q105 => ?_)
  obtain ⟨eh104, z108, ez108, lz108, uz108, pz108_0⟩ := q105
  subst eh104
  subst ez108
  refine pw_if_eq d47_5 rfl (by omega) (fun c109 => ?_) (fun c109 => ?_)
  · refine pw_iconst d47_39 ?_
    exact pw_zreturn d47_40 t47 (by omega) ⟨rfl, 0, rfl, (by omega), (by omega), (by omega)⟩
  · refine pw_aload_n d47_8 rfl ?_
    refine pw_iload_n d47_9 rfl ?_
    refine pw_callV1 d47_10 k47_78 hT hA0 rfl rfl rfl (c48 (τ := τ) (ρ := ρ) hT hA0 (by omega)) (fun r110 h111 q112 => ?_)
    obtain ⟨eh111, z115, ez115, lz115, uz115, pz115_0⟩ := q112
    subst eh111
    subst ez115
    refine pw_if_eq d47_13 rfl (by omega) (fun c116 => ?_) (fun c116 => ?_)
    · refine pw_iconst d47_39 ?_
      exact pw_zreturn d47_40 t47 (by omega) ⟨rfl, 0, rfl, (by omega), (by omega), (by omega)⟩
    · refine pw_iload_n d47_16 rfl ?_
      refine pw_iload_n d47_17 rfl ?_
      refine pw_icmp_eq d47_18 rfl (by omega) (by omega) (fun c117 => ?_) (fun c117 => ?_)
      · refine pw_iconst d47_39 ?_
        exact pw_zreturn d47_40 t47 (by omega) ⟨rfl, 0, rfl, (by omega), (by omega), (by omega)⟩
      · refine pw_aload_n d47_21 rfl ?_
        refine pw_getR d47_22 g47_33 hT hA0 rfl rfl (fun t118 => ?_)
        have t118 : τ (ρ a0 12) = some 27 := t118
        refine pw_bipush d47_25 (by decide) ?_
        refine pw_iload_n d47_27 rfl ?_
        refine pw_imul d47_28 ?_
        refine pw_iload_n d47_29 rfl ?_
        refine pw_iadd d47_30 ?_
        refine pw_iald d47_31 hT t118 rfl rfl (by omega) (by omega) (fun u119 vu119 => ?_)
        refine pw_if_le d47_32 rfl (by omega) (fun c120 => ?_) (fun c120 => ?_)
        · refine pw_iconst d47_39 ?_
          exact pw_zreturn d47_40 t47 (by omega) ⟨rfl, 0, rfl, (by omega), (by omega), (by omega)⟩
        · refine pw_iconst d47_35 ?_
          refine pw_goto d47_36 rfl ?_
          exact pw_zreturn d47_40 t47 (by omega) ⟨rfl, 1, rfl, (by omega), (by omega), (by omega)⟩

abbrev Q80 (τ : Nat → Option Nat) (ρ : Nat → Nat → Nat) (h : pv_H) (a0 : Nat) (x1 : Int) (x2 : Int) : Option Value → pv_H → Prop := fun r h' => h = h' ∧ ∃ z : Int, r = some (.int (pv_I z)) ∧ 0 ≤ z ∧ z ≤ 1
set_option maxHeartbeats 4000000 in
set_option maxRecDepth 20000 in
/-- AngleNet$Net.isRim(II)Z -/
theorem c80 {τ : Nat → Option Nat} {ρ : Nat → Nat → Nat} {K : Nat → Nat} {h : pv_H} {a0 : Nat} {x1 : Int} {x2 : Int} (hT : pv_Ty τ ρ h) (hA0 : τ a0 = some 2) (hX1 : (-2147483648) ≤ x1 ∧ x1 ≤ 2147483647) (hX2 : (-2147483648) ≤ x2 ∧ x2 ≤ 2147483647) : pv_C K 80 [.ref a0, .int (pv_I x1), .int (pv_I x2)] h (Q80 τ ρ h a0 x1 x2) := by
  refine pw_entry 0 ?_
  show pv_T K 80 0 (pv_fl [some (.ref a0), some (.int (pv_I x1)), some (.int (pv_I x2))]) [] h (Q80 τ ρ h a0 x1 x2)
  refine pw_aload_n d80_0 rfl ?_
  refine pw_iload_n d80_1 rfl ?_
  refine pw_callV1 d80_2 k80_78 hT hA0 rfl rfl rfl (c48 (τ := τ) (ρ := ρ) hT hA0 (by omega)) (fun r155 h156 q157 => ?_)
  obtain ⟨eh156, z160, ez160, lz160, uz160, pz160_0⟩ := q157
  subst eh156
  subst ez160
  refine pw_if_eq d80_5 rfl (by omega) (fun c161 => ?_) (fun c161 => ?_)
  · refine pw_iconst d80_35 ?_
    exact pw_zreturn d80_36 t80 (by omega) ⟨rfl, 0, rfl, (by omega), (by omega)⟩
  · refine pw_aload_n d80_8 rfl ?_
    refine pw_iload_n d80_9 rfl ?_
    refine pw_callV1 d80_10 k80_78 hT hA0 rfl rfl rfl (c48 (τ := τ) (ρ := ρ) hT hA0 (by omega)) (fun r162 h163 q164 => ?_)
    obtain ⟨eh163, z167, ez167, lz167, uz167, pz167_0⟩ := q164
    subst eh163
    subst ez167
    refine pw_if_eq d80_13 rfl (by omega) (fun c168 => ?_) (fun c168 => ?_)
    · refine pw_iconst d80_35 ?_
      exact pw_zreturn d80_36 t80 (by omega) ⟨rfl, 0, rfl, (by omega), (by omega)⟩
    · refine pw_aload_n d80_16 rfl ?_
      refine pw_getR d80_17 g80_33 hT hA0 rfl rfl (fun t169 => ?_)
      have t169 : τ (ρ a0 12) = some 27 := t169
      refine pw_bipush d80_20 (by decide) ?_
      refine pw_iload_n d80_22 rfl ?_
      refine pw_imul d80_23 ?_
      refine pw_iload_n d80_24 rfl ?_
      refine pw_iadd d80_25 ?_
      refine pw_iald d80_26 hT t169 rfl rfl (by omega) (by omega) (fun u170 vu170 => ?_)
      refine pw_iconst d80_27 ?_
      refine pw_icmp_ne d80_28 rfl (by omega) (by omega) (fun c171 => ?_) (fun c171 => ?_)
      · refine pw_iconst d80_35 ?_
        exact pw_zreturn d80_36 t80 (by omega) ⟨rfl, 0, rfl, (by omega), (by omega)⟩
      · refine pw_iconst d80_31 ?_
        refine pw_goto d80_32 rfl ?_
        exact pw_zreturn d80_36 t80 (by omega) ⟨rfl, 1, rfl, (by omega), (by omega)⟩

abbrev Q112 (τ : Nat → Option Nat) (ρ : Nat → Nat → Nat) (h : pv_H) (a0 : Nat) (x1 : Int) : Option Value → pv_H → Prop := fun r h' => h = h' ∧ ∃ z : Int, r = some (.int (pv_I z)) ∧ 0 ≤ z ∧ z ≤ 1 ∧ (z = 1 → 0 ≤ x1 ∧ x1 ≤ 9)
set_option maxHeartbeats 4000000 in
set_option maxRecDepth 20000 in
/-- AngleNet$Net.hasPlace(I)Z -/
theorem c112 {τ : Nat → Option Nat} {ρ : Nat → Nat → Nat} {K : Nat → Nat} {h : pv_H} {a0 : Nat} {x1 : Int} (hT : pv_Ty τ ρ h) (hA0 : τ a0 = some 2) (hX1 : (-2147483648) ≤ x1 ∧ x1 ≤ 2147483647) : pv_C K 112 [.ref a0, .int (pv_I x1)] h (Q112 τ ρ h a0 x1) := by
  refine pw_entry 0 ?_
  show pv_T K 112 0 (pv_fl [some (.ref a0), some (.int (pv_I x1))]) [] h (Q112 τ ρ h a0 x1)
  refine pw_aload_n d112_0 rfl ?_
  refine pw_iload_n d112_1 rfl ?_
  refine pw_callV1 d112_2 k112_78 hT hA0 rfl rfl rfl (c48 (τ := τ) (ρ := ρ) hT hA0 (by omega)) (fun r192 h193 q194 => ?_)
  obtain ⟨eh193, z197, ez197, lz197, uz197, pz197_0⟩ := q194
  subst eh193
  subst ez197
  refine pw_if_eq d112_5 rfl (by omega) (fun c198 => ?_) (fun c198 => ?_)
  · refine pw_iconst d112_22 ?_
    exact pw_zreturn d112_23 t112 (by omega) ⟨rfl, 0, rfl, (by omega), (by omega), (by omega)⟩
  · refine pw_aload_n d112_8 rfl ?_
    refine pw_getR d112_9 g112_21 hT hA0 rfl rfl (fun t199 => ?_)
    have t199 : τ (ρ a0 8) = some 23 := t199
    refine pw_iload_n d112_12 rfl ?_
    refine pw_iald d112_13 hT t199 rfl rfl (by omega) (by omega) (fun u200 vu200 => ?_)
    refine pw_iconst d112_14 ?_
    refine pw_icmp_eq d112_15 rfl (by omega) (by omega) (fun c201 => ?_) (fun c201 => ?_)
    · refine pw_iconst d112_22 ?_
      exact pw_zreturn d112_23 t112 (by omega) ⟨rfl, 0, rfl, (by omega), (by omega), (by omega)⟩
    · refine pw_iconst d112_18 ?_
      refine pw_goto d112_19 rfl ?_
      exact pw_zreturn d112_23 t112 (by omega) ⟨rfl, 1, rfl, (by omega), (by omega), (by omega)⟩

abbrev Q40 (τ : Nat → Option Nat) (ρ : Nat → Nat → Nat) (h : pv_H) (a0 : Nat) (x1 : Int) : Option Value → pv_H → Prop := fun r h' => h = h' ∧ ∃ z : Int, r = some (.int (pv_I z)) ∧ (-2147483648) ≤ z ∧ z ≤ 2147483647
set_option maxHeartbeats 4000000 in
set_option maxRecDepth 20000 in
/-- AngleNet$Net.postsOf(I)I -/
theorem c40 {τ : Nat → Option Nat} {ρ : Nat → Nat → Nat} {K : Nat → Nat} {h : pv_H} {a0 : Nat} {x1 : Int} (hT : pv_Ty τ ρ h) (hA0 : τ a0 = some 2) (hX1 : 0 ≤ x1 ∧ x1 ≤ 17) : pv_C K 40 [.ref a0, .int (pv_I x1)] h (Q40 τ ρ h a0 x1) := by
  refine pw_entry 0 ?_
  show pv_T K 40 0 (pv_fl [some (.ref a0), some (.int (pv_I x1))]) [] h (Q40 τ ρ h a0 x1)
  refine pw_iconst d40_0 ?_
  refine pw_aload_n d40_1 rfl ?_
  refine pw_getR d40_2 g40_9 hT hA0 rfl rfl (fun t224 => ?_)
  have t224 : τ (ρ a0 5) = some 20 := t224
  refine pw_iconst d40_5 ?_
  refine pw_iload_n d40_6 rfl ?_
  refine pw_imul d40_7 ?_
  refine pw_iald d40_8 hT t224 rfl rfl (by omega) (by omega) (fun u225 vu225 => ?_)
  refine pw_ishl d40_9 (fun z226 hz226 ez226 => ?_)
  refine pw_iconst d40_10 ?_
  refine pw_aload_n d40_11 rfl ?_
  refine pw_getR d40_12 g40_9 hT hA0 rfl rfl (fun t227 => ?_)
  have t227 : τ (ρ a0 5) = some 20 := t227
  refine pw_iconst d40_15 ?_
  refine pw_iload_n d40_16 rfl ?_
  refine pw_imul d40_17 ?_
  refine pw_iconst d40_18 ?_
  refine pw_iadd d40_19 ?_
  refine pw_iald d40_20 hT t227 rfl rfl (by omega) (by omega) (fun u228 vu228 => ?_)
  refine pw_ishl d40_21 (fun z229 hz229 ez229 => ?_)
  refine pw_ior d40_22 (fun z230 hz230 ez230 => ?_)
  refine pw_iconst d40_23 ?_
  refine pw_aload_n d40_24 rfl ?_
  refine pw_getR d40_25 g40_9 hT hA0 rfl rfl (fun t231 => ?_)
  have t231 : τ (ρ a0 5) = some 20 := t231
  refine pw_iconst d40_28 ?_
  refine pw_iload_n d40_29 rfl ?_
  refine pw_imul d40_30 ?_
  refine pw_iconst d40_31 ?_
  refine pw_iadd d40_32 ?_
  refine pw_iald d40_33 hT t231 rfl rfl (by omega) (by omega) (fun u232 vu232 => ?_)
  refine pw_ishl d40_34 (fun z233 hz233 ez233 => ?_)
  refine pw_ior d40_35 (fun z234 hz234 ez234 => ?_)
  exact pw_ireturn d40_36 t40 ⟨rfl, z234, rfl, (by omega), (by omega)⟩

abbrev Q58 (τ : Nat → Option Nat) (ρ : Nat → Nat → Nat) (h : pv_H) (a0 : Nat) (x1 : Int) (x2 : Int) : Option Value → pv_H → Prop := fun r h' => h = h' ∧ ∃ z : Int, r = some (.int (pv_I z)) ∧ 0 ≤ z ∧ z ≤ 1
set_option maxHeartbeats 4000000 in
set_option maxRecDepth 20000 in
/-- AngleNet$Net.hasPost(II)Z -/
theorem c58 {τ : Nat → Option Nat} {ρ : Nat → Nat → Nat} {K : Nat → Nat} {h : pv_H} {a0 : Nat} {x1 : Int} {x2 : Int} (hT : pv_Ty τ ρ h) (hA0 : τ a0 = some 2) (hX1 : 0 ≤ x1 ∧ x1 ≤ 17) (hX2 : (-2147483648) ≤ x2 ∧ x2 ≤ 2147483647) : pv_C K 58 [.ref a0, .int (pv_I x1), .int (pv_I x2)] h (Q58 τ ρ h a0 x1 x2) := by
  refine pw_entry 0 ?_
  show pv_T K 58 0 (pv_fl [some (.ref a0), some (.int (pv_I x1)), some (.int (pv_I x2))]) [] h (Q58 τ ρ h a0 x1 x2)
  refine pw_aload_n d58_0 rfl ?_
  refine pw_iload_n d58_1 rfl ?_
  refine pw_callV1 d58_2 k58_82 hT hA0 rfl rfl rfl (c40 (τ := τ) (ρ := ρ) hT hA0 (by omega)) (fun r253 h254 q255 => ?_)
  obtain ⟨eh254, z258, ez258, lz258, uz258⟩ := q255
  subst eh254
  subst ez258
  refine pw_iload_n d58_5 rfl ?_
  refine pw_ishr d58_6 (fun z259 hz259 ez259 => ?_)
  refine pw_iconst d58_7 ?_
  refine pw_iand d58_8 (fun z260 hz260 ez260 => ?_)
  refine pw_if_eq d58_9 rfl (by omega) (fun c261 => ?_) (fun c261 => ?_)
  · refine pw_iconst d58_16 ?_
    exact pw_zreturn d58_17 t58 (by omega) ⟨rfl, 0, rfl, (by omega), (by omega)⟩
  · refine pw_iconst d58_12 ?_
    refine pw_goto d58_13 rfl ?_
    exact pw_zreturn d58_17 t58 (by omega) ⟨rfl, 1, rfl, (by omega), (by omega)⟩

abbrev Q39 (τ : Nat → Option Nat) (ρ : Nat → Nat → Nat) (h : pv_H) (a0 : Nat) (x1 : Int) (x2 : Int) (x3 : Int) : Option Value → pv_H → Prop := fun r h' => h = h' ∧ ∃ z : Int, r = some (.int (pv_I z)) ∧ 0 ≤ z ∧ z ≤ 1
set_option maxHeartbeats 4000000 in
set_option maxRecDepth 20000 in
/-- AngleNet$Net.takesThird(III)Z -/
theorem c39 {τ : Nat → Option Nat} {ρ : Nat → Nat → Nat} {K : Nat → Nat} {h : pv_H} {a0 : Nat} {x1 : Int} {x2 : Int} {x3 : Int} (hT : pv_Ty τ ρ h) (hA0 : τ a0 = some 2) (hX1 : 0 ≤ x1 ∧ x1 ≤ 9) (hX2 : 0 ≤ x2 ∧ x2 ≤ 9) (hX3 : 0 ≤ x3 ∧ x3 ≤ 9) : pv_C K 39 [.ref a0, .int (pv_I x1), .int (pv_I x2), .int (pv_I x3)] h (Q39 τ ρ h a0 x1 x2 x3) := by
  refine pw_entry 2 ?_
  show pv_T K 39 0 (pv_fl [some (.ref a0), some (.int (pv_I x1)), some (.int (pv_I x2)), some (.int (pv_I x3)), none, none]) [] h (Q39 τ ρ h a0 x1 x2 x3)
  have L16 : ∀ (nn : Nat) (xL4_16 xL5_16 : Int), (0 ≤ x1 ∧ x1 ≤ 9) → (0 ≤ x2 ∧ x2 ≤ 9) → (0 ≤ x3 ∧ x3 ≤ 9) → ((-2147483648) ≤ xL4_16 ∧ xL4_16 ≤ 2147483647) → (0 ≤ xL5_16 ∧ xL5_16 ≤ 18) → 18 - xL5_16 < nn → pv_T K 39 16 (pv_fl [some (.ref a0), some (.int (pv_I x1)), some (.int (pv_I x2)), some (.int (pv_I x3)), some (.int (pv_I xL4_16)), some (.int (pv_I xL5_16))]) [] h (Q39 τ ρ h a0 x1 x2 x3) := by
    intro nn
    induction nn with
    | zero => intro xL4_16 xL5_16 rL1_16 rL2_16 rL3_16 rL4_16 rL5_16 hm; exfalso; omega
    | succ nn ih16 =>
      intro xL4_16 xL5_16 rL1_16 rL2_16 rL3_16 rL4_16 rL5_16 hm16
      refine pw_iload d39_16 rfl ?_
      refine pw_aload_n d39_18 rfl ?_
      refine pw_getI d39_19 g39_45 hT hA0 rfl rfl (fun u488 vu488 => ?_)
      refine pw_icmp_ge d39_22 rfl (by omega) (by omega) (fun c489 => ?_) (fun c489 => ?_)
      · refine pw_aload_n d39_44 rfl ?_
        refine pw_getR d39_45 g39_33 hT hA0 rfl rfl (fun t490 => ?_)
        have t490 : τ (ρ a0 12) = some 27 := t490
        refine pw_bipush d39_48 (by decide) ?_
        refine pw_iload_n d39_50 rfl ?_
        refine pw_imul d39_51 ?_
        refine pw_iload_n d39_52 rfl ?_
        refine pw_iadd d39_53 ?_
        refine pw_iald d39_54 hT t490 rfl rfl (by omega) (by omega) (fun u491 vu491 => ?_)
        refine pw_iconst d39_55 ?_
        refine pw_icmp_ge d39_56 rfl (by omega) (by omega) (fun c492 => ?_) (fun c492 => ?_)
        · refine pw_iconst d39_93 ?_
          exact pw_zreturn d39_94 t39 (by omega) ⟨rfl, 0, rfl, (by omega), (by omega)⟩
        · refine pw_aload_n d39_59 rfl ?_
          refine pw_getR d39_60 g39_33 hT hA0 rfl rfl (fun t493 => ?_)
          have t493 : τ (ρ a0 12) = some 27 := t493
          refine pw_bipush d39_63 (by decide) ?_
          refine pw_iload_n d39_65 rfl ?_
          refine pw_imul d39_66 ?_
          refine pw_iload_n d39_67 rfl ?_
          refine pw_iadd d39_68 ?_
          refine pw_iald d39_69 hT t493 rfl rfl (by omega) (by omega) (fun u494 vu494 => ?_)
          refine pw_iconst d39_70 ?_
          refine pw_icmp_ge d39_71 rfl (by omega) (by omega) (fun c495 => ?_) (fun c495 => ?_)
          · refine pw_iconst d39_93 ?_
            exact pw_zreturn d39_94 t39 (by omega) ⟨rfl, 0, rfl, (by omega), (by omega)⟩
          · refine pw_aload_n d39_74 rfl ?_
            refine pw_getR d39_75 g39_33 hT hA0 rfl rfl (fun t496 => ?_)
            have t496 : τ (ρ a0 12) = some 27 := t496
            refine pw_bipush d39_78 (by decide) ?_
            refine pw_iload_n d39_80 rfl ?_
            refine pw_imul d39_81 ?_
            refine pw_iload_n d39_82 rfl ?_
            refine pw_iadd d39_83 ?_
            refine pw_iald d39_84 hT t496 rfl rfl (by omega) (by omega) (fun u497 vu497 => ?_)
            refine pw_iconst d39_85 ?_
            refine pw_icmp_ge d39_86 rfl (by omega) (by omega) (fun c498 => ?_) (fun c498 => ?_)
            · refine pw_iconst d39_93 ?_
              exact pw_zreturn d39_94 t39 (by omega) ⟨rfl, 0, rfl, (by omega), (by omega)⟩
            · refine pw_iconst d39_89 ?_
              refine pw_goto d39_90 rfl ?_
              exact pw_zreturn d39_94 t39 (by omega) ⟨rfl, 1, rfl, (by omega), (by omega)⟩
      · refine pw_aload_n d39_25 rfl ?_
        refine pw_iload d39_26 rfl ?_
        refine pw_callV1 d39_28 k39_82 hT hA0 rfl rfl rfl (c40 (τ := τ) (ρ := ρ) hT hA0 (by omega)) (fun r499 h500 q501 => ?_)
        obtain ⟨eh500, z504, ez504, lz504, uz504⟩ := q501
        subst eh500
        subst ez504
        refine pw_iload d39_31 rfl ?_
        refine pw_icmp_ne d39_33 rfl (by omega) (by omega) (fun c505 => ?_) (fun c505 => ?_)
        · refine pw_iinc d39_38 m39 rfl rfl rfl ?_
          refine pw_goto d39_41 rfl ?_
          exact ih16 (xL4_16) ((xL5_16 + 1)) (by omega) (by omega) (by omega) (by omega) (by omega) (by omega)
        · refine pw_iconst d39_36 ?_
          exact pw_zreturn d39_37 t39 (by omega) ⟨rfl, 0, rfl, (by omega), (by omega)⟩
  refine pw_iconst d39_0 ?_
  refine pw_iload_n d39_1 rfl ?_
  refine pw_ishl d39_2 (fun z506 hz506 ez506 => ?_)
  refine pw_iconst d39_3 ?_
  refine pw_iload_n d39_4 rfl ?_
  refine pw_ishl d39_5 (fun z507 hz507 ez507 => ?_)
  refine pw_ior d39_6 (fun z508 hz508 ez508 => ?_)
  refine pw_iconst d39_7 ?_
  refine pw_iload_n d39_8 rfl ?_
  refine pw_ishl d39_9 (fun z509 hz509 ez509 => ?_)
  refine pw_ior d39_10 (fun z510 hz510 ez510 => ?_)
  refine pw_istore d39_11 m39 rfl rfl ?_
  refine pw_iconst d39_13 ?_
  refine pw_istore d39_14 m39 rfl rfl ?_
  exact L16 _ (z510) (0) (by omega) (by omega) (by omega) (by omega) (by omega) (pv_mu _)

abbrev Q43 (τ : Nat → Option Nat) (ρ : Nat → Nat → Nat) (h : pv_H) (a0 : Nat) (x1 : Int) (x2 : Int) : Option Value → pv_H → Prop := fun r h' => pv_Ty τ ρ h' ∧ pv_Fr τ [1791] h h' ∧ r = none
set_option maxHeartbeats 4000000 in
set_option maxRecDepth 20000 in
/-- AngleNet$Net.shareSides(II)V -/
theorem c43 {τ : Nat → Option Nat} {ρ : Nat → Nat → Nat} {K : Nat → Nat} {h : pv_H} {a0 : Nat} {x1 : Int} {x2 : Int} (hT : pv_Ty τ ρ h) (hA0 : τ a0 = some 2) (hX1 : 0 ≤ x1 ∧ x1 ≤ 17) (hX2 : (-2147483648) ≤ x2 ∧ x2 ≤ 2147483647) : pv_C K 43 [.ref a0, .int (pv_I x1), .int (pv_I x2)] h (Q43 τ ρ h a0 x1 x2) := by
  refine pw_entry 3 ?_
  show pv_T K 43 0 (pv_fl [some (.ref a0), some (.int (pv_I x1)), some (.int (pv_I x2)), none, none, none]) [] h (Q43 τ ρ h a0 x1 x2)
  have hF0 : pv_Fr τ [1791] h h := pv_Fr.rf
  have L2 : ∀ (nn : Nat) (h_2 : pv_H) (xL3_2 : Int) (o4_2 o5_2 : Option Value), (pv_Ty τ ρ h_2) → (pv_Fr τ [1791] h h_2) → (0 ≤ x1 ∧ x1 ≤ 17) → ((-2147483648) ≤ x2 ∧ x2 ≤ 2147483647) → (0 ≤ xL3_2 ∧ xL3_2 ≤ 3) → 3 - xL3_2 < nn → pv_T K 43 2 (pv_fl [some (.ref a0), some (.int (pv_I x1)), some (.int (pv_I x2)), some (.int (pv_I xL3_2)), o4_2, o5_2]) [] h_2 (Q43 τ ρ h a0 x1 x2) := by
    intro nn
    induction nn with
    | zero => intro h_2 xL3_2 o4_2 o5_2 hT_2 hF_2 rL1_2 rL2_2 rL3_2 hm; exfalso; omega
    | succ nn ih2 =>
      intro h_2 xL3_2 o4_2 o5_2 hT_2 hF_2 rL1_2 rL2_2 rL3_2 hm2
      refine pw_iload_n d43_2 rfl ?_
      refine pw_iconst d43_3 ?_
      refine pw_icmp_ge d43_4 rfl (by omega) (by omega) (fun c626 => ?_) (fun c626 => ?_)
      · exact pw_return d43_75 t43 ⟨hT_2, hF_2, rfl⟩
      · refine pw_aload_n d43_7 rfl ?_
        refine pw_getR d43_8 g43_9 hT_2 hA0 rfl rfl (fun t627 => ?_)
        have t627 : τ (ρ a0 5) = some 20 := t627
        refine pw_iconst d43_11 ?_
        refine pw_iload_n d43_12 rfl ?_
        refine pw_imul d43_13 ?_
        refine pw_iload_n d43_14 rfl ?_
        refine pw_iadd d43_15 ?_
        refine pw_iald d43_16 hT_2 t627 rfl rfl (by omega) (by omega) (fun u628 vu628 => ?_)
        refine pw_istore d43_17 m43 rfl rfl ?_
        refine pw_aload_n d43_19 rfl ?_
        refine pw_getR d43_20 g43_9 hT_2 hA0 rfl rfl (fun t629 => ?_)
        have t629 : τ (ρ a0 5) = some 20 := t629
        refine pw_iconst d43_23 ?_
        refine pw_iload_n d43_24 rfl ?_
        refine pw_imul d43_25 ?_
        refine pw_iload_n d43_26 rfl ?_
        refine pw_iconst d43_27 ?_
        refine pw_iadd d43_28 ?_
        refine pw_iconst d43_29 ?_
        refine pw_irem d43_30 (by omega) (by omega) (by omega) (by omega) ?_
        refine pw_iadd d43_31 ?_
        refine pw_iald d43_32 hT_2 t629 rfl rfl (by omega) (by omega) (fun u630 vu630 => ?_)
        refine pw_istore d43_33 m43 rfl rfl ?_
        refine pw_aload_n d43_35 rfl ?_
        refine pw_getR d43_36 g43_33 hT_2 hA0 rfl rfl (fun t631 => ?_)
        have t631 : τ (ρ a0 12) = some 27 := t631
        refine pw_bipush d43_39 (by decide) ?_
        refine pw_iload d43_41 rfl ?_
        refine pw_imul d43_43 ?_
        refine pw_iload d43_44 rfl ?_
        refine pw_iadd d43_46 ?_
        refine pw_dup2 d43_47 rfl rfl ?_
        refine pw_iald d43_48 hT_2 t631 rfl rfl (by omega) (by omega) (fun u632 vu632 => ?_)
        refine pw_name (x := (pv_aI h_2 (ρ a0 12) (((10 * (pv_aI h_2 (ρ a0 5) (((3 * x1) + xL3_2)).toNat)) + (pv_aI h_2 (ρ a0 5) (((3 * x1) + ((xL3_2 + 1) % 3))).toNat))).toNat)) (fun z633 ez633 => ?_)
        have hz633 : (-2147483648) ≤ z633 ∧ z633 ≤ 2147483647 := by subst ez633; omega
        refine pw_iload_n d43_49 rfl ?_
        refine pw_iadd d43_50 ?_
        refine pw_any (fun z634 hz634 ez634 => ?_)
        refine pw_iast d43_51 hT_2 t631 rfl rfl rfl (by omega) (by omega) (by omega) (by omega) (fun h635 T636 F637 E638 => ?_)
        have f639 := hF_2.tr (F637.up (by decide))
        refine pw_aload_n d43_52 rfl ?_
        refine pw_getR d43_53 g43_33 T636 hA0 rfl rfl (fun t640 => ?_)
        have t640 : τ (ρ a0 12) = some 27 := t640
        refine pw_bipush d43_56 (by decide) ?_
        refine pw_iload d43_58 rfl ?_
        refine pw_imul d43_60 ?_
        refine pw_iload d43_61 rfl ?_
        refine pw_iadd d43_63 ?_
        refine pw_dup2 d43_64 rfl rfl ?_
        refine pw_iald d43_65 T636 t640 rfl rfl (by omega) (by omega) (fun u641 vu641 => ?_)
        refine pw_name (x := (pv_aI h635 (ρ a0 12) (((10 * (pv_aI h_2 (ρ a0 5) (((3 * x1) + ((xL3_2 + 1) % 3))).toNat)) + (pv_aI h_2 (ρ a0 5) (((3 * x1) + xL3_2)).toNat))).toNat)) (fun z642 ez642 => ?_)
        have hz642 : (-2147483648) ≤ z642 ∧ z642 ≤ 2147483647 := by subst ez642; omega
        refine pw_iload_n d43_66 rfl ?_
        refine pw_iadd d43_67 ?_
        refine pw_any (fun z643 hz643 ez643 => ?_)
        refine pw_iast d43_68 T636 t640 rfl rfl rfl (by omega) (by omega) (by omega) (by omega) (fun h644 T645 F646 E647 => ?_)
        have f648 := f639.tr (F646.up (by decide))
        refine pw_iinc d43_69 m43 rfl rfl rfl ?_
        refine pw_goto d43_72 rfl ?_
        exact ih2 h644 ((xL3_2 + 1)) _ _ T645 f648 (by omega) (by omega) (by omega) (by omega)
  refine pw_iconst d43_0 ?_
  refine pw_istore_n d43_1 m43 rfl rfl ?_
  exact L2 _ h (0) _ _ hT hF0 (by omega) (by omega) (by omega) (pv_mu _)

abbrev Q42 (τ : Nat → Option Nat) (ρ : Nat → Nat → Nat) (h : pv_H) (a0 : Nat) (x1 : Int) (x2 : Int) (x3 : Int) (x4 : Int) (x5 : Int) : Option Value → pv_H → Prop := fun r h' => pv_Ty τ ρ h' ∧ pv_Fr τ [1343, 1407, 1791] h h' ∧ r = none
set_option maxHeartbeats 4000000 in
set_option maxRecDepth 20000 in
/-- AngleNet$Net.putThird(IIIII)V -/
theorem c42 {τ : Nat → Option Nat} {ρ : Nat → Nat → Nat} {K : Nat → Nat} {h : pv_H} {a0 : Nat} {x1 : Int} {x2 : Int} {x3 : Int} {x4 : Int} {x5 : Int} (hT : pv_Ty τ ρ h) (hA0 : τ a0 = some 2) (hX1 : 0 ≤ x1 ∧ x1 ≤ 17) (hX2 : 0 ≤ x2 ∧ x2 ≤ 9) (hX3 : 0 ≤ x3 ∧ x3 ≤ 9) (hX4 : 0 ≤ x4 ∧ x4 ≤ 9) (hX5 : 0 ≤ x5 ∧ x5 ≤ 540) : pv_C K 42 [.ref a0, .int (pv_I x1), .int (pv_I x2), .int (pv_I x3), .int (pv_I x4), .int (pv_I x5)] h (Q42 τ ρ h a0 x1 x2 x3 x4 x5) := by
  refine pw_entry 0 ?_
  show pv_T K 42 0 (pv_fl [some (.ref a0), some (.int (pv_I x1)), some (.int (pv_I x2)), some (.int (pv_I x3)), some (.int (pv_I x4)), some (.int (pv_I x5))]) [] h (Q42 τ ρ h a0 x1 x2 x3 x4 x5)
  have hF0 : pv_Fr τ [1343, 1407, 1791] h h := pv_Fr.rf
  refine pw_aload_n d42_0 rfl ?_
  refine pw_getR d42_1 g42_9 hT hA0 rfl rfl (fun t711 => ?_)
  have t711 : τ (ρ a0 5) = some 20 := t711
  refine pw_iconst d42_4 ?_
  refine pw_iload_n d42_5 rfl ?_
  refine pw_imul d42_6 ?_
  refine pw_iload_n d42_7 rfl ?_
  refine pw_iast d42_8 hT t711 rfl rfl rfl (by omega) (by omega) (by omega) (by omega) (fun h712 T713 F714 E715 => ?_)
  have f716 := hF0.tr (F714.up (by decide))
  refine pw_aload_n d42_9 rfl ?_
  refine pw_getR d42_10 g42_9 T713 hA0 rfl rfl (fun t717 => ?_)
  have t717 : τ (ρ a0 5) = some 20 := t717
  refine pw_iconst d42_13 ?_
  refine pw_iload_n d42_14 rfl ?_
  refine pw_imul d42_15 ?_
  refine pw_iconst d42_16 ?_
  refine pw_iadd d42_17 ?_
  refine pw_iload_n d42_18 rfl ?_
  refine pw_iast d42_19 T713 t717 rfl rfl rfl (by omega) (by omega) (by omega) (by omega) (fun h718 T719 F720 E721 => ?_)
  have f722 := f716.tr (F720.up (by decide))
  refine pw_aload_n d42_20 rfl ?_
  refine pw_getR d42_21 g42_9 T719 hA0 rfl rfl (fun t723 => ?_)
  have t723 : τ (ρ a0 5) = some 20 := t723
  refine pw_iconst d42_24 ?_
  refine pw_iload_n d42_25 rfl ?_
  refine pw_imul d42_26 ?_
  refine pw_iconst d42_27 ?_
  refine pw_iadd d42_28 ?_
  refine pw_iload d42_29 rfl ?_
  refine pw_iast d42_31 T719 t723 rfl rfl rfl (by omega) (by omega) (by omega) (by omega) (fun h724 T725 F726 E727 => ?_)
  have f728 := f722.tr (F726.up (by decide))
  refine pw_aload_n d42_32 rfl ?_
  refine pw_getR d42_33 g42_15 T725 hA0 rfl rfl (fun t729 => ?_)
  have t729 : τ (ρ a0 6) = some 21 := t729
  refine pw_iload_n d42_36 rfl ?_
  refine pw_iload d42_37 rfl ?_
  refine pw_iast d42_39 T725 t729 rfl rfl rfl (by omega) (by omega) (by omega) (by omega) (fun h730 T731 F732 E733 => ?_)
  have f734 := f728.tr (F732.up (by decide))
  refine pw_aload_n d42_40 rfl ?_
  refine pw_iload_n d42_41 rfl ?_
  refine pw_iconst d42_42 ?_
  refine pw_callV2 d42_43 k42_86 T731 hA0 rfl rfl rfl (c43 (τ := τ) (ρ := ρ) T731 hA0 (by omega) (by omega)) (fun r735 h736 q737 => ?_)
  obtain ⟨T738, F739, ez740⟩ := q737
  subst ez740
  have f741 := f734.tr (F739.up (by decide))
  exact pw_return d42_46 t42 ⟨T738, f741, rfl⟩

abbrev Q126 (τ : Nat → Option Nat) (ρ : Nat → Nat → Nat) (h : pv_H) (a0 : Nat) (x1 : Int) : Option Value → pv_H → Prop := fun r h' => pv_Ty τ ρ h' ∧ pv_Fr τ [1791] h h' ∧ r = none
set_option maxHeartbeats 4000000 in
set_option maxRecDepth 20000 in
/-- AngleNet$Net.liftThird(I)V -/
theorem c126 {τ : Nat → Option Nat} {ρ : Nat → Nat → Nat} {K : Nat → Nat} {h : pv_H} {a0 : Nat} {x1 : Int} (hT : pv_Ty τ ρ h) (hA0 : τ a0 = some 2) (hX1 : 0 ≤ x1 ∧ x1 ≤ 17) : pv_C K 126 [.ref a0, .int (pv_I x1)] h (Q126 τ ρ h a0 x1) := by
  refine pw_entry 0 ?_
  show pv_T K 126 0 (pv_fl [some (.ref a0), some (.int (pv_I x1))]) [] h (Q126 τ ρ h a0 x1)
  have hF0 : pv_Fr τ [1791] h h := pv_Fr.rf
  refine pw_aload_n d126_0 rfl ?_
  refine pw_iload_n d126_1 rfl ?_
  refine pw_iconst d126_2 ?_
  refine pw_callV2 d126_3 k126_86 hT hA0 rfl rfl rfl (c43 (τ := τ) (ρ := ρ) hT hA0 (by omega) (by omega)) (fun r756 h757 q758 => ?_)
  obtain ⟨T759, F760, ez761⟩ := q758
  subst ez761
  have f762 := hF0.tr (F760.up (by decide))
  exact pw_return d126_6 t126 ⟨T759, f762, rfl⟩

abbrev Q49 (τ : Nat → Option Nat) (ρ : Nat → Nat → Nat) (h : pv_H) (a0 : Nat) (x1 : Int) (x2 : Int) (x3 : Int) : Option Value → pv_H → Prop := fun r h' => pv_Ty τ ρ h' ∧ pv_Fr τ [1727] h h' ∧ r = none
set_option maxHeartbeats 4000000 in
set_option maxRecDepth 20000 in
/-- AngleNet$Net.putWeight(III)V -/
theorem c49 {τ : Nat → Option Nat} {ρ : Nat → Nat → Nat} {K : Nat → Nat} {h : pv_H} {a0 : Nat} {x1 : Int} {x2 : Int} {x3 : Int} (hT : pv_Ty τ ρ h) (hA0 : τ a0 = some 2) (hX1 : 0 ≤ x1 ∧ x1 ≤ 9) (hX2 : 0 ≤ x2 ∧ x2 ≤ 9) (hX3 : 0 ≤ x3 ∧ x3 ≤ 360) : pv_C K 49 [.ref a0, .int (pv_I x1), .int (pv_I x2), .int (pv_I x3)] h (Q49 τ ρ h a0 x1 x2 x3) := by
  refine pw_entry 0 ?_
  show pv_T K 49 0 (pv_fl [some (.ref a0), some (.int (pv_I x1)), some (.int (pv_I x2)), some (.int (pv_I x3))]) [] h (Q49 τ ρ h a0 x1 x2 x3)
  have hF0 : pv_Fr τ [1727] h h := pv_Fr.rf
  refine pw_aload_n d49_0 rfl ?_
  refine pw_getR d49_1 g49_30 hT hA0 rfl rfl (fun t787 => ?_)
  have t787 : τ (ρ a0 11) = some 26 := t787
  refine pw_bipush d49_4 (by decide) ?_
  refine pw_iload_n d49_6 rfl ?_
  refine pw_imul d49_7 ?_
  refine pw_iload_n d49_8 rfl ?_
  refine pw_iadd d49_9 ?_
  refine pw_iload_n d49_10 rfl ?_
  refine pw_iast d49_11 hT t787 rfl rfl rfl (by omega) (by omega) (by omega) (by omega) (fun h788 T789 F790 E791 => ?_)
  have f792 := hF0.tr (F790.up (by decide))
  refine pw_aload_n d49_12 rfl ?_
  refine pw_getR d49_13 g49_30 T789 hA0 rfl rfl (fun t793 => ?_)
  have t793 : τ (ρ a0 11) = some 26 := t793
  refine pw_bipush d49_16 (by decide) ?_
  refine pw_iload_n d49_18 rfl ?_
  refine pw_imul d49_19 ?_
  refine pw_iload_n d49_20 rfl ?_
  refine pw_iadd d49_21 ?_
  refine pw_iload_n d49_22 rfl ?_
  refine pw_iast d49_23 T789 t793 rfl rfl rfl (by omega) (by omega) (by omega) (by omega) (fun h794 T795 F796 E797 => ?_)
  have f798 := f792.tr (F796.up (by decide))
  exact pw_return d49_24 t49 ⟨T795, f798, rfl⟩

abbrev Q57 (τ : Nat → Option Nat) (ρ : Nat → Nat → Nat) (h : pv_H) (a0 : Nat) (x1 : Int) : Option Value → pv_H → Prop := fun r h' => h = h' ∧ ∃ z : Int, r = some (.int (pv_I z)) ∧ (-2147483648) ≤ z ∧ z ≤ 2147483647
set_option maxHeartbeats 4000000 in
set_option maxRecDepth 20000 in
/-- AngleNet$Net.thirdsAt(I)I -/
theorem c57 {τ : Nat → Option Nat} {ρ : Nat → Nat → Nat} {K : Nat → Nat} {h : pv_H} {a0 : Nat} {x1 : Int} (hT : pv_Ty τ ρ h) (hA0 : τ a0 = some 2) (hX1 : (-2147483648) ≤ x1 ∧ x1 ≤ 2147483647) : pv_C K 57 [.ref a0, .int (pv_I x1)] h (Q57 τ ρ h a0 x1) := by
  refine pw_entry 2 ?_
  show pv_T K 57 0 (pv_fl [some (.ref a0), some (.int (pv_I x1)), none, none]) [] h (Q57 τ ρ h a0 x1)
  have L4 : ∀ (nn : Nat) (xL2_4 xL3_4 : Int), ((-2147483648) ≤ x1 ∧ x1 ≤ 2147483647) → ((-2147483648) ≤ xL2_4 ∧ xL2_4 ≤ 2147483647) → (0 ≤ xL3_4 ∧ xL3_4 ≤ 18) → 18 - xL3_4 < nn → pv_T K 57 4 (pv_fl [some (.ref a0), some (.int (pv_I x1)), some (.int (pv_I xL2_4)), some (.int (pv_I xL3_4))]) [] h (Q57 τ ρ h a0 x1) := by
    intro nn
    induction nn with
    | zero => intro xL2_4 xL3_4 rL1_4 rL2_4 rL3_4 hm; exfalso; omega
    | succ nn ih4 =>
      intro xL2_4 xL3_4 rL1_4 rL2_4 rL3_4 hm4
      have J27 : ∀ (xS0_27 : Int) (o2_27 : Option Value), ((-2147483648) ≤ x1 ∧ x1 ≤ 2147483647) → (0 ≤ xL3_4 ∧ xL3_4 ≤ 17) → (0 ≤ xS0_27 ∧ xS0_27 ≤ 1) → ((-2147483648) ≤ xL2_4 ∧ xL2_4 ≤ 2147483647) → pv_T K 57 27 (pv_fl [some (.ref a0), some (.int (pv_I x1)), o2_27, some (.int (pv_I xL3_4))]) [.int (pv_I xS0_27), .int (pv_I xL2_4)] h (Q57 τ ρ h a0 x1) := by
        intro xS0_27 o2_27 rL1_27 rL3_27 rS0_27 rS1_27
        refine pw_iadd d57_27 ?_
        refine pw_any (fun z1216 hz1216 ez1216 => ?_)
        refine pw_istore_n d57_28 m57 rfl rfl ?_
        refine pw_iinc d57_29 m57 rfl rfl rfl ?_
        refine pw_goto d57_32 rfl ?_
        exact ih4 (z1216) ((xL3_4 + 1)) (by omega) (by omega) (by omega) (by omega)
      refine pw_iload_n d57_4 rfl ?_
      refine pw_aload_n d57_5 rfl ?_
      refine pw_getI d57_6 g57_45 hT hA0 rfl rfl (fun u1217 vu1217 => ?_)
      refine pw_icmp_ge d57_9 rfl (by omega) (by omega) (fun c1218 => ?_) (fun c1218 => ?_)
      · refine pw_iload_n d57_35 rfl ?_
        exact pw_ireturn d57_36 t57 ⟨rfl, xL2_4, rfl, (by omega), (by omega)⟩
      · refine pw_iload_n d57_12 rfl ?_
        refine pw_aload_n d57_13 rfl ?_
        refine pw_iload_n d57_14 rfl ?_
        refine pw_iload_n d57_15 rfl ?_
        refine pw_callV2 d57_16 k57_90 hT hA0 rfl rfl rfl (c58 (τ := τ) (ρ := ρ) hT hA0 (by omega) (by omega)) (fun r1219 h1220 q1221 => ?_)
        obtain ⟨eh1220, z1224, ez1224, lz1224, uz1224⟩ := q1221
        subst eh1220
        subst ez1224
        refine pw_if_eq d57_19 rfl (by omega) (fun c1225 => ?_) (fun c1225 => ?_)
        · refine pw_iconst d57_26 ?_
          exact J27 (0) _ (by omega) (by omega) (by omega) (by omega)
        · refine pw_iconst d57_22 ?_
          refine pw_goto d57_23 rfl ?_
          exact J27 (1) _ (by omega) (by omega) (by omega) (by omega)
  refine pw_iconst d57_0 ?_
  refine pw_istore_n d57_1 m57 rfl rfl ?_
  refine pw_iconst d57_2 ?_
  refine pw_istore_n d57_3 m57 rfl rfl ?_
  exact L4 _ (0) (0) (by omega) (by omega) (by omega) (pv_mu _)

abbrev Q59 (τ : Nat → Option Nat) (ρ : Nat → Nat → Nat) (h : pv_H) (a0 : Nat) (x1 : Int) : Option Value → pv_H → Prop := fun r h' => h = h' ∧ ∃ z : Int, r = some (.int (pv_I z)) ∧ (-2147483648) ≤ z ∧ z ≤ 2147483647
set_option maxHeartbeats 4000000 in
set_option maxRecDepth 20000 in
/-- AngleNet$Net.sidesAt(I)I -/
theorem c59 {τ : Nat → Option Nat} {ρ : Nat → Nat → Nat} {K : Nat → Nat} {h : pv_H} {a0 : Nat} {x1 : Int} (hT : pv_Ty τ ρ h) (hA0 : τ a0 = some 2) (hX1 : (-2147483648) ≤ x1 ∧ x1 ≤ 2147483647) : pv_C K 59 [.ref a0, .int (pv_I x1)] h (Q59 τ ρ h a0 x1) := by
  refine pw_entry 2 ?_
  show pv_T K 59 0 (pv_fl [some (.ref a0), some (.int (pv_I x1)), none, none]) [] h (Q59 τ ρ h a0 x1)
  have L4 : ∀ (nn : Nat) (xL2_4 xL3_4 : Int), ((-2147483648) ≤ x1 ∧ x1 ≤ 2147483647) → ((-2147483648) ≤ xL2_4 ∧ xL2_4 ≤ 2147483647) → (0 ≤ xL3_4 ∧ xL3_4 ≤ 10) → 10 - xL3_4 < nn → pv_T K 59 4 (pv_fl [some (.ref a0), some (.int (pv_I x1)), some (.int (pv_I xL2_4)), some (.int (pv_I xL3_4))]) [] h (Q59 τ ρ h a0 x1) := by
    intro nn
    induction nn with
    | zero => intro xL2_4 xL3_4 rL1_4 rL2_4 rL3_4 hm; exfalso; omega
    | succ nn ih4 =>
      intro xL2_4 xL3_4 rL1_4 rL2_4 rL3_4 hm4
      have J27 : ∀ (xS0_27 : Int) (o2_27 : Option Value), ((-2147483648) ≤ x1 ∧ x1 ≤ 2147483647) → (0 ≤ xL3_4 ∧ xL3_4 ≤ 9) → (0 ≤ xS0_27 ∧ xS0_27 ≤ 1) → ((-2147483648) ≤ xL2_4 ∧ xL2_4 ≤ 2147483647) → pv_T K 59 27 (pv_fl [some (.ref a0), some (.int (pv_I x1)), o2_27, some (.int (pv_I xL3_4))]) [.int (pv_I xS0_27), .int (pv_I xL2_4)] h (Q59 τ ρ h a0 x1) := by
        intro xS0_27 o2_27 rL1_27 rL3_27 rS0_27 rS1_27
        refine pw_iadd d59_27 ?_
        refine pw_any (fun z1643 hz1643 ez1643 => ?_)
        refine pw_istore_n d59_28 m59 rfl rfl ?_
        refine pw_iinc d59_29 m59 rfl rfl rfl ?_
        refine pw_goto d59_32 rfl ?_
        exact ih4 (z1643) ((xL3_4 + 1)) (by omega) (by omega) (by omega) (by omega)
      refine pw_iload_n d59_4 rfl ?_
      refine pw_aload_n d59_5 rfl ?_
      refine pw_getI d59_6 g59_41 hT hA0 rfl rfl (fun u1644 vu1644 => ?_)
      refine pw_icmp_ge d59_9 rfl (by omega) (by omega) (fun c1645 => ?_) (fun c1645 => ?_)
      · refine pw_iload_n d59_35 rfl ?_
        exact pw_ireturn d59_36 t59 ⟨rfl, xL2_4, rfl, (by omega), (by omega)⟩
      · refine pw_iload_n d59_12 rfl ?_
        refine pw_aload_n d59_13 rfl ?_
        refine pw_iload_n d59_14 rfl ?_
        refine pw_iload_n d59_15 rfl ?_
        refine pw_callV2 d59_16 k59_94 hT hA0 rfl rfl rfl (c47 (τ := τ) (ρ := ρ) hT hA0 (by omega) (by omega)) (fun r1646 h1647 q1648 => ?_)
        obtain ⟨eh1647, z1651, ez1651, lz1651, uz1651, pz1651_0⟩ := q1648
        subst eh1647
        subst ez1651
        refine pw_if_eq d59_19 rfl (by omega) (fun c1652 => ?_) (fun c1652 => ?_)
        · refine pw_iconst d59_26 ?_
          exact J27 (0) _ (by omega) (by omega) (by omega) (by omega)
        · refine pw_iconst d59_22 ?_
          refine pw_goto d59_23 rfl ?_
          exact J27 (1) _ (by omega) (by omega) (by omega) (by omega)
  refine pw_iconst d59_0 ?_
  refine pw_istore_n d59_1 m59 rfl rfl ?_
  refine pw_iconst d59_2 ?_
  refine pw_istore_n d59_3 m59 rfl rfl ?_
  exact L4 _ (0) (0) (by omega) (by omega) (by omega) (pv_mu _)

abbrev Q68 (τ : Nat → Option Nat) (ρ : Nat → Nat → Nat) (h : pv_H) (a0 : Nat) : Option Value → pv_H → Prop := fun r h' => h = h' ∧ ∃ z : Int, r = some (.int (pv_I z)) ∧ (-2147483648) ≤ z ∧ z ≤ 2147483647
set_option maxHeartbeats 4000000 in
set_option maxRecDepth 20000 in
/-- AngleNet$Net.sideCount()I -/
theorem c68 {τ : Nat → Option Nat} {ρ : Nat → Nat → Nat} {K : Nat → Nat} {h : pv_H} {a0 : Nat} (hT : pv_Ty τ ρ h) (hA0 : τ a0 = some 2) : pv_C K 68 [.ref a0] h (Q68 τ ρ h a0) := by
  refine pw_entry 2 ?_
  show pv_T K 68 0 (pv_fl [some (.ref a0), none, none]) [] h (Q68 τ ρ h a0)
  have L4 : ∀ (nn : Nat) (xL1_4 xL2_4 : Int), ((-2147483648) ≤ xL1_4 ∧ xL1_4 ≤ 2147483647) → (0 ≤ xL2_4 ∧ xL2_4 ≤ 10) → 10 - xL2_4 < nn → pv_T K 68 4 (pv_fl [some (.ref a0), some (.int (pv_I xL1_4)), some (.int (pv_I xL2_4))]) [] h (Q68 τ ρ h a0) := by
    intro nn
    induction nn with
    | zero => intro xL1_4 xL2_4 rL1_4 rL2_4 hm; exfalso; omega
    | succ nn ih4 =>
      intro xL1_4 xL2_4 rL1_4 rL2_4 hm4
      refine pw_iload_n d68_4 rfl ?_
      refine pw_aload_n d68_5 rfl ?_
      refine pw_getI d68_6 g68_41 hT hA0 rfl rfl (fun u1751 vu1751 => ?_)
      refine pw_icmp_ge d68_9 rfl (by omega) (by omega) (fun c1752 => ?_) (fun c1752 => ?_)
      · refine pw_iload_n d68_26 rfl ?_
        refine pw_iconst d68_27 ?_
        refine pw_idivU d68_28 (by omega) (by omega) (fun z1753 hz1753 ez1753 => ?_)
        exact pw_ireturn d68_29 t68 ⟨rfl, z1753, rfl, (by omega), (by omega)⟩
      · refine pw_iload_n d68_12 rfl ?_
        refine pw_aload_n d68_13 rfl ?_
        refine pw_iload_n d68_14 rfl ?_
        refine pw_callV1 d68_15 k68_97 hT hA0 rfl rfl rfl (c59 (τ := τ) (ρ := ρ) hT hA0 (by omega)) (fun r1754 h1755 q1756 => ?_)
        obtain ⟨eh1755, z1759, ez1759, lz1759, uz1759⟩ := q1756
        subst eh1755
        subst ez1759
        refine pw_iadd d68_18 ?_
        refine pw_any (fun z1760 hz1760 ez1760 => ?_)
        refine pw_istore_n d68_19 m68 rfl rfl ?_
        refine pw_iinc d68_20 m68 rfl rfl rfl ?_
        refine pw_goto d68_23 rfl ?_
        exact ih4 (z1760) ((xL2_4 + 1)) (by omega) (by omega) (by omega)
  refine pw_iconst d68_0 ?_
  refine pw_istore_n d68_1 m68 rfl rfl ?_
  refine pw_iconst d68_2 ?_
  refine pw_istore_n d68_3 m68 rfl rfl ?_
  exact L4 _ (0) (0) (by omega) (by omega) (pv_mu _)

abbrev Q62 (τ : Nat → Option Nat) (ρ : Nat → Nat → Nat) (h : pv_H) (a0 : Nat) (x1 : Int) : Option Value → pv_H → Prop := fun r h' => h = h' ∧ ∃ z : Int, r = some (.int (pv_I z)) ∧ (-1) ≤ z ∧ z ≤ 99
set_option maxHeartbeats 4000000 in
set_option maxRecDepth 20000 in
/-- AngleNet$Net.sideNumbered(I)I -/
theorem c62 {τ : Nat → Option Nat} {ρ : Nat → Nat → Nat} {K : Nat → Nat} {h : pv_H} {a0 : Nat} {x1 : Int} (hT : pv_Ty τ ρ h) (hA0 : τ a0 = some 2) (hX1 : (-2147483648) ≤ x1 ∧ x1 ≤ 2147483647) : pv_C K 62 [.ref a0, .int (pv_I x1)] h (Q62 τ ρ h a0 x1) := by
  refine pw_entry 3 ?_
  show pv_T K 62 0 (pv_fl [some (.ref a0), some (.int (pv_I x1)), none, none, none]) [] h (Q62 τ ρ h a0 x1)
  have L4 : ∀ (nn : Nat) (xL2_4 xL3_4 : Int) (o4_4 : Option Value), ((-2147483648) ≤ x1 ∧ x1 ≤ 2147483647) → ((-2147483648) ≤ xL2_4 ∧ xL2_4 ≤ 2147483647) → (0 ≤ xL3_4 ∧ xL3_4 ≤ 10) → 10 - xL3_4 < nn → pv_T K 62 4 (pv_fl [some (.ref a0), some (.int (pv_I x1)), some (.int (pv_I xL2_4)), some (.int (pv_I xL3_4)), o4_4]) [] h (Q62 τ ρ h a0 x1) := by
    intro nn
    induction nn with
    | zero => intro xL2_4 xL3_4 o4_4 rL1_4 rL2_4 rL3_4 hm; exfalso; omega
    | succ nn ih4 =>
      intro xL2_4 xL3_4 o4_4 rL1_4 rL2_4 rL3_4 hm4
      have L17 : ∀ (nn : Nat) (xL2_17 xL4_17 : Int), ((-2147483648) ≤ x1 ∧ x1 ≤ 2147483647) → ((-2147483648) ≤ xL2_17 ∧ xL2_17 ≤ 2147483647) → (0 ≤ xL3_4 ∧ xL3_4 ≤ 9) → (1 ≤ xL4_17 ∧ xL4_17 ≤ 10) → 10 - xL4_17 < nn → pv_T K 62 17 (pv_fl [some (.ref a0), some (.int (pv_I x1)), some (.int (pv_I xL2_17)), some (.int (pv_I xL3_4)), some (.int (pv_I xL4_17))]) [] h (Q62 τ ρ h a0 x1) := by
        intro nn
        induction nn with
        | zero => intro xL2_17 xL4_17 rL1_17 rL2_17 rL3_17 rL4_17 hm; exfalso; omega
        | succ nn ih17 =>
          intro xL2_17 xL4_17 rL1_17 rL2_17 rL3_17 rL4_17 hm17
          have J52 : ∀ (xL2_52 : Int), ((-2147483648) ≤ x1 ∧ x1 ≤ 2147483647) → ((-2147483648) ≤ xL2_52 ∧ xL2_52 ≤ 2147483647) → (0 ≤ xL3_4 ∧ xL3_4 ≤ 9) → (1 ≤ xL4_17 ∧ xL4_17 ≤ 9) → pv_T K 62 52 (pv_fl [some (.ref a0), some (.int (pv_I x1)), some (.int (pv_I xL2_52)), some (.int (pv_I xL3_4)), some (.int (pv_I xL4_17))]) [] h (Q62 τ ρ h a0 x1) := by
            intro xL2_52 rL1_52 rL2_52 rL3_52 rL4_52
            refine pw_iinc d62_52 m62 rfl rfl rfl ?_
            refine pw_goto d62_55 rfl ?_
            exact ih17 (xL2_52) ((xL4_17 + 1)) (by omega) (by omega) (by omega) (by omega) (by omega)
          refine pw_iload d62_17 rfl ?_
          refine pw_aload_n d62_19 rfl ?_
          refine pw_getI d62_20 g62_41 hT hA0 rfl rfl (fun u2402 vu2402 => ?_)
          refine pw_icmp_ge d62_23 rfl (by omega) (by omega) (fun c2403 => ?_) (fun c2403 => ?_)
          · refine pw_iinc d62_58 m62 rfl rfl rfl ?_
            refine pw_goto d62_61 rfl ?_
            exact ih4 (xL2_17) ((xL3_4 + 1)) _ (by omega) (by omega) (by omega) (by omega)
          · refine pw_aload_n d62_26 rfl ?_
            refine pw_iload_n d62_27 rfl ?_
            refine pw_iload d62_28 rfl ?_
            refine pw_callV2 d62_30 k62_94 hT hA0 rfl rfl rfl (c47 (τ := τ) (ρ := ρ) hT hA0 (by omega) (by omega)) (fun r2404 h2405 q2406 => ?_)
            obtain ⟨eh2405, z2409, ez2409, lz2409, uz2409, pz2409_0⟩ := q2406
            subst eh2405
            subst ez2409
            refine pw_if_eq d62_33 rfl (by omega) (fun c2410 => ?_) (fun c2410 => ?_)
            · exact J52 (xL2_17) (by omega) (by omega) (by omega) (by omega)
            · refine pw_iload_n d62_36 rfl ?_
              refine pw_iload_n d62_37 rfl ?_
              refine pw_icmp_ne d62_38 rfl (by omega) (by omega) (fun c2411 => ?_) (fun c2411 => ?_)
              · refine pw_iincU d62_49 m62 rfl rfl rfl (fun z2412 hz2412 => ?_)
                exact J52 (z2412) (by omega) (by omega) (by omega) (by omega)
              · refine pw_bipush d62_41 (by decide) ?_
                refine pw_iload_n d62_43 rfl ?_
                refine pw_imul d62_44 ?_
                refine pw_iload d62_45 rfl ?_
                refine pw_iadd d62_47 ?_
                exact pw_ireturn d62_48 t62 ⟨rfl, ((10 * xL3_4) + xL4_17), rfl, (by omega), (by omega)⟩
      refine pw_iload_n d62_4 rfl ?_
      refine pw_aload_n d62_5 rfl ?_
      refine pw_getI d62_6 g62_41 hT hA0 rfl rfl (fun u2413 vu2413 => ?_)
      refine pw_icmp_ge d62_9 rfl (by omega) (by omega) (fun c2414 => ?_) (fun c2414 => ?_)
      · refine pw_iconst d62_64 ?_
        exact pw_ireturn d62_65 t62 ⟨rfl, (-1), rfl, (by omega), (by omega)⟩
      · refine pw_iload_n d62_12 rfl ?_
        refine pw_iconst d62_13 ?_
        refine pw_iadd d62_14 ?_
        refine pw_istore d62_15 m62 rfl rfl ?_
        exact L17 _ (xL2_4) ((xL3_4 + 1)) (by omega) (by omega) (by omega) (by omega) (pv_mu _)
  refine pw_iconst d62_0 ?_
  refine pw_istore_n d62_1 m62 rfl rfl ?_
  refine pw_iconst d62_2 ?_
  refine pw_istore_n d62_3 m62 rfl rfl ?_
  exact L4 _ (0) (0) _ (by omega) (by omega) (by omega) (pv_mu _)

abbrev Q88 (τ : Nat → Option Nat) (ρ : Nat → Nat → Nat) (h : pv_H) (a0 : Nat) (x1 : Int) (x2 : Int) (x3 : Int) : Option Value → pv_H → Prop := fun r h' => h = h' ∧ ∃ z : Int, r = some (.int (pv_I z)) ∧ (-1) ≤ z ∧ z ≤ 17
set_option maxHeartbeats 4000000 in
set_option maxRecDepth 20000 in
/-- AngleNet$Net.thirdOn(III)I -/
theorem c88 {τ : Nat → Option Nat} {ρ : Nat → Nat → Nat} {K : Nat → Nat} {h : pv_H} {a0 : Nat} {x1 : Int} {x2 : Int} {x3 : Int} (hT : pv_Ty τ ρ h) (hA0 : τ a0 = some 2) (hX1 : (-2147483648) ≤ x1 ∧ x1 ≤ 2147483647) (hX2 : (-2147483648) ≤ x2 ∧ x2 ≤ 2147483647) (hX3 : (-2147483648) ≤ x3 ∧ x3 ≤ 2147483647) : pv_C K 88 [.ref a0, .int (pv_I x1), .int (pv_I x2), .int (pv_I x3)] h (Q88 τ ρ h a0 x1 x2 x3) := by
  refine pw_entry 2 ?_
  show pv_T K 88 0 (pv_fl [some (.ref a0), some (.int (pv_I x1)), some (.int (pv_I x2)), some (.int (pv_I x3)), none, none]) [] h (Q88 τ ρ h a0 x1 x2 x3)
  have L16 : ∀ (nn : Nat) (xL4_16 xL5_16 : Int) (o1_16 o2_16 o3_16 : Option Value), ((-2147483648) ≤ xL4_16 ∧ xL4_16 ≤ 2147483647) → (0 ≤ xL5_16 ∧ xL5_16 ≤ 2147483647) → 2147483647 - xL5_16 < nn → pv_T K 88 16 (pv_fl [some (.ref a0), o1_16, o2_16, o3_16, some (.int (pv_I xL4_16)), some (.int (pv_I xL5_16))]) [] h (Q88 τ ρ h a0 x1 x2 x3) := by
    intro nn
    induction nn with
    | zero => intro xL4_16 xL5_16 o1_16 o2_16 o3_16 rL4_16 rL5_16 hm; exfalso; omega
    | succ nn ih16 =>
      intro xL4_16 xL5_16 o1_16 o2_16 o3_16 rL4_16 rL5_16 hm16
      refine pw_iload d88_16 rfl ?_
      refine pw_aload_n d88_18 rfl ?_
      refine pw_getI d88_19 g88_45 hT hA0 rfl rfl (fun u2443 vu2443 => ?_)
      refine pw_icmp_ge d88_22 rfl (by omega) (by omega) (fun c2444 => ?_) (fun c2444 => ?_)
      · refine pw_iconst d88_48 ?_
        exact pw_ireturn d88_49 t88 ⟨rfl, (-1), rfl, (by omega), (by omega)⟩
      · refine pw_aload_n d88_25 rfl ?_
        refine pw_iload d88_26 rfl ?_
        refine pw_callV1 d88_28 k88_82 hT hA0 rfl rfl rfl (c40 (τ := τ) (ρ := ρ) hT hA0 (by omega)) (fun r2445 h2446 q2447 => ?_)
        obtain ⟨eh2446, z2450, ez2450, lz2450, uz2450⟩ := q2447
        subst eh2446
        subst ez2450
        refine pw_iload d88_31 rfl ?_
        refine pw_iand d88_33 (fun z2451 hz2451 ez2451 => ?_)
        refine pw_iload d88_34 rfl ?_
        refine pw_icmp_ne d88_36 rfl (by omega) (by omega) (fun c2452 => ?_) (fun c2452 => ?_)
        · refine pw_iinc d88_42 m88 rfl rfl rfl ?_
          refine pw_goto d88_45 rfl ?_
          exact ih16 (xL4_16) ((xL5_16 + 1)) _ _ _ (by omega) (by omega) (by omega)
        · refine pw_iload d88_39 rfl ?_
          exact pw_ireturn d88_41 t88 ⟨rfl, xL5_16, rfl, (by omega), (by omega)⟩
  refine pw_iconst d88_0 ?_
  refine pw_iload_n d88_1 rfl ?_
  refine pw_ishl d88_2 (fun z2453 hz2453 ez2453 => ?_)
  refine pw_iconst d88_3 ?_
  refine pw_iload_n d88_4 rfl ?_
  refine pw_ishl d88_5 (fun z2454 hz2454 ez2454 => ?_)
  refine pw_ior d88_6 (fun z2455 hz2455 ez2455 => ?_)
  refine pw_istore d88_7 m88 rfl rfl ?_
  refine pw_iconst d88_9 ?_
  refine pw_iload_n d88_10 rfl ?_
  refine pw_mmax d88_11 k88_100 rfl (by omega) (by omega) (fun z2456 pz2456 hz2456 => ?_)
  refine pw_istore d88_14 m88 rfl rfl ?_
  exact L16 _ (z2455) (z2456) _ _ _ (by omega) (by omega) (pv_mu _)

abbrev Q76 (τ : Nat → Option Nat) (ρ : Nat → Nat → Nat) (h : pv_H) (x0 : Int) : Option Value → pv_H → Prop := fun r h' => h = h' ∧ ∃ z : Int, r = some (.int (pv_I z)) ∧ 0 ≤ z ∧ z ≤ 32
set_option maxHeartbeats 4000000 in
set_option maxRecDepth 20000 in
/-- AngleNet.lowestBit(I)I -/
theorem c76 {τ : Nat → Option Nat} {ρ : Nat → Nat → Nat} {K : Nat → Nat} {h : pv_H} {x0 : Int} (hX0 : (-2147483648) ≤ x0 ∧ x0 ≤ 2147483647) : pv_C K 76 [.int (pv_I x0)] h (Q76 τ ρ h x0) := by
  refine pw_entry 1 ?_
  show pv_T K 76 0 (pv_fl [some (.int (pv_I x0)), none]) [] h (Q76 τ ρ h x0)
  have L2 : ∀ (nn : Nat) (xL1_2 : Int), ((-2147483648) ≤ x0 ∧ x0 ≤ 2147483647) → (0 ≤ xL1_2 ∧ xL1_2 ≤ 32) → 32 - xL1_2 < nn → pv_T K 76 2 (pv_fl [some (.int (pv_I x0)), some (.int (pv_I xL1_2))]) [] h (Q76 τ ρ h x0) := by
    intro nn
    induction nn with
    | zero => intro xL1_2 rL0_2 rL1_2 hm; exfalso; omega
    | succ nn ih2 =>
      intro xL1_2 rL0_2 rL1_2 hm2
      refine pw_iload_n d76_2 rfl ?_
      refine pw_bipush d76_3 (by decide) ?_
      refine pw_icmp_ge d76_5 rfl (by omega) (by omega) (fun c2517 => ?_) (fun c2517 => ?_)
      · refine pw_bipush d76_24 (by decide) ?_
        exact pw_ireturn d76_26 t76 ⟨rfl, 32, rfl, (by omega), (by omega)⟩
      · refine pw_iload_n d76_8 rfl ?_
        refine pw_iload_n d76_9 rfl ?_
        refine pw_ishr d76_10 (fun z2518 hz2518 ez2518 => ?_)
        refine pw_iconst d76_11 ?_
        refine pw_iand d76_12 (fun z2519 hz2519 ez2519 => ?_)
        refine pw_if_eq d76_13 rfl (by omega) (fun c2520 => ?_) (fun c2520 => ?_)
        · refine pw_iinc d76_18 m76 rfl rfl rfl ?_
          refine pw_goto d76_21 rfl ?_
          exact ih2 ((xL1_2 + 1)) (by omega) (by omega) (by omega)
        · refine pw_iload_n d76_16 rfl ?_
          exact pw_ireturn d76_17 t76 ⟨rfl, xL1_2, rfl, (by omega), (by omega)⟩
  refine pw_iconst d76_0 ?_
  refine pw_istore_n d76_1 m76 rfl rfl ?_
  exact L2 _ (0) (by omega) (by omega) (pv_mu _)

abbrev Q102 (τ : Nat → Option Nat) (ρ : Nat → Nat → Nat) (h : pv_H) (x0 : Int) (x1 : Int) : Option Value → pv_H → Prop := fun r h' => h = h' ∧ ∃ z : Int, r = some (.int (pv_I z)) ∧ 0 ≤ z ∧ z ≤ 1
set_option maxHeartbeats 4000000 in
set_option maxRecDepth 20000 in
/-- AngleNet.isLesser(II)Z -/
theorem c102 {τ : Nat → Option Nat} {ρ : Nat → Nat → Nat} {K : Nat → Nat} {h : pv_H} {x0 : Int} {x1 : Int} (hX0 : (-2147483648) ≤ x0 ∧ x0 ≤ 2147483647) (hX1 : (-2147483648) ≤ x1 ∧ x1 ≤ 2147483647) : pv_C K 102 [.int (pv_I x0), .int (pv_I x1)] h (Q102 τ ρ h x0 x1) := by
  refine pw_entry 1 ?_
  show pv_T K 102 0 (pv_fl [some (.int (pv_I x0)), some (.int (pv_I x1)), none]) [] h (Q102 τ ρ h x0 x1)
  refine pw_iload_n d102_0 rfl ?_
  refine pw_callS1 d102_1 k102_367 rfl rfl (c67 (τ := τ) (ρ := ρ) (by omega)) (fun r2553 h2554 q2555 => ?_)
  obtain ⟨eh2554, z2558, ez2558, lz2558, uz2558⟩ := q2555
  subst eh2554
  subst ez2558
  refine pw_iload_n d102_4 rfl ?_
  refine pw_callS1 d102_5 k102_367 rfl rfl (c67 (τ := τ) (ρ := ρ) (by omega)) (fun r2559 h2560 q2561 => ?_)
  obtain ⟨eh2560, z2564, ez2564, lz2564, uz2564⟩ := q2561
  subst eh2560
  subst ez2564
  refine pw_isub d102_8 ?_
  refine pw_any (fun z2565 hz2565 ez2565 => ?_)
  refine pw_istore_n d102_9 m102 rfl rfl ?_
  refine pw_iload_n d102_10 rfl ?_
  refine pw_if_lt d102_11 rfl (by omega) (fun c2566 => ?_) (fun c2566 => ?_)
  · refine pw_iconst d102_23 ?_
    refine pw_goto d102_24 rfl ?_
    exact pw_zreturn d102_28 t102 (by omega) ⟨rfl, 1, rfl, (by omega), (by omega)⟩
  · refine pw_iload_n d102_14 rfl ?_
    refine pw_if_ne d102_15 rfl (by omega) (fun c2567 => ?_) (fun c2567 => ?_)
    · refine pw_iconst d102_27 ?_
      exact pw_zreturn d102_28 t102 (by omega) ⟨rfl, 0, rfl, (by omega), (by omega)⟩
    · refine pw_iload_n d102_18 rfl ?_
      refine pw_iload_n d102_19 rfl ?_
      refine pw_icmp_ge d102_20 rfl (by omega) (by omega) (fun c2568 => ?_) (fun c2568 => ?_)
      · refine pw_iconst d102_27 ?_
        exact pw_zreturn d102_28 t102 (by omega) ⟨rfl, 0, rfl, (by omega), (by omega)⟩
      · refine pw_iconst d102_23 ?_
        refine pw_goto d102_24 rfl ?_
        exact pw_zreturn d102_28 t102 (by omega) ⟨rfl, 1, rfl, (by omega), (by omega)⟩

abbrev Q117 (τ : Nat → Option Nat) (ρ : Nat → Nat → Nat) (h : pv_H) (x0 : Int) : Option Value → pv_H → Prop := fun r h' => h = h' ∧ ∃ z : Int, r = some (.int (pv_I z)) ∧ (-1) ≤ z ∧ z ≤ 1
set_option maxHeartbeats 4000000 in
set_option maxRecDepth 20000 in
/-- AngleNet.signOf(J)I -/
theorem c117 {τ : Nat → Option Nat} {ρ : Nat → Nat → Nat} {K : Nat → Nat} {h : pv_H} {x0 : Int} (hX0 : (-9223372036854775808) ≤ x0 ∧ x0 ≤ 9223372036854775807) : pv_C K 117 [.long (pv_J x0)] h (Q117 τ ρ h x0) := by
  refine pw_entry 0 ?_
  show pv_T K 117 0 (pv_fl [some (.long (pv_J x0)), none]) [] h (Q117 τ ρ h x0)
  refine pw_lload_n d117_0 rfl ?_
  refine pw_lconst (z := 0) d117_1 (by decide) ?_
  refine pw_lcmp d117_2 (by omega) (by omega) (fun z2577 ez2577 => ?_)
  refine pw_if_ne d117_3 rfl (by omega) (fun c2578 => ?_) (fun c2578 => ?_)
  · refine pw_lload_n d117_8 rfl ?_
    refine pw_lconst (z := 0) d117_9 (by decide) ?_
    refine pw_lcmp d117_10 (by omega) (by omega) (fun z2579 ez2579 => ?_)
    refine pw_if_le d117_11 rfl (by omega) (fun c2580 => ?_) (fun c2580 => ?_)
    · refine pw_iconst d117_18 ?_
      exact pw_ireturn d117_19 t117 ⟨rfl, (-1), rfl, (by omega), (by omega)⟩
    · refine pw_iconst d117_14 ?_
      refine pw_goto d117_15 rfl ?_
      exact pw_ireturn d117_19 t117 ⟨rfl, 1, rfl, (by omega), (by omega)⟩
  · refine pw_iconst d117_6 ?_
    exact pw_ireturn d117_7 t117 ⟨rfl, 0, rfl, (by omega), (by omega)⟩

abbrev Q90 (τ : Nat → Option Nat) (ρ : Nat → Nat → Nat) (h : pv_H) (a0 : Nat) (x1 : Int) (x2 : Int) (x3 : Int) : Option Value → pv_H → Prop := fun r h' => h = h' ∧ ∃ z : Int, r = some (.int (pv_I z)) ∧ 0 ≤ z ∧ z ≤ 32
set_option maxHeartbeats 4000000 in
set_option maxRecDepth 20000 in
/-- AngleNet$Net.otherPost(III)I -/
theorem c90 {τ : Nat → Option Nat} {ρ : Nat → Nat → Nat} {K : Nat → Nat} {h : pv_H} {a0 : Nat} {x1 : Int} {x2 : Int} {x3 : Int} (hT : pv_Ty τ ρ h) (hA0 : τ a0 = some 2) (hX1 : 0 ≤ x1 ∧ x1 ≤ 17) (hX2 : (-2147483648) ≤ x2 ∧ x2 ≤ 2147483647) (hX3 : (-2147483648) ≤ x3 ∧ x3 ≤ 2147483647) : pv_C K 90 [.ref a0, .int (pv_I x1), .int (pv_I x2), .int (pv_I x3)] h (Q90 τ ρ h a0 x1 x2 x3) := by
  refine pw_entry 0 ?_
  show pv_T K 90 0 (pv_fl [some (.ref a0), some (.int (pv_I x1)), some (.int (pv_I x2)), some (.int (pv_I x3))]) [] h (Q90 τ ρ h a0 x1 x2 x3)
  refine pw_aload_n d90_0 rfl ?_
  refine pw_iload_n d90_1 rfl ?_
  refine pw_callV1 d90_2 k90_82 hT hA0 rfl rfl rfl (c40 (τ := τ) (ρ := ρ) hT hA0 (by omega)) (fun r2615 h2616 q2617 => ?_)
  obtain ⟨eh2616, z2620, ez2620, lz2620, uz2620⟩ := q2617
  subst eh2616
  subst ez2620
  refine pw_iconst d90_5 ?_
  refine pw_iload_n d90_6 rfl ?_
  refine pw_ishl d90_7 (fun z2621 hz2621 ez2621 => ?_)
  refine pw_iconst d90_8 ?_
  refine pw_iload_n d90_9 rfl ?_
  refine pw_ishl d90_10 (fun z2622 hz2622 ez2622 => ?_)
  refine pw_ior d90_11 (fun z2623 hz2623 ez2623 => ?_)
  refine pw_iconst d90_12 ?_
  refine pw_ixor d90_13 (fun z2624 hz2624 ez2624 => ?_)
  refine pw_iand d90_14 (fun z2625 hz2625 ez2625 => ?_)
  refine pw_callS1 d90_15 k90_106 rfl rfl (c76 (τ := τ) (ρ := ρ) (by omega)) (fun r2626 h2627 q2628 => ?_)
  obtain ⟨eh2627, z2631, ez2631, lz2631, uz2631⟩ := q2628
  subst eh2627
  subst ez2631
  exact pw_ireturn d90_18 t90 ⟨rfl, z2631, rfl, (by omega), (by omega)⟩

abbrev Q172 (τ : Nat → Option Nat) (ρ : Nat → Nat → Nat) (h : pv_H) (a0 : Nat) : Option Value → pv_H → Prop := fun r h' => h = h' ∧ ∃ z : Int, r = some (.int (pv_I z)) ∧ (-2147483648) ≤ z ∧ z ≤ 2147483647
set_option maxHeartbeats 4000000 in
set_option maxRecDepth 20000 in
/-- AngleNet$Net.placedPosts()I -/
theorem c172 {τ : Nat → Option Nat} {ρ : Nat → Nat → Nat} {K : Nat → Nat} {h : pv_H} {a0 : Nat} (hT : pv_Ty τ ρ h) (hA0 : τ a0 = some 2) : pv_C K 172 [.ref a0] h (Q172 τ ρ h a0) := by
  refine pw_entry 2 ?_
  show pv_T K 172 0 (pv_fl [some (.ref a0), none, none]) [] h (Q172 τ ρ h a0)
  have L4 : ∀ (nn : Nat) (xL1_4 xL2_4 : Int), ((-2147483648) ≤ xL1_4 ∧ xL1_4 ≤ 2147483647) → (0 ≤ xL2_4 ∧ xL2_4 ≤ 10) → 10 - xL2_4 < nn → pv_T K 172 4 (pv_fl [some (.ref a0), some (.int (pv_I xL1_4)), some (.int (pv_I xL2_4))]) [] h (Q172 τ ρ h a0) := by
    intro nn
    induction nn with
    | zero => intro xL1_4 xL2_4 rL1_4 rL2_4 hm; exfalso; omega
    | succ nn ih4 =>
      intro xL1_4 xL2_4 rL1_4 rL2_4 hm4
      have J30 : ∀ (xS0_30 : Int) (o1_30 : Option Value), (0 ≤ xL2_4 ∧ xL2_4 ≤ 9) → ((-2147483648) ≤ xS0_30 ∧ xS0_30 ≤ 2147483647) → ((-2147483648) ≤ xL1_4 ∧ xL1_4 ≤ 2147483647) → pv_T K 172 30 (pv_fl [some (.ref a0), o1_30, some (.int (pv_I xL2_4))]) [.int (pv_I xS0_30), .int (pv_I xL1_4)] h (Q172 τ ρ h a0) := by
        intro xS0_30 o1_30 rL2_30 rS0_30 rS1_30
        refine pw_ior d172_30 (fun z2701 hz2701 ez2701 => ?_)
        refine pw_istore_n d172_31 m172 rfl rfl ?_
        refine pw_iinc d172_32 m172 rfl rfl rfl ?_
        refine pw_goto d172_35 rfl ?_
        exact ih4 (z2701) ((xL2_4 + 1)) (by omega) (by omega) (by omega)
      refine pw_iload_n d172_4 rfl ?_
      refine pw_aload_n d172_5 rfl ?_
      refine pw_getI d172_6 g172_41 hT hA0 rfl rfl (fun u2702 vu2702 => ?_)
      refine pw_icmp_ge d172_9 rfl (by omega) (by omega) (fun c2703 => ?_) (fun c2703 => ?_)
      · refine pw_iload_n d172_38 rfl ?_
        exact pw_ireturn d172_39 t172 ⟨rfl, xL1_4, rfl, (by omega), (by omega)⟩
      · refine pw_iload_n d172_12 rfl ?_
        refine pw_aload_n d172_13 rfl ?_
        refine pw_getR d172_14 g172_21 hT hA0 rfl rfl (fun t2704 => ?_)
        have t2704 : τ (ρ a0 8) = some 23 := t2704
        refine pw_iload_n d172_17 rfl ?_
        refine pw_iald d172_18 hT t2704 rfl rfl (by omega) (by omega) (fun u2705 vu2705 => ?_)
        refine pw_iconst d172_19 ?_
        refine pw_icmp_eq d172_20 rfl (by omega) (by omega) (fun c2706 => ?_) (fun c2706 => ?_)
        · refine pw_iconst d172_29 ?_
          exact J30 (0) _ (by omega) (by omega) (by omega)
        · refine pw_iconst d172_23 ?_
          refine pw_iload_n d172_24 rfl ?_
          refine pw_ishl d172_25 (fun z2707 hz2707 ez2707 => ?_)
          refine pw_goto d172_26 rfl ?_
          exact J30 (z2707) _ (by omega) (by omega) (by omega)
  refine pw_iconst d172_0 ?_
  refine pw_istore_n d172_1 m172 rfl rfl ?_
  refine pw_iconst d172_2 ?_
  refine pw_istore_n d172_3 m172 rfl rfl ?_
  exact L4 _ (0) (0) (by omega) (by omega) (pv_mu _)

abbrev Q14v22 (τ : Nat → Option Nat) (ρ : Nat → Nat → Nat) (h : pv_H) (a0 : Nat) (x1 : Int) : Option Value → pv_H → Prop := fun r h' => pv_Ty τ ρ h' ∧ pv_Fr τ [1471] h h' ∧ r = none
set_option maxHeartbeats 4000000 in
set_option maxRecDepth 20000 in
/-- java/util/Arrays.fill([II)V -/
theorem c14v22 {τ : Nat → Option Nat} {ρ : Nat → Nat → Nat} {K : Nat → Nat} {h : pv_H} {a0 : Nat} {x1 : Int} (hT : pv_Ty τ ρ h) (hA0 : τ a0 = some 22) (hX1 : (-1) ≤ x1 ∧ x1 ≤ (-1)) : pv_C K 14 [.ref a0, .int (pv_I x1)] h (Q14v22 τ ρ h a0 x1) := by
  refine pw_entry 2 ?_
  show pv_T K 14 0 (pv_fl [some (.ref a0), some (.int (pv_I x1)), none, none]) [] h (Q14v22 τ ρ h a0 x1)
  have hF0 : pv_Fr τ [1471] h h := pv_Fr.rf
  have L5 : ∀ (nn : Nat) (h_5 : pv_H) (xL2_5 xL3_5 : Int), (pv_Ty τ ρ h_5) → (pv_Fr τ [1471] h h_5) → ((-1) ≤ x1 ∧ x1 ≤ (-1)) → (0 ≤ xL2_5 ∧ xL2_5 ≤ 10) → (10 ≤ xL3_5 ∧ xL3_5 ≤ 10) → 10 - xL2_5 < nn → pv_T K 14 5 (pv_fl [some (.ref a0), some (.int (pv_I x1)), some (.int (pv_I xL2_5)), some (.int (pv_I xL3_5))]) [] h_5 (Q14v22 τ ρ h a0 x1) := by
    intro nn
    induction nn with
    | zero => intro h_5 xL2_5 xL3_5 hT_5 hF_5 rL1_5 rL2_5 rL3_5 hm; exfalso; omega
    | succ nn ih5 =>
      intro h_5 xL2_5 xL3_5 hT_5 hF_5 rL1_5 rL2_5 rL3_5 hm5
      refine pw_iload_n d14_5 rfl ?_
      refine pw_iload_n d14_6 rfl ?_
      refine pw_icmp_ge d14_7 rfl (by omega) (by omega) (fun c2768 => ?_) (fun c2768 => ?_)
      · exact pw_return d14_20 t14 ⟨hT_5, hF_5, rfl⟩
      · refine pw_aload_n d14_10 rfl ?_
        refine pw_iload_n d14_11 rfl ?_
        refine pw_iload_n d14_12 rfl ?_
        refine pw_iast d14_13 hT_5 hA0 rfl rfl rfl (by omega) (by omega) (by omega) (by omega) (fun h2769 T2770 F2771 E2772 => ?_)
        have f2773 := hF_5.tr (F2771.up (by decide))
        refine pw_iinc d14_14 m14 rfl rfl rfl ?_
        refine pw_goto d14_17 rfl ?_
        exact ih5 h2769 ((xL2_5 + 1)) (xL3_5) T2770 f2773 (by omega) (by omega) (by omega) (by omega)
  refine pw_iconst d14_0 ?_
  refine pw_istore_n d14_1 m14 rfl rfl ?_
  refine pw_aload_n d14_2 rfl ?_
  refine pw_alen d14_3 hT hA0 rfl (by decide) ?_
  refine pw_istore_n d14_4 m14 rfl rfl ?_
  exact L5 _ h (0) (((10 : Nat) : Int)) hT hF0 (by omega) (by omega) (by omega) (pv_mu _)

abbrev Q14v23 (τ : Nat → Option Nat) (ρ : Nat → Nat → Nat) (h : pv_H) (a0 : Nat) (x1 : Int) : Option Value → pv_H → Prop := fun r h' => pv_Ty τ ρ h' ∧ pv_Fr τ [1535] h h' ∧ r = none
set_option maxHeartbeats 4000000 in
set_option maxRecDepth 20000 in
/-- java/util/Arrays.fill([II)V -/
theorem c14v23 {τ : Nat → Option Nat} {ρ : Nat → Nat → Nat} {K : Nat → Nat} {h : pv_H} {a0 : Nat} {x1 : Int} (hT : pv_Ty τ ρ h) (hA0 : τ a0 = some 23) (hX1 : (-1) ≤ x1 ∧ x1 ≤ (-1)) : pv_C K 14 [.ref a0, .int (pv_I x1)] h (Q14v23 τ ρ h a0 x1) := by
  refine pw_entry 2 ?_
  show pv_T K 14 0 (pv_fl [some (.ref a0), some (.int (pv_I x1)), none, none]) [] h (Q14v23 τ ρ h a0 x1)
  have hF0 : pv_Fr τ [1535] h h := pv_Fr.rf
  have L5 : ∀ (nn : Nat) (h_5 : pv_H) (xL2_5 xL3_5 : Int), (pv_Ty τ ρ h_5) → (pv_Fr τ [1535] h h_5) → ((-1) ≤ x1 ∧ x1 ≤ (-1)) → (0 ≤ xL2_5 ∧ xL2_5 ≤ 10) → (10 ≤ xL3_5 ∧ xL3_5 ≤ 10) → 10 - xL2_5 < nn → pv_T K 14 5 (pv_fl [some (.ref a0), some (.int (pv_I x1)), some (.int (pv_I xL2_5)), some (.int (pv_I xL3_5))]) [] h_5 (Q14v23 τ ρ h a0 x1) := by
    intro nn
    induction nn with
    | zero => intro h_5 xL2_5 xL3_5 hT_5 hF_5 rL1_5 rL2_5 rL3_5 hm; exfalso; omega
    | succ nn ih5 =>
      intro h_5 xL2_5 xL3_5 hT_5 hF_5 rL1_5 rL2_5 rL3_5 hm5
      refine pw_iload_n d14_5 rfl ?_
      refine pw_iload_n d14_6 rfl ?_
      refine pw_icmp_ge d14_7 rfl (by omega) (by omega) (fun c2834 => ?_) (fun c2834 => ?_)
      · exact pw_return d14_20 t14 ⟨hT_5, hF_5, rfl⟩
      · refine pw_aload_n d14_10 rfl ?_
        refine pw_iload_n d14_11 rfl ?_
        refine pw_iload_n d14_12 rfl ?_
        refine pw_iast d14_13 hT_5 hA0 rfl rfl rfl (by omega) (by omega) (by omega) (by omega) (fun h2835 T2836 F2837 E2838 => ?_)
        have f2839 := hF_5.tr (F2837.up (by decide))
        refine pw_iinc d14_14 m14 rfl rfl rfl ?_
        refine pw_goto d14_17 rfl ?_
        exact ih5 h2835 ((xL2_5 + 1)) (xL3_5) T2836 f2839 (by omega) (by omega) (by omega) (by omega)
  refine pw_iconst d14_0 ?_
  refine pw_istore_n d14_1 m14 rfl rfl ?_
  refine pw_aload_n d14_2 rfl ?_
  refine pw_alen d14_3 hT hA0 rfl (by decide) ?_
  refine pw_istore_n d14_4 m14 rfl rfl ?_
  exact L5 _ h (0) (((10 : Nat) : Int)) hT hF0 (by omega) (by omega) (by omega) (pv_mu _)

abbrev Q14v24 (τ : Nat → Option Nat) (ρ : Nat → Nat → Nat) (h : pv_H) (a0 : Nat) (x1 : Int) : Option Value → pv_H → Prop := fun r h' => pv_Ty τ ρ h' ∧ pv_Fr τ [1599] h h' ∧ r = none
set_option maxHeartbeats 4000000 in
set_option maxRecDepth 20000 in
/-- java/util/Arrays.fill([II)V -/
theorem c14v24 {τ : Nat → Option Nat} {ρ : Nat → Nat → Nat} {K : Nat → Nat} {h : pv_H} {a0 : Nat} {x1 : Int} (hT : pv_Ty τ ρ h) (hA0 : τ a0 = some 24) (hX1 : (-1) ≤ x1 ∧ x1 ≤ (-1)) : pv_C K 14 [.ref a0, .int (pv_I x1)] h (Q14v24 τ ρ h a0 x1) := by
  refine pw_entry 2 ?_
  show pv_T K 14 0 (pv_fl [some (.ref a0), some (.int (pv_I x1)), none, none]) [] h (Q14v24 τ ρ h a0 x1)
  have hF0 : pv_Fr τ [1599] h h := pv_Fr.rf
  have L5 : ∀ (nn : Nat) (h_5 : pv_H) (xL2_5 xL3_5 : Int), (pv_Ty τ ρ h_5) → (pv_Fr τ [1599] h h_5) → ((-1) ≤ x1 ∧ x1 ≤ (-1)) → (0 ≤ xL2_5 ∧ xL2_5 ≤ 10) → (10 ≤ xL3_5 ∧ xL3_5 ≤ 10) → 10 - xL2_5 < nn → pv_T K 14 5 (pv_fl [some (.ref a0), some (.int (pv_I x1)), some (.int (pv_I xL2_5)), some (.int (pv_I xL3_5))]) [] h_5 (Q14v24 τ ρ h a0 x1) := by
    intro nn
    induction nn with
    | zero => intro h_5 xL2_5 xL3_5 hT_5 hF_5 rL1_5 rL2_5 rL3_5 hm; exfalso; omega
    | succ nn ih5 =>
      intro h_5 xL2_5 xL3_5 hT_5 hF_5 rL1_5 rL2_5 rL3_5 hm5
      refine pw_iload_n d14_5 rfl ?_
      refine pw_iload_n d14_6 rfl ?_
      refine pw_icmp_ge d14_7 rfl (by omega) (by omega) (fun c2900 => ?_) (fun c2900 => ?_)
      · exact pw_return d14_20 t14 ⟨hT_5, hF_5, rfl⟩
      · refine pw_aload_n d14_10 rfl ?_
        refine pw_iload_n d14_11 rfl ?_
        refine pw_iload_n d14_12 rfl ?_
        refine pw_iast d14_13 hT_5 hA0 rfl rfl rfl (by omega) (by omega) (by omega) (by omega) (fun h2901 T2902 F2903 E2904 => ?_)
        have f2905 := hF_5.tr (F2903.up (by decide))
        refine pw_iinc d14_14 m14 rfl rfl rfl ?_
        refine pw_goto d14_17 rfl ?_
        exact ih5 h2901 ((xL2_5 + 1)) (xL3_5) T2902 f2905 (by omega) (by omega) (by omega) (by omega)
  refine pw_iconst d14_0 ?_
  refine pw_istore_n d14_1 m14 rfl rfl ?_
  refine pw_aload_n d14_2 rfl ?_
  refine pw_alen d14_3 hT hA0 rfl (by decide) ?_
  refine pw_istore_n d14_4 m14 rfl rfl ?_
  exact L5 _ h (0) (((10 : Nat) : Int)) hT hF0 (by omega) (by omega) (by omega) (pv_mu _)

abbrev Q14v25 (τ : Nat → Option Nat) (ρ : Nat → Nat → Nat) (h : pv_H) (a0 : Nat) (x1 : Int) : Option Value → pv_H → Prop := fun r h' => pv_Ty τ ρ h' ∧ pv_Fr τ [1663] h h' ∧ r = none
set_option maxHeartbeats 4000000 in
set_option maxRecDepth 20000 in
/-- java/util/Arrays.fill([II)V -/
theorem c14v25 {τ : Nat → Option Nat} {ρ : Nat → Nat → Nat} {K : Nat → Nat} {h : pv_H} {a0 : Nat} {x1 : Int} (hT : pv_Ty τ ρ h) (hA0 : τ a0 = some 25) (hX1 : (-1) ≤ x1 ∧ x1 ≤ (-1)) : pv_C K 14 [.ref a0, .int (pv_I x1)] h (Q14v25 τ ρ h a0 x1) := by
  refine pw_entry 2 ?_
  show pv_T K 14 0 (pv_fl [some (.ref a0), some (.int (pv_I x1)), none, none]) [] h (Q14v25 τ ρ h a0 x1)
  have hF0 : pv_Fr τ [1663] h h := pv_Fr.rf
  have L5 : ∀ (nn : Nat) (h_5 : pv_H) (xL2_5 xL3_5 : Int), (pv_Ty τ ρ h_5) → (pv_Fr τ [1663] h h_5) → ((-1) ≤ x1 ∧ x1 ≤ (-1)) → (0 ≤ xL2_5 ∧ xL2_5 ≤ 10) → (10 ≤ xL3_5 ∧ xL3_5 ≤ 10) → 10 - xL2_5 < nn → pv_T K 14 5 (pv_fl [some (.ref a0), some (.int (pv_I x1)), some (.int (pv_I xL2_5)), some (.int (pv_I xL3_5))]) [] h_5 (Q14v25 τ ρ h a0 x1) := by
    intro nn
    induction nn with
    | zero => intro h_5 xL2_5 xL3_5 hT_5 hF_5 rL1_5 rL2_5 rL3_5 hm; exfalso; omega
    | succ nn ih5 =>
      intro h_5 xL2_5 xL3_5 hT_5 hF_5 rL1_5 rL2_5 rL3_5 hm5
      refine pw_iload_n d14_5 rfl ?_
      refine pw_iload_n d14_6 rfl ?_
      refine pw_icmp_ge d14_7 rfl (by omega) (by omega) (fun c2966 => ?_) (fun c2966 => ?_)
      · exact pw_return d14_20 t14 ⟨hT_5, hF_5, rfl⟩
      · refine pw_aload_n d14_10 rfl ?_
        refine pw_iload_n d14_11 rfl ?_
        refine pw_iload_n d14_12 rfl ?_
        refine pw_iast d14_13 hT_5 hA0 rfl rfl rfl (by omega) (by omega) (by omega) (by omega) (fun h2967 T2968 F2969 E2970 => ?_)
        have f2971 := hF_5.tr (F2969.up (by decide))
        refine pw_iinc d14_14 m14 rfl rfl rfl ?_
        refine pw_goto d14_17 rfl ?_
        exact ih5 h2967 ((xL2_5 + 1)) (xL3_5) T2968 f2971 (by omega) (by omega) (by omega) (by omega)
  refine pw_iconst d14_0 ?_
  refine pw_istore_n d14_1 m14 rfl rfl ?_
  refine pw_aload_n d14_2 rfl ?_
  refine pw_alen d14_3 hT hA0 rfl (by decide) ?_
  refine pw_istore_n d14_4 m14 rfl rfl ?_
  exact L5 _ h (0) (((10 : Nat) : Int)) hT hF0 (by omega) (by omega) (by omega) (pv_mu _)

abbrev Q14v26 (τ : Nat → Option Nat) (ρ : Nat → Nat → Nat) (h : pv_H) (a0 : Nat) (x1 : Int) : Option Value → pv_H → Prop := fun r h' => pv_Ty τ ρ h' ∧ pv_Fr τ [1727] h h' ∧ r = none
set_option maxHeartbeats 4000000 in
set_option maxRecDepth 20000 in
/-- java/util/Arrays.fill([II)V -/
theorem c14v26 {τ : Nat → Option Nat} {ρ : Nat → Nat → Nat} {K : Nat → Nat} {h : pv_H} {a0 : Nat} {x1 : Int} (hT : pv_Ty τ ρ h) (hA0 : τ a0 = some 26) (hX1 : 0 ≤ x1 ∧ x1 ≤ 0) : pv_C K 14 [.ref a0, .int (pv_I x1)] h (Q14v26 τ ρ h a0 x1) := by
  refine pw_entry 2 ?_
  show pv_T K 14 0 (pv_fl [some (.ref a0), some (.int (pv_I x1)), none, none]) [] h (Q14v26 τ ρ h a0 x1)
  have hF0 : pv_Fr τ [1727] h h := pv_Fr.rf
  have L5 : ∀ (nn : Nat) (h_5 : pv_H) (xL2_5 xL3_5 : Int), (pv_Ty τ ρ h_5) → (pv_Fr τ [1727] h h_5) → (0 ≤ x1 ∧ x1 ≤ 0) → (0 ≤ xL2_5 ∧ xL2_5 ≤ 100) → (100 ≤ xL3_5 ∧ xL3_5 ≤ 100) → 100 - xL2_5 < nn → pv_T K 14 5 (pv_fl [some (.ref a0), some (.int (pv_I x1)), some (.int (pv_I xL2_5)), some (.int (pv_I xL3_5))]) [] h_5 (Q14v26 τ ρ h a0 x1) := by
    intro nn
    induction nn with
    | zero => intro h_5 xL2_5 xL3_5 hT_5 hF_5 rL1_5 rL2_5 rL3_5 hm; exfalso; omega
    | succ nn ih5 =>
      intro h_5 xL2_5 xL3_5 hT_5 hF_5 rL1_5 rL2_5 rL3_5 hm5
      refine pw_iload_n d14_5 rfl ?_
      refine pw_iload_n d14_6 rfl ?_
      refine pw_icmp_ge d14_7 rfl (by omega) (by omega) (fun c3122 => ?_) (fun c3122 => ?_)
      · exact pw_return d14_20 t14 ⟨hT_5, hF_5, rfl⟩
      · refine pw_aload_n d14_10 rfl ?_
        refine pw_iload_n d14_11 rfl ?_
        refine pw_iload_n d14_12 rfl ?_
        refine pw_iast d14_13 hT_5 hA0 rfl rfl rfl (by omega) (by omega) (by omega) (by omega) (fun h3123 T3124 F3125 E3126 => ?_)
        have f3127 := hF_5.tr (F3125.up (by decide))
        refine pw_iinc d14_14 m14 rfl rfl rfl ?_
        refine pw_goto d14_17 rfl ?_
        exact ih5 h3123 ((xL2_5 + 1)) (xL3_5) T3124 f3127 (by omega) (by omega) (by omega) (by omega)
  refine pw_iconst d14_0 ?_
  refine pw_istore_n d14_1 m14 rfl rfl ?_
  refine pw_aload_n d14_2 rfl ?_
  refine pw_alen d14_3 hT hA0 rfl (by decide) ?_
  refine pw_istore_n d14_4 m14 rfl rfl ?_
  exact L5 _ h (0) (((100 : Nat) : Int)) hT hF0 (by omega) (by omega) (by omega) (pv_mu _)

abbrev Q14v27 (τ : Nat → Option Nat) (ρ : Nat → Nat → Nat) (h : pv_H) (a0 : Nat) (x1 : Int) : Option Value → pv_H → Prop := fun r h' => pv_Ty τ ρ h' ∧ pv_Fr τ [1791] h h' ∧ r = none
set_option maxHeartbeats 4000000 in
set_option maxRecDepth 20000 in
/-- java/util/Arrays.fill([II)V -/
theorem c14v27 {τ : Nat → Option Nat} {ρ : Nat → Nat → Nat} {K : Nat → Nat} {h : pv_H} {a0 : Nat} {x1 : Int} (hT : pv_Ty τ ρ h) (hA0 : τ a0 = some 27) (hX1 : 0 ≤ x1 ∧ x1 ≤ 0) : pv_C K 14 [.ref a0, .int (pv_I x1)] h (Q14v27 τ ρ h a0 x1) := by
  refine pw_entry 2 ?_
  show pv_T K 14 0 (pv_fl [some (.ref a0), some (.int (pv_I x1)), none, none]) [] h (Q14v27 τ ρ h a0 x1)
  have hF0 : pv_Fr τ [1791] h h := pv_Fr.rf
  have L5 : ∀ (nn : Nat) (h_5 : pv_H) (xL2_5 xL3_5 : Int), (pv_Ty τ ρ h_5) → (pv_Fr τ [1791] h h_5) → (0 ≤ x1 ∧ x1 ≤ 0) → (0 ≤ xL2_5 ∧ xL2_5 ≤ 100) → (100 ≤ xL3_5 ∧ xL3_5 ≤ 100) → 100 - xL2_5 < nn → pv_T K 14 5 (pv_fl [some (.ref a0), some (.int (pv_I x1)), some (.int (pv_I xL2_5)), some (.int (pv_I xL3_5))]) [] h_5 (Q14v27 τ ρ h a0 x1) := by
    intro nn
    induction nn with
    | zero => intro h_5 xL2_5 xL3_5 hT_5 hF_5 rL1_5 rL2_5 rL3_5 hm; exfalso; omega
    | succ nn ih5 =>
      intro h_5 xL2_5 xL3_5 hT_5 hF_5 rL1_5 rL2_5 rL3_5 hm5
      refine pw_iload_n d14_5 rfl ?_
      refine pw_iload_n d14_6 rfl ?_
      refine pw_icmp_ge d14_7 rfl (by omega) (by omega) (fun c3278 => ?_) (fun c3278 => ?_)
      · exact pw_return d14_20 t14 ⟨hT_5, hF_5, rfl⟩
      · refine pw_aload_n d14_10 rfl ?_
        refine pw_iload_n d14_11 rfl ?_
        refine pw_iload_n d14_12 rfl ?_
        refine pw_iast d14_13 hT_5 hA0 rfl rfl rfl (by omega) (by omega) (by omega) (by omega) (fun h3279 T3280 F3281 E3282 => ?_)
        have f3283 := hF_5.tr (F3281.up (by decide))
        refine pw_iinc d14_14 m14 rfl rfl rfl ?_
        refine pw_goto d14_17 rfl ?_
        exact ih5 h3279 ((xL2_5 + 1)) (xL3_5) T3280 f3283 (by omega) (by omega) (by omega) (by omega)
  refine pw_iconst d14_0 ?_
  refine pw_istore_n d14_1 m14 rfl rfl ?_
  refine pw_aload_n d14_2 rfl ?_
  refine pw_alen d14_3 hT hA0 rfl (by decide) ?_
  refine pw_istore_n d14_4 m14 rfl rfl ?_
  exact L5 _ h (0) (((100 : Nat) : Int)) hT hF0 (by omega) (by omega) (by omega) (pv_mu _)

abbrev Q14v32 (τ : Nat → Option Nat) (ρ : Nat → Nat → Nat) (h : pv_H) (a0 : Nat) (x1 : Int) : Option Value → pv_H → Prop := fun r h' => pv_Ty τ ρ h' ∧ pv_Fr τ [2111] h h' ∧ r = none
set_option maxHeartbeats 4000000 in
set_option maxRecDepth 20000 in
/-- java/util/Arrays.fill([II)V -/
theorem c14v32 {τ : Nat → Option Nat} {ρ : Nat → Nat → Nat} {K : Nat → Nat} {h : pv_H} {a0 : Nat} {x1 : Int} (hT : pv_Ty τ ρ h) (hA0 : τ a0 = some 32) (hX1 : 0 ≤ x1 ∧ x1 ≤ 0) : pv_C K 14 [.ref a0, .int (pv_I x1)] h (Q14v32 τ ρ h a0 x1) := by
  refine pw_entry 2 ?_
  show pv_T K 14 0 (pv_fl [some (.ref a0), some (.int (pv_I x1)), none, none]) [] h (Q14v32 τ ρ h a0 x1)
  have hF0 : pv_Fr τ [2111] h h := pv_Fr.rf
  have L5 : ∀ (nn : Nat) (h_5 : pv_H) (xL2_5 xL3_5 : Int), (pv_Ty τ ρ h_5) → (pv_Fr τ [2111] h h_5) → (0 ≤ x1 ∧ x1 ≤ 0) → (0 ≤ xL2_5 ∧ xL2_5 ≤ 18) → (18 ≤ xL3_5 ∧ xL3_5 ≤ 18) → 18 - xL2_5 < nn → pv_T K 14 5 (pv_fl [some (.ref a0), some (.int (pv_I x1)), some (.int (pv_I xL2_5)), some (.int (pv_I xL3_5))]) [] h_5 (Q14v32 τ ρ h a0 x1) := by
    intro nn
    induction nn with
    | zero => intro h_5 xL2_5 xL3_5 hT_5 hF_5 rL1_5 rL2_5 rL3_5 hm; exfalso; omega
    | succ nn ih5 =>
      intro h_5 xL2_5 xL3_5 hT_5 hF_5 rL1_5 rL2_5 rL3_5 hm5
      refine pw_iload_n d14_5 rfl ?_
      refine pw_iload_n d14_6 rfl ?_
      refine pw_icmp_ge d14_7 rfl (by omega) (by omega) (fun c3356 => ?_) (fun c3356 => ?_)
      · exact pw_return d14_20 t14 ⟨hT_5, hF_5, rfl⟩
      · refine pw_aload_n d14_10 rfl ?_
        refine pw_iload_n d14_11 rfl ?_
        refine pw_iload_n d14_12 rfl ?_
        refine pw_iast d14_13 hT_5 hA0 rfl rfl rfl (by omega) (by omega) (by omega) (by omega) (fun h3357 T3358 F3359 E3360 => ?_)
        have f3361 := hF_5.tr (F3359.up (by decide))
        refine pw_iinc d14_14 m14 rfl rfl rfl ?_
        refine pw_goto d14_17 rfl ?_
        exact ih5 h3357 ((xL2_5 + 1)) (xL3_5) T3358 f3361 (by omega) (by omega) (by omega) (by omega)
  refine pw_iconst d14_0 ?_
  refine pw_istore_n d14_1 m14 rfl rfl ?_
  refine pw_aload_n d14_2 rfl ?_
  refine pw_alen d14_3 hT hA0 rfl (by decide) ?_
  refine pw_istore_n d14_4 m14 rfl rfl ?_
  exact L5 _ h (0) (((18 : Nat) : Int)) hT hF0 (by omega) (by omega) (by omega) (pv_mu _)

abbrev Q148v31 (τ : Nat → Option Nat) (ρ : Nat → Nat → Nat) (h : pv_H) (a0 : Nat) (x1 : Int) : Option Value → pv_H → Prop := fun r h' => pv_Ty τ ρ h' ∧ pv_Fr τ [2047] h h' ∧ r = none
set_option maxHeartbeats 4000000 in
set_option maxRecDepth 20000 in
/-- java/util/Arrays.fill([JJ)V -/
theorem c148v31 {τ : Nat → Option Nat} {ρ : Nat → Nat → Nat} {K : Nat → Nat} {h : pv_H} {a0 : Nat} {x1 : Int} (hT : pv_Ty τ ρ h) (hA0 : τ a0 = some 31) (hX1 : (-9223372036854775808) ≤ x1 ∧ x1 ≤ 9223372036854775807) : pv_C K 148 [.ref a0, .long (pv_J x1)] h (Q148v31 τ ρ h a0 x1) := by
  refine pw_entry 2 ?_
  show pv_T K 148 0 (pv_fl [some (.ref a0), some (.long (pv_J x1)), none, none, none]) [] h (Q148v31 τ ρ h a0 x1)
  have hF0 : pv_Fr τ [2047] h h := pv_Fr.rf
  have L6 : ∀ (nn : Nat) (h_6 : pv_H) (xL3_6 xL4_6 : Int) (o2_6 : Option Value), (pv_Ty τ ρ h_6) → (pv_Fr τ [2047] h h_6) → ((-9223372036854775808) ≤ x1 ∧ x1 ≤ 9223372036854775807) → (0 ≤ xL3_6 ∧ xL3_6 ≤ 60) → (60 ≤ xL4_6 ∧ xL4_6 ≤ 60) → 60 - xL3_6 < nn → pv_T K 148 6 (pv_fl [some (.ref a0), some (.long (pv_J x1)), o2_6, some (.int (pv_I xL3_6)), some (.int (pv_I xL4_6))]) [] h_6 (Q148v31 τ ρ h a0 x1) := by
    intro nn
    induction nn with
    | zero => intro h_6 xL3_6 xL4_6 o2_6 hT_6 hF_6 rL1_6 rL3_6 rL4_6 hm; exfalso; omega
    | succ nn ih6 =>
      intro h_6 xL3_6 xL4_6 o2_6 hT_6 hF_6 rL1_6 rL3_6 rL4_6 hm6
      refine pw_iload_n d148_6 rfl ?_
      refine pw_iload d148_7 rfl ?_
      refine pw_icmp_ge d148_9 rfl (by omega) (by omega) (fun c3488 => ?_) (fun c3488 => ?_)
      · exact pw_return d148_22 t148 ⟨hT_6, hF_6, rfl⟩
      · refine pw_aload_n d148_12 rfl ?_
        refine pw_iload_n d148_13 rfl ?_
        refine pw_lload_n d148_14 rfl ?_
        refine pw_last d148_15 hT_6 hA0 rfl rfl rfl (by omega) (by omega) (by omega) (fun h3489 T3490 F3491 E3492 => ?_)
        have f3493 := hF_6.tr (F3491.up (by decide))
        refine pw_iinc d148_16 m148 rfl rfl rfl ?_
        refine pw_goto d148_19 rfl ?_
        exact ih6 h3489 ((xL3_6 + 1)) (xL4_6) _ T3490 f3493 (by omega) (by omega) (by omega) (by omega)
  refine pw_iconst d148_0 ?_
  refine pw_istore_n d148_1 m148 rfl rfl ?_
  refine pw_aload_n d148_2 rfl ?_
  refine pw_alen d148_3 hT hA0 rfl (by decide) ?_
  refine pw_istore d148_4 m148 rfl rfl ?_
  exact L6 _ h (0) (((60 : Nat) : Int)) _ hT hF0 (by omega) (by omega) (by omega) (pv_mu _)

abbrev Q148v37 (τ : Nat → Option Nat) (ρ : Nat → Nat → Nat) (h : pv_H) (a0 : Nat) (x1 : Int) : Option Value → pv_H → Prop := fun r h' => pv_Ty τ ρ h' ∧ pv_Fr τ [2431] h h' ∧ r = none
set_option maxHeartbeats 4000000 in
set_option maxRecDepth 20000 in
/-- java/util/Arrays.fill([JJ)V -/
theorem c148v37 {τ : Nat → Option Nat} {ρ : Nat → Nat → Nat} {K : Nat → Nat} {h : pv_H} {a0 : Nat} {x1 : Int} (hT : pv_Ty τ ρ h) (hA0 : τ a0 = some 37) (hX1 : (-9223372036854775808) ≤ x1 ∧ x1 ≤ 9223372036854775807) : pv_C K 148 [.ref a0, .long (pv_J x1)] h (Q148v37 τ ρ h a0 x1) := by
  refine pw_entry 2 ?_
  show pv_T K 148 0 (pv_fl [some (.ref a0), some (.long (pv_J x1)), none, none, none]) [] h (Q148v37 τ ρ h a0 x1)
  have hF0 : pv_Fr τ [2431] h h := pv_Fr.rf
  have L6 : ∀ (nn : Nat) (h_6 : pv_H) (xL3_6 xL4_6 : Int) (o2_6 : Option Value), (pv_Ty τ ρ h_6) → (pv_Fr τ [2431] h h_6) → ((-9223372036854775808) ≤ x1 ∧ x1 ≤ 9223372036854775807) → (0 ≤ xL3_6 ∧ xL3_6 ≤ 10) → (10 ≤ xL4_6 ∧ xL4_6 ≤ 10) → 10 - xL3_6 < nn → pv_T K 148 6 (pv_fl [some (.ref a0), some (.long (pv_J x1)), o2_6, some (.int (pv_I xL3_6)), some (.int (pv_I xL4_6))]) [] h_6 (Q148v37 τ ρ h a0 x1) := by
    intro nn
    induction nn with
    | zero => intro h_6 xL3_6 xL4_6 o2_6 hT_6 hF_6 rL1_6 rL3_6 rL4_6 hm; exfalso; omega
    | succ nn ih6 =>
      intro h_6 xL3_6 xL4_6 o2_6 hT_6 hF_6 rL1_6 rL3_6 rL4_6 hm6
      refine pw_iload_n d148_6 rfl ?_
      refine pw_iload d148_7 rfl ?_
      refine pw_icmp_ge d148_9 rfl (by omega) (by omega) (fun c3554 => ?_) (fun c3554 => ?_)
      · exact pw_return d148_22 t148 ⟨hT_6, hF_6, rfl⟩
      · refine pw_aload_n d148_12 rfl ?_
        refine pw_iload_n d148_13 rfl ?_
        refine pw_lload_n d148_14 rfl ?_
        refine pw_last d148_15 hT_6 hA0 rfl rfl rfl (by omega) (by omega) (by omega) (fun h3555 T3556 F3557 E3558 => ?_)
        have f3559 := hF_6.tr (F3557.up (by decide))
        refine pw_iinc d148_16 m148 rfl rfl rfl ?_
        refine pw_goto d148_19 rfl ?_
        exact ih6 h3555 ((xL3_6 + 1)) (xL4_6) _ T3556 f3559 (by omega) (by omega) (by omega) (by omega)
  refine pw_iconst d148_0 ?_
  refine pw_istore_n d148_1 m148 rfl rfl ?_
  refine pw_aload_n d148_2 rfl ?_
  refine pw_alen d148_3 hT hA0 rfl (by decide) ?_
  refine pw_istore d148_4 m148 rfl rfl ?_
  exact L6 _ h (0) (((10 : Nat) : Int)) _ hT hF0 (by omega) (by omega) (by omega) (pv_mu _)

abbrev Q15 (τ : Nat → Option Nat) (ρ : Nat → Nat → Nat) (h : pv_H) (a0 : Nat) : Option Value → pv_H → Prop := fun r h' => pv_Ty τ ρ h' ∧ pv_Fr τ [142, 143] h h' ∧ r = none
set_option maxHeartbeats 4000000 in
set_option maxRecDepth 20000 in
/-- AngleNet$Net.forgetFlips()V -/
theorem c15 {τ : Nat → Option Nat} {ρ : Nat → Nat → Nat} {K : Nat → Nat} {h : pv_H} {a0 : Nat} (hT : pv_Ty τ ρ h) (hA0 : τ a0 = some 2) : pv_C K 15 [.ref a0] h (Q15 τ ρ h a0) := by
  refine pw_entry 0 ?_
  show pv_T K 15 0 (pv_fl [some (.ref a0)]) [] h (Q15 τ ρ h a0)
  have hF0 : pv_Fr τ [142, 143] h h := pv_Fr.rf
  refine pw_aload_n d15_0 rfl ?_
  refine pw_iconst d15_1 ?_
  refine pw_putI d15_2 g15_66 w2_14 hT hA0 rfl rfl rfl (by omega) (by omega) (fun h3582 T3583 F3584 E3585 => ?_)
  have f3586 := hF0.tr (F3584.up (by decide))
  refine pw_aload_n d15_5 rfl ?_
  refine pw_iconst d15_6 ?_
  refine pw_putI d15_7 g15_69 w2_15 T3583 hA0 rfl rfl rfl (by omega) (by omega) (fun h3587 T3588 F3589 E3590 => ?_)
  have f3591 := f3586.tr (F3589.up (by decide))
  have q3592 := ((F3589 a0 2 hA0).1 14 (by decide)).1
  exact pw_return d15_10 t15 ⟨T3588, f3591, rfl⟩

abbrev Q13 (τ : Nat → Option Nat) (ρ : Nat → Nat → Nat) (h : pv_H) (a0 : Nat) : Option Value → pv_H → Prop := fun r h' => pv_Ty τ ρ h' ∧ pv_Fr τ [128, 129, 130, 131, 132, 142, 143, 1471, 1535, 1599, 1663, 1727, 1791] h h' ∧ r = none
set_option maxHeartbeats 4000000 in
set_option maxRecDepth 20000 in
/-- AngleNet$Net.clear()V -/
theorem c13 {τ : Nat → Option Nat} {ρ : Nat → Nat → Nat} {K : Nat → Nat} {h : pv_H} {a0 : Nat} (hT : pv_Ty τ ρ h) (hA0 : τ a0 = some 2) : pv_C K 13 [.ref a0] h (Q13 τ ρ h a0) := by
  refine pw_entry 0 ?_
  show pv_T K 13 0 (pv_fl [some (.ref a0)]) [] h (Q13 τ ρ h a0)
  have hF0 : pv_Fr τ [128, 129, 130, 131, 132, 142, 143, 1471, 1535, 1599, 1663, 1727, 1791] h h := pv_Fr.rf
  refine pw_aload_n d13_0 rfl ?_
  refine pw_iconst d13_1 ?_
  refine pw_putI d13_2 g13_41 w2_0 hT hA0 rfl rfl rfl (by omega) (by omega) (fun h3843 T3844 F3845 E3846 => ?_)
  have f3847 := hF0.tr (F3845.up (by decide))
  refine pw_aload_n d13_5 rfl ?_
  refine pw_iconst d13_6 ?_
  refine pw_putI d13_7 g13_45 w2_1 T3844 hA0 rfl rfl rfl (by omega) (by omega) (fun h3848 T3849 F3850 E3851 => ?_)
  have f3852 := f3847.tr (F3850.up (by decide))
  have q3853 := ((F3850 a0 2 hA0).1 0 (by decide)).1
  refine pw_aload_n d13_10 rfl ?_
  refine pw_iconst d13_11 ?_
  refine pw_putI d13_12 g13_48 w2_2 T3849 hA0 rfl rfl rfl (by omega) (by omega) (fun h3854 T3855 F3856 E3857 => ?_)
  have f3858 := f3852.tr (F3856.up (by decide))
  have q3859 := ((F3856 a0 2 hA0).1 0 (by decide)).1
  have q3860 := ((F3856 a0 2 hA0).1 1 (by decide)).1
  refine pw_aload_n d13_15 rfl ?_
  refine pw_iconst d13_16 ?_
  refine pw_putI d13_17 g13_51 w2_3 T3855 hA0 rfl rfl rfl (by omega) (by omega) (fun h3861 T3862 F3863 E3864 => ?_)
  have f3865 := f3858.tr (F3863.up (by decide))
  have q3866 := ((F3863 a0 2 hA0).1 0 (by decide)).1
  have q3867 := ((F3863 a0 2 hA0).1 1 (by decide)).1
  have q3868 := ((F3863 a0 2 hA0).1 2 (by decide)).1
  refine pw_aload_n d13_20 rfl ?_
  refine pw_iconst d13_21 ?_
  refine pw_putI d13_22 g13_54 w2_4 T3862 hA0 rfl rfl rfl (by omega) (by omega) (fun h3869 T3870 F3871 E3872 => ?_)
  have f3873 := f3865.tr (F3871.up (by decide))
  have q3874 := ((F3871 a0 2 hA0).1 0 (by decide)).1
  have q3875 := ((F3871 a0 2 hA0).1 1 (by decide)).1
  have q3876 := ((F3871 a0 2 hA0).1 2 (by decide)).1
  have q3877 := ((F3871 a0 2 hA0).1 3 (by decide)).1
  refine pw_aload_n d13_25 rfl ?_
  refine pw_getR d13_26 g13_18 T3870 hA0 rfl rfl (fun t3878 => ?_)
  have t3878 : τ (ρ a0 7) = some 22 := t3878
  refine pw_iconst d13_29 ?_
  refine pw_callS2 d13_30 k13_57 rfl rfl (c14v22 (τ := τ) (ρ := ρ) T3870 t3878 (by omega)) (fun r3879 h3880 q3881 => ?_)
  obtain ⟨T3882, F3883, ez3884⟩ := q3881
  subst ez3884
  have f3885 := f3873.tr (F3883.up (by decide))
  have q3886 := ((F3883 a0 2 hA0).1 0 (by decide)).1
  have q3887 := ((F3883 a0 2 hA0).1 1 (by decide)).1
  have q3888 := ((F3883 a0 2 hA0).1 2 (by decide)).1
  have q3889 := ((F3883 a0 2 hA0).1 3 (by decide)).1
  have q3890 := ((F3883 a0 2 hA0).1 4 (by decide)).1
  refine pw_aload_n d13_33 rfl ?_
  refine pw_getR d13_34 g13_21 T3882 hA0 rfl rfl (fun t3891 => ?_)
  have t3891 : τ (ρ a0 8) = some 23 := t3891
  refine pw_iconst d13_37 ?_
  refine pw_callS2 d13_38 k13_57 rfl rfl (c14v23 (τ := τ) (ρ := ρ) T3882 t3891 (by omega)) (fun r3892 h3893 q3894 => ?_)
  obtain ⟨T3895, F3896, ez3897⟩ := q3894
  subst ez3897
  have f3898 := f3885.tr (F3896.up (by decide))
  have q3899 := ((F3896 a0 2 hA0).1 0 (by decide)).1
  have q3900 := ((F3896 a0 2 hA0).1 1 (by decide)).1
  have q3901 := ((F3896 a0 2 hA0).1 2 (by decide)).1
  have q3902 := ((F3896 a0 2 hA0).1 3 (by decide)).1
  have q3903 := ((F3896 a0 2 hA0).1 4 (by decide)).1
  refine pw_aload_n d13_41 rfl ?_
  refine pw_getR d13_42 g13_24 T3895 hA0 rfl rfl (fun t3904 => ?_)
  have t3904 : τ (ρ a0 9) = some 24 := t3904
  refine pw_iconst d13_45 ?_
  refine pw_callS2 d13_46 k13_57 rfl rfl (c14v24 (τ := τ) (ρ := ρ) T3895 t3904 (by omega)) (fun r3905 h3906 q3907 => ?_)
  obtain ⟨T3908, F3909, ez3910⟩ := q3907
  subst ez3910
  have f3911 := f3898.tr (F3909.up (by decide))
  have q3912 := ((F3909 a0 2 hA0).1 0 (by decide)).1
  have q3913 := ((F3909 a0 2 hA0).1 1 (by decide)).1
  have q3914 := ((F3909 a0 2 hA0).1 2 (by decide)).1
  have q3915 := ((F3909 a0 2 hA0).1 3 (by decide)).1
  have q3916 := ((F3909 a0 2 hA0).1 4 (by decide)).1
  refine pw_aload_n d13_49 rfl ?_
  refine pw_getR d13_50 g13_27 T3908 hA0 rfl rfl (fun t3917 => ?_)
  have t3917 : τ (ρ a0 10) = some 25 := t3917
  refine pw_iconst d13_53 ?_
  refine pw_callS2 d13_54 k13_57 rfl rfl (c14v25 (τ := τ) (ρ := ρ) T3908 t3917 (by omega)) (fun r3918 h3919 q3920 => ?_)
  obtain ⟨T3921, F3922, ez3923⟩ := q3920
  subst ez3923
  have f3924 := f3911.tr (F3922.up (by decide))
  have q3925 := ((F3922 a0 2 hA0).1 0 (by decide)).1
  have q3926 := ((F3922 a0 2 hA0).1 1 (by decide)).1
  have q3927 := ((F3922 a0 2 hA0).1 2 (by decide)).1
  have q3928 := ((F3922 a0 2 hA0).1 3 (by decide)).1
  have q3929 := ((F3922 a0 2 hA0).1 4 (by decide)).1
  refine pw_aload_n d13_57 rfl ?_
  refine pw_getR d13_58 g13_30 T3921 hA0 rfl rfl (fun t3930 => ?_)
  have t3930 : τ (ρ a0 11) = some 26 := t3930
  refine pw_iconst d13_61 ?_
  refine pw_callS2 d13_62 k13_57 rfl rfl (c14v26 (τ := τ) (ρ := ρ) T3921 t3930 (by omega)) (fun r3931 h3932 q3933 => ?_)
  obtain ⟨T3934, F3935, ez3936⟩ := q3933
  subst ez3936
  have f3937 := f3924.tr (F3935.up (by decide))
  have q3938 := ((F3935 a0 2 hA0).1 0 (by decide)).1
  have q3939 := ((F3935 a0 2 hA0).1 1 (by decide)).1
  have q3940 := ((F3935 a0 2 hA0).1 2 (by decide)).1
  have q3941 := ((F3935 a0 2 hA0).1 3 (by decide)).1
  have q3942 := ((F3935 a0 2 hA0).1 4 (by decide)).1
  refine pw_aload_n d13_65 rfl ?_
  refine pw_getR d13_66 g13_33 T3934 hA0 rfl rfl (fun t3943 => ?_)
  have t3943 : τ (ρ a0 12) = some 27 := t3943
  refine pw_iconst d13_69 ?_
  refine pw_callS2 d13_70 k13_57 rfl rfl (c14v27 (τ := τ) (ρ := ρ) T3934 t3943 (by omega)) (fun r3944 h3945 q3946 => ?_)
  obtain ⟨T3947, F3948, ez3949⟩ := q3946
  subst ez3949
  have f3950 := f3937.tr (F3948.up (by decide))
  have q3951 := ((F3948 a0 2 hA0).1 0 (by decide)).1
  have q3952 := ((F3948 a0 2 hA0).1 1 (by decide)).1
  have q3953 := ((F3948 a0 2 hA0).1 2 (by decide)).1
  have q3954 := ((F3948 a0 2 hA0).1 3 (by decide)).1
  have q3955 := ((F3948 a0 2 hA0).1 4 (by decide)).1
  refine pw_aload_n d13_73 rfl ?_
  refine pw_callV0 d13_74 k13_63 T3947 hA0 rfl rfl rfl (c15 (τ := τ) (ρ := ρ) T3947 hA0) (fun r3956 h3957 q3958 => ?_)
  obtain ⟨T3959, F3960, ez3961⟩ := q3958
  subst ez3961
  have f3962 := f3950.tr (F3960.up (by decide))
  have q3963 := ((F3960 a0 2 hA0).1 0 (by decide)).1
  have q3964 := ((F3960 a0 2 hA0).1 1 (by decide)).1
  have q3965 := ((F3960 a0 2 hA0).1 2 (by decide)).1
  have q3966 := ((F3960 a0 2 hA0).1 3 (by decide)).1
  have q3967 := ((F3960 a0 2 hA0).1 4 (by decide)).1
  exact pw_return d13_77 t13 ⟨T3959, f3962, rfl⟩

abbrev Q36 (τ : Nat → Option Nat) (ρ : Nat → Nat → Nat) (h : pv_H) (a0 : Nat) (x1 : Int) : Option Value → pv_H → Prop := fun r h' => pv_Ty τ ρ h' ∧ pv_Fr τ [128, 131, 132] h h' ∧ r = none
set_option maxHeartbeats 4000000 in
set_option maxRecDepth 20000 in
/-- AngleNet$Net.begin(I)V -/
theorem c36 {τ : Nat → Option Nat} {ρ : Nat → Nat → Nat} {K : Nat → Nat} {h : pv_H} {a0 : Nat} {x1 : Int} (hT : pv_Ty τ ρ h) (hA0 : τ a0 = some 2) (hX1 : 0 ≤ x1 ∧ x1 ≤ 10) : pv_C K 36 [.ref a0, .int (pv_I x1)] h (Q36 τ ρ h a0 x1) := by
  refine pw_entry 0 ?_
  show pv_T K 36 0 (pv_fl [some (.ref a0), some (.int (pv_I x1))]) [] h (Q36 τ ρ h a0 x1)
  have hF0 : pv_Fr τ [128, 131, 132] h h := pv_Fr.rf
  refine pw_aload_n d36_0 rfl ?_
  refine pw_iload_n d36_1 rfl ?_
  refine pw_putI d36_2 g36_41 w2_0 hT hA0 rfl rfl rfl (by omega) (by omega) (fun h4004 T4005 F4006 E4007 => ?_)
  have f4008 := hF0.tr (F4006.up (by decide))
  refine pw_aload_n d36_5 rfl ?_
  refine pw_iconst d36_6 ?_
  refine pw_putI d36_7 g36_51 w2_3 T4005 hA0 rfl rfl rfl (by omega) (by omega) (fun h4009 T4010 F4011 E4012 => ?_)
  have f4013 := f4008.tr (F4011.up (by decide))
  have q4014 := ((F4011 a0 2 hA0).1 0 (by decide)).1
  refine pw_aload_n d36_10 rfl ?_
  refine pw_sipush d36_11 (by decide) ?_
  refine pw_putI d36_14 g36_54 w2_4 T4010 hA0 rfl rfl rfl (by omega) (by omega) (fun h4015 T4016 F4017 E4018 => ?_)
  have f4019 := f4013.tr (F4017.up (by decide))
  have q4020 := ((F4017 a0 2 hA0).1 0 (by decide)).1
  have q4021 := ((F4017 a0 2 hA0).1 3 (by decide)).1
  exact pw_return d36_17 t36 ⟨T4016, f4019, rfl⟩

abbrev Q52 (τ : Nat → Option Nat) (ρ : Nat → Nat → Nat) (h : pv_H) (a0 : Nat) (a1 : Nat) : Option Value → pv_H → Prop := fun r h' => pv_Ty τ ρ h' ∧ pv_Fr τ [128, 129, 130, 131, 132, 142, 143, 1343, 1407, 1471, 1535, 1599, 1663, 1727, 1791, 1855] h h' ∧ r = none
set_option maxHeartbeats 4000000 in
set_option maxRecDepth 20000 in
/-- AngleNet$Net.copyFrom(LAngleNet$Net;)V -/
theorem c52 {τ : Nat → Option Nat} {ρ : Nat → Nat → Nat} {K : Nat → Nat} {h : pv_H} {a0 : Nat} {a1 : Nat} (hT : pv_Ty τ ρ h) (hA0 : τ a0 = some 2) (hA1 : τ a1 = some 2) : pv_C K 52 [.ref a0, .ref a1] h (Q52 τ ρ h a0 a1) := by
  refine pw_entry 0 ?_
  show pv_T K 52 0 (pv_fl [some (.ref a0), some (.ref a1)]) [] h (Q52 τ ρ h a0 a1)
  have hF0 : pv_Fr τ [128, 129, 130, 131, 132, 142, 143, 1343, 1407, 1471, 1535, 1599, 1663, 1727, 1791, 1855] h h := pv_Fr.rf
  refine pw_aload_n d52_0 rfl ?_
  refine pw_aload_n d52_1 rfl ?_
  refine pw_getI d52_2 g52_41 hT hA1 rfl rfl (fun u4586 vu4586 => ?_)
  refine pw_putI d52_5 g52_41 w2_0 hT hA0 rfl rfl rfl (by omega) (by omega) (fun h4587 T4588 F4589 E4590 => ?_)
  have f4591 := hF0.tr (F4589.up (by decide))
  refine pw_aload_n d52_8 rfl ?_
  refine pw_aload_n d52_9 rfl ?_
  refine pw_getI d52_10 g52_45 T4588 hA1 rfl rfl (fun u4592 vu4592 => ?_)
  refine pw_putI d52_13 g52_45 w2_1 T4588 hA0 rfl rfl rfl (by omega) (by omega) (fun h4593 T4594 F4595 E4596 => ?_)
  have f4597 := f4591.tr (F4595.up (by decide))
  have q4598 := ((F4595 a0 2 hA0).1 0 (by decide)).1
  have q4599 := ((F4595 a1 2 hA1).1 0 (by decide)).1
  refine pw_aload_n d52_16 rfl ?_
  refine pw_aload_n d52_17 rfl ?_
  refine pw_getI d52_18 g52_48 T4594 hA1 rfl rfl (fun u4600 vu4600 => ?_)
  refine pw_putI d52_21 g52_48 w2_2 T4594 hA0 rfl rfl rfl (by omega) (by omega) (fun h4601 T4602 F4603 E4604 => ?_)
  have f4605 := f4597.tr (F4603.up (by decide))
  have q4606 := ((F4603 a0 2 hA0).1 0 (by decide)).1
  have q4607 := ((F4603 a0 2 hA0).1 1 (by decide)).1
  have q4608 := ((F4603 a1 2 hA1).1 0 (by decide)).1
  have q4609 := ((F4603 a1 2 hA1).1 1 (by decide)).1
  refine pw_aload_n d52_24 rfl ?_
  refine pw_aload_n d52_25 rfl ?_
  refine pw_getI d52_26 g52_51 T4602 hA1 rfl rfl (fun u4610 vu4610 => ?_)
  refine pw_putI d52_29 g52_51 w2_3 T4602 hA0 rfl rfl rfl (by omega) (by omega) (fun h4611 T4612 F4613 E4614 => ?_)
  have f4615 := f4605.tr (F4613.up (by decide))
  have q4616 := ((F4613 a0 2 hA0).1 0 (by decide)).1
  have q4617 := ((F4613 a0 2 hA0).1 1 (by decide)).1
  have q4618 := ((F4613 a0 2 hA0).1 2 (by decide)).1
  have q4619 := ((F4613 a1 2 hA1).1 0 (by decide)).1
  have q4620 := ((F4613 a1 2 hA1).1 1 (by decide)).1
  have q4621 := ((F4613 a1 2 hA1).1 2 (by decide)).1
  refine pw_aload_n d52_32 rfl ?_
  refine pw_aload_n d52_33 rfl ?_
  refine pw_getI d52_34 g52_54 T4612 hA1 rfl rfl (fun u4622 vu4622 => ?_)
  refine pw_putI d52_37 g52_54 w2_4 T4612 hA0 rfl rfl rfl (by omega) (by omega) (fun h4623 T4624 F4625 E4626 => ?_)
  have f4627 := f4615.tr (F4625.up (by decide))
  have q4628 := ((F4625 a0 2 hA0).1 0 (by decide)).1
  have q4629 := ((F4625 a0 2 hA0).1 1 (by decide)).1
  have q4630 := ((F4625 a0 2 hA0).1 2 (by decide)).1
  have q4631 := ((F4625 a0 2 hA0).1 3 (by decide)).1
  have q4632 := ((F4625 a1 2 hA1).1 0 (by decide)).1
  have q4633 := ((F4625 a1 2 hA1).1 1 (by decide)).1
  have q4634 := ((F4625 a1 2 hA1).1 2 (by decide)).1
  have q4635 := ((F4625 a1 2 hA1).1 3 (by decide)).1
  refine pw_aload_n d52_40 rfl ?_
  refine pw_aload_n d52_41 rfl ?_
  refine pw_getI d52_42 g52_66 T4624 hA1 rfl rfl (fun u4636 vu4636 => ?_)
  refine pw_putI d52_45 g52_66 w2_14 T4624 hA0 rfl rfl rfl (by omega) (by omega) (fun h4637 T4638 F4639 E4640 => ?_)
  have f4641 := f4627.tr (F4639.up (by decide))
  have q4642 := ((F4639 a0 2 hA0).1 0 (by decide)).1
  have q4643 := ((F4639 a0 2 hA0).1 1 (by decide)).1
  have q4644 := ((F4639 a0 2 hA0).1 2 (by decide)).1
  have q4645 := ((F4639 a0 2 hA0).1 3 (by decide)).1
  have q4646 := ((F4639 a0 2 hA0).1 4 (by decide)).1
  have q4647 := ((F4639 a1 2 hA1).1 0 (by decide)).1
  have q4648 := ((F4639 a1 2 hA1).1 1 (by decide)).1
  have q4649 := ((F4639 a1 2 hA1).1 2 (by decide)).1
  have q4650 := ((F4639 a1 2 hA1).1 3 (by decide)).1
  have q4651 := ((F4639 a1 2 hA1).1 4 (by decide)).1
  refine pw_aload_n d52_48 rfl ?_
  refine pw_aload_n d52_49 rfl ?_
  refine pw_getI d52_50 g52_69 T4638 hA1 rfl rfl (fun u4652 vu4652 => ?_)
  refine pw_putI d52_53 g52_69 w2_15 T4638 hA0 rfl rfl rfl (by omega) (by omega) (fun h4653 T4654 F4655 E4656 => ?_)
  have f4657 := f4641.tr (F4655.up (by decide))
  have q4658 := ((F4655 a0 2 hA0).1 0 (by decide)).1
  have q4659 := ((F4655 a0 2 hA0).1 1 (by decide)).1
  have q4660 := ((F4655 a0 2 hA0).1 2 (by decide)).1
  have q4661 := ((F4655 a0 2 hA0).1 3 (by decide)).1
  have q4662 := ((F4655 a0 2 hA0).1 4 (by decide)).1
  have q4663 := ((F4655 a0 2 hA0).1 14 (by decide)).1
  have q4664 := ((F4655 a1 2 hA1).1 0 (by decide)).1
  have q4665 := ((F4655 a1 2 hA1).1 1 (by decide)).1
  have q4666 := ((F4655 a1 2 hA1).1 2 (by decide)).1
  have q4667 := ((F4655 a1 2 hA1).1 3 (by decide)).1
  have q4668 := ((F4655 a1 2 hA1).1 4 (by decide)).1
  have q4669 := ((F4655 a1 2 hA1).1 14 (by decide)).1
  refine pw_aload_n d52_56 rfl ?_
  refine pw_getR d52_57 g52_9 T4654 hA1 rfl rfl (fun t4670 => ?_)
  have t4670 : τ (ρ a1 5) = some 20 := t4670
  refine pw_iconst d52_60 ?_
  refine pw_aload_n d52_61 rfl ?_
  refine pw_getR d52_62 g52_9 T4654 hA0 rfl rfl (fun t4671 => ?_)
  have t4671 : τ (ρ a0 5) = some 20 := t4671
  refine pw_iconst d52_65 ?_
  refine pw_aload_n d52_66 rfl ?_
  refine pw_getR d52_67 g52_9 T4654 hA0 rfl rfl (fun t4672 => ?_)
  have t4672 : τ (ρ a0 5) = some 20 := t4672
  refine pw_alen d52_70 T4654 t4672 rfl (by decide) ?_
  refine pw_copyT d52_71 k52_72 T4654 t4670 t4672 rfl rfl rfl rfl (by omega) (by omega) (fun h4673 T4674 F4675 E4676 => ?_)
  have f4677 := f4657.tr (F4675.up (by decide))
  have q4678 := ((F4675 a0 2 hA0).1 0 (by decide)).1
  have q4679 := ((F4675 a0 2 hA0).1 1 (by decide)).1
  have q4680 := ((F4675 a0 2 hA0).1 2 (by decide)).1
  have q4681 := ((F4675 a0 2 hA0).1 3 (by decide)).1
  have q4682 := ((F4675 a0 2 hA0).1 4 (by decide)).1
  have q4683 := ((F4675 a0 2 hA0).1 14 (by decide)).1
  have q4684 := ((F4675 a0 2 hA0).1 15 (by decide)).1
  have q4685 := ((F4675 a1 2 hA1).1 0 (by decide)).1
  have q4686 := ((F4675 a1 2 hA1).1 1 (by decide)).1
  have q4687 := ((F4675 a1 2 hA1).1 2 (by decide)).1
  have q4688 := ((F4675 a1 2 hA1).1 3 (by decide)).1
  have q4689 := ((F4675 a1 2 hA1).1 4 (by decide)).1
  have q4690 := ((F4675 a1 2 hA1).1 14 (by decide)).1
  have q4691 := ((F4675 a1 2 hA1).1 15 (by decide)).1
  refine pw_aload_n d52_74 rfl ?_
  refine pw_getR d52_75 g52_15 T4674 hA1 rfl rfl (fun t4692 => ?_)
  have t4692 : τ (ρ a1 6) = some 21 := t4692
  refine pw_iconst d52_78 ?_
  refine pw_aload_n d52_79 rfl ?_
  refine pw_getR d52_80 g52_15 T4674 hA0 rfl rfl (fun t4693 => ?_)
  have t4693 : τ (ρ a0 6) = some 21 := t4693
  refine pw_iconst d52_83 ?_
  refine pw_aload_n d52_84 rfl ?_
  refine pw_getR d52_85 g52_15 T4674 hA0 rfl rfl (fun t4694 => ?_)
  have t4694 : τ (ρ a0 6) = some 21 := t4694
  refine pw_alen d52_88 T4674 t4694 rfl (by decide) ?_
  refine pw_copyT d52_89 k52_72 T4674 t4692 t4694 rfl rfl rfl rfl (by omega) (by omega) (fun h4695 T4696 F4697 E4698 => ?_)
  have f4699 := f4677.tr (F4697.up (by decide))
  have q4700 := ((F4697 a0 2 hA0).1 0 (by decide)).1
  have q4701 := ((F4697 a0 2 hA0).1 1 (by decide)).1
  have q4702 := ((F4697 a0 2 hA0).1 2 (by decide)).1
  have q4703 := ((F4697 a0 2 hA0).1 3 (by decide)).1
  have q4704 := ((F4697 a0 2 hA0).1 4 (by decide)).1
  have q4705 := ((F4697 a0 2 hA0).1 14 (by decide)).1
  have q4706 := ((F4697 a0 2 hA0).1 15 (by decide)).1
  have q4707 := ((F4697 a1 2 hA1).1 0 (by decide)).1
  have q4708 := ((F4697 a1 2 hA1).1 1 (by decide)).1
  have q4709 := ((F4697 a1 2 hA1).1 2 (by decide)).1
  have q4710 := ((F4697 a1 2 hA1).1 3 (by decide)).1
  have q4711 := ((F4697 a1 2 hA1).1 4 (by decide)).1
  have q4712 := ((F4697 a1 2 hA1).1 14 (by decide)).1
  have q4713 := ((F4697 a1 2 hA1).1 15 (by decide)).1
  refine pw_aload_n d52_92 rfl ?_
  refine pw_getR d52_93 g52_18 T4696 hA1 rfl rfl (fun t4714 => ?_)
  have t4714 : τ (ρ a1 7) = some 22 := t4714
  refine pw_iconst d52_96 ?_
  refine pw_aload_n d52_97 rfl ?_
  refine pw_getR d52_98 g52_18 T4696 hA0 rfl rfl (fun t4715 => ?_)
  have t4715 : τ (ρ a0 7) = some 22 := t4715
  refine pw_iconst d52_101 ?_
  refine pw_aload_n d52_102 rfl ?_
  refine pw_getR d52_103 g52_18 T4696 hA0 rfl rfl (fun t4716 => ?_)
  have t4716 : τ (ρ a0 7) = some 22 := t4716
  refine pw_alen d52_106 T4696 t4716 rfl (by decide) ?_
  refine pw_copyT d52_107 k52_72 T4696 t4714 t4716 rfl rfl rfl rfl (by omega) (by omega) (fun h4717 T4718 F4719 E4720 => ?_)
  have f4721 := f4699.tr (F4719.up (by decide))
  have q4722 := ((F4719 a0 2 hA0).1 0 (by decide)).1
  have q4723 := ((F4719 a0 2 hA0).1 1 (by decide)).1
  have q4724 := ((F4719 a0 2 hA0).1 2 (by decide)).1
  have q4725 := ((F4719 a0 2 hA0).1 3 (by decide)).1
  have q4726 := ((F4719 a0 2 hA0).1 4 (by decide)).1
  have q4727 := ((F4719 a0 2 hA0).1 14 (by decide)).1
  have q4728 := ((F4719 a0 2 hA0).1 15 (by decide)).1
  have q4729 := ((F4719 a1 2 hA1).1 0 (by decide)).1
  have q4730 := ((F4719 a1 2 hA1).1 1 (by decide)).1
  have q4731 := ((F4719 a1 2 hA1).1 2 (by decide)).1
  have q4732 := ((F4719 a1 2 hA1).1 3 (by decide)).1
  have q4733 := ((F4719 a1 2 hA1).1 4 (by decide)).1
  have q4734 := ((F4719 a1 2 hA1).1 14 (by decide)).1
  have q4735 := ((F4719 a1 2 hA1).1 15 (by decide)).1
  refine pw_aload_n d52_110 rfl ?_
  refine pw_getR d52_111 g52_21 T4718 hA1 rfl rfl (fun t4736 => ?_)
  have t4736 : τ (ρ a1 8) = some 23 := t4736
  refine pw_iconst d52_114 ?_
  refine pw_aload_n d52_115 rfl ?_
  refine pw_getR d52_116 g52_21 T4718 hA0 rfl rfl (fun t4737 => ?_)
  have t4737 : τ (ρ a0 8) = some 23 := t4737
  refine pw_iconst d52_119 ?_
  refine pw_aload_n d52_120 rfl ?_
  refine pw_getR d52_121 g52_21 T4718 hA0 rfl rfl (fun t4738 => ?_)
  have t4738 : τ (ρ a0 8) = some 23 := t4738
  refine pw_alen d52_124 T4718 t4738 rfl (by decide) ?_
  refine pw_copyT d52_125 k52_72 T4718 t4736 t4738 rfl rfl rfl rfl (by omega) (by omega) (fun h4739 T4740 F4741 E4742 => ?_)
  have f4743 := f4721.tr (F4741.up (by decide))
  have q4744 := ((F4741 a0 2 hA0).1 0 (by decide)).1
  have q4745 := ((F4741 a0 2 hA0).1 1 (by decide)).1
  have q4746 := ((F4741 a0 2 hA0).1 2 (by decide)).1
  have q4747 := ((F4741 a0 2 hA0).1 3 (by decide)).1
  have q4748 := ((F4741 a0 2 hA0).1 4 (by decide)).1
  have q4749 := ((F4741 a0 2 hA0).1 14 (by decide)).1
  have q4750 := ((F4741 a0 2 hA0).1 15 (by decide)).1
  have q4751 := ((F4741 a1 2 hA1).1 0 (by decide)).1
  have q4752 := ((F4741 a1 2 hA1).1 1 (by decide)).1
  have q4753 := ((F4741 a1 2 hA1).1 2 (by decide)).1
  have q4754 := ((F4741 a1 2 hA1).1 3 (by decide)).1
  have q4755 := ((F4741 a1 2 hA1).1 4 (by decide)).1
  have q4756 := ((F4741 a1 2 hA1).1 14 (by decide)).1
  have q4757 := ((F4741 a1 2 hA1).1 15 (by decide)).1
  refine pw_aload_n d52_128 rfl ?_
  refine pw_getR d52_129 g52_24 T4740 hA1 rfl rfl (fun t4758 => ?_)
  have t4758 : τ (ρ a1 9) = some 24 := t4758
  refine pw_iconst d52_132 ?_
  refine pw_aload_n d52_133 rfl ?_
  refine pw_getR d52_134 g52_24 T4740 hA0 rfl rfl (fun t4759 => ?_)
  have t4759 : τ (ρ a0 9) = some 24 := t4759
  refine pw_iconst d52_137 ?_
  refine pw_aload_n d52_138 rfl ?_
  refine pw_getR d52_139 g52_24 T4740 hA0 rfl rfl (fun t4760 => ?_)
  have t4760 : τ (ρ a0 9) = some 24 := t4760
  refine pw_alen d52_142 T4740 t4760 rfl (by decide) ?_
  refine pw_copyT d52_143 k52_72 T4740 t4758 t4760 rfl rfl rfl rfl (by omega) (by omega) (fun h4761 T4762 F4763 E4764 => ?_)
  have f4765 := f4743.tr (F4763.up (by decide))
  have q4766 := ((F4763 a0 2 hA0).1 0 (by decide)).1
  have q4767 := ((F4763 a0 2 hA0).1 1 (by decide)).1
  have q4768 := ((F4763 a0 2 hA0).1 2 (by decide)).1
  have q4769 := ((F4763 a0 2 hA0).1 3 (by decide)).1
  have q4770 := ((F4763 a0 2 hA0).1 4 (by decide)).1
  have q4771 := ((F4763 a0 2 hA0).1 14 (by decide)).1
  have q4772 := ((F4763 a0 2 hA0).1 15 (by decide)).1
  have q4773 := ((F4763 a1 2 hA1).1 0 (by decide)).1
  have q4774 := ((F4763 a1 2 hA1).1 1 (by decide)).1
  have q4775 := ((F4763 a1 2 hA1).1 2 (by decide)).1
  have q4776 := ((F4763 a1 2 hA1).1 3 (by decide)).1
  have q4777 := ((F4763 a1 2 hA1).1 4 (by decide)).1
  have q4778 := ((F4763 a1 2 hA1).1 14 (by decide)).1
  have q4779 := ((F4763 a1 2 hA1).1 15 (by decide)).1
  refine pw_aload_n d52_146 rfl ?_
  refine pw_getR d52_147 g52_27 T4762 hA1 rfl rfl (fun t4780 => ?_)
  have t4780 : τ (ρ a1 10) = some 25 := t4780
  refine pw_iconst d52_150 ?_
  refine pw_aload_n d52_151 rfl ?_
  refine pw_getR d52_152 g52_27 T4762 hA0 rfl rfl (fun t4781 => ?_)
  have t4781 : τ (ρ a0 10) = some 25 := t4781
  refine pw_iconst d52_155 ?_
  refine pw_aload_n d52_156 rfl ?_
  refine pw_getR d52_157 g52_27 T4762 hA0 rfl rfl (fun t4782 => ?_)
  have t4782 : τ (ρ a0 10) = some 25 := t4782
  refine pw_alen d52_160 T4762 t4782 rfl (by decide) ?_
  refine pw_copyT d52_161 k52_72 T4762 t4780 t4782 rfl rfl rfl rfl (by omega) (by omega) (fun h4783 T4784 F4785 E4786 => ?_)
  have f4787 := f4765.tr (F4785.up (by decide))
  have q4788 := ((F4785 a0 2 hA0).1 0 (by decide)).1
  have q4789 := ((F4785 a0 2 hA0).1 1 (by decide)).1
  have q4790 := ((F4785 a0 2 hA0).1 2 (by decide)).1
  have q4791 := ((F4785 a0 2 hA0).1 3 (by decide)).1
  have q4792 := ((F4785 a0 2 hA0).1 4 (by decide)).1
  have q4793 := ((F4785 a0 2 hA0).1 14 (by decide)).1
  have q4794 := ((F4785 a0 2 hA0).1 15 (by decide)).1
  have q4795 := ((F4785 a1 2 hA1).1 0 (by decide)).1
  have q4796 := ((F4785 a1 2 hA1).1 1 (by decide)).1
  have q4797 := ((F4785 a1 2 hA1).1 2 (by decide)).1
  have q4798 := ((F4785 a1 2 hA1).1 3 (by decide)).1
  have q4799 := ((F4785 a1 2 hA1).1 4 (by decide)).1
  have q4800 := ((F4785 a1 2 hA1).1 14 (by decide)).1
  have q4801 := ((F4785 a1 2 hA1).1 15 (by decide)).1
  refine pw_aload_n d52_164 rfl ?_
  refine pw_getR d52_165 g52_30 T4784 hA1 rfl rfl (fun t4802 => ?_)
  have t4802 : τ (ρ a1 11) = some 26 := t4802
  refine pw_iconst d52_168 ?_
  refine pw_aload_n d52_169 rfl ?_
  refine pw_getR d52_170 g52_30 T4784 hA0 rfl rfl (fun t4803 => ?_)
  have t4803 : τ (ρ a0 11) = some 26 := t4803
  refine pw_iconst d52_173 ?_
  refine pw_aload_n d52_174 rfl ?_
  refine pw_getR d52_175 g52_30 T4784 hA0 rfl rfl (fun t4804 => ?_)
  have t4804 : τ (ρ a0 11) = some 26 := t4804
  refine pw_alen d52_178 T4784 t4804 rfl (by decide) ?_
  refine pw_copyT d52_179 k52_72 T4784 t4802 t4804 rfl rfl rfl rfl (by omega) (by omega) (fun h4805 T4806 F4807 E4808 => ?_)
  have f4809 := f4787.tr (F4807.up (by decide))
  have q4810 := ((F4807 a0 2 hA0).1 0 (by decide)).1
  have q4811 := ((F4807 a0 2 hA0).1 1 (by decide)).1
  have q4812 := ((F4807 a0 2 hA0).1 2 (by decide)).1
  have q4813 := ((F4807 a0 2 hA0).1 3 (by decide)).1
  have q4814 := ((F4807 a0 2 hA0).1 4 (by decide)).1
  have q4815 := ((F4807 a0 2 hA0).1 14 (by decide)).1
  have q4816 := ((F4807 a0 2 hA0).1 15 (by decide)).1
  have q4817 := ((F4807 a1 2 hA1).1 0 (by decide)).1
  have q4818 := ((F4807 a1 2 hA1).1 1 (by decide)).1
  have q4819 := ((F4807 a1 2 hA1).1 2 (by decide)).1
  have q4820 := ((F4807 a1 2 hA1).1 3 (by decide)).1
  have q4821 := ((F4807 a1 2 hA1).1 4 (by decide)).1
  have q4822 := ((F4807 a1 2 hA1).1 14 (by decide)).1
  have q4823 := ((F4807 a1 2 hA1).1 15 (by decide)).1
  refine pw_aload_n d52_182 rfl ?_
  refine pw_getR d52_183 g52_33 T4806 hA1 rfl rfl (fun t4824 => ?_)
  have t4824 : τ (ρ a1 12) = some 27 := t4824
  refine pw_iconst d52_186 ?_
  refine pw_aload_n d52_187 rfl ?_
  refine pw_getR d52_188 g52_33 T4806 hA0 rfl rfl (fun t4825 => ?_)
  have t4825 : τ (ρ a0 12) = some 27 := t4825
  refine pw_iconst d52_191 ?_
  refine pw_aload_n d52_192 rfl ?_
  refine pw_getR d52_193 g52_33 T4806 hA0 rfl rfl (fun t4826 => ?_)
  have t4826 : τ (ρ a0 12) = some 27 := t4826
  refine pw_alen d52_196 T4806 t4826 rfl (by decide) ?_
  refine pw_copyT d52_197 k52_72 T4806 t4824 t4826 rfl rfl rfl rfl (by omega) (by omega) (fun h4827 T4828 F4829 E4830 => ?_)
  have f4831 := f4809.tr (F4829.up (by decide))
  have q4832 := ((F4829 a0 2 hA0).1 0 (by decide)).1
  have q4833 := ((F4829 a0 2 hA0).1 1 (by decide)).1
  have q4834 := ((F4829 a0 2 hA0).1 2 (by decide)).1
  have q4835 := ((F4829 a0 2 hA0).1 3 (by decide)).1
  have q4836 := ((F4829 a0 2 hA0).1 4 (by decide)).1
  have q4837 := ((F4829 a0 2 hA0).1 14 (by decide)).1
  have q4838 := ((F4829 a0 2 hA0).1 15 (by decide)).1
  have q4839 := ((F4829 a1 2 hA1).1 0 (by decide)).1
  have q4840 := ((F4829 a1 2 hA1).1 1 (by decide)).1
  have q4841 := ((F4829 a1 2 hA1).1 2 (by decide)).1
  have q4842 := ((F4829 a1 2 hA1).1 3 (by decide)).1
  have q4843 := ((F4829 a1 2 hA1).1 4 (by decide)).1
  have q4844 := ((F4829 a1 2 hA1).1 14 (by decide)).1
  have q4845 := ((F4829 a1 2 hA1).1 15 (by decide)).1
  refine pw_aload_n d52_200 rfl ?_
  refine pw_getR d52_201 g52_38 T4828 hA1 rfl rfl (fun t4846 => ?_)
  have t4846 : τ (ρ a1 13) = some 28 := t4846
  refine pw_iconst d52_204 ?_
  refine pw_aload_n d52_205 rfl ?_
  refine pw_getR d52_206 g52_38 T4828 hA0 rfl rfl (fun t4847 => ?_)
  have t4847 : τ (ρ a0 13) = some 28 := t4847
  refine pw_iconst d52_209 ?_
  refine pw_aload_n d52_210 rfl ?_
  refine pw_getR d52_211 g52_38 T4828 hA0 rfl rfl (fun t4848 => ?_)
  have t4848 : τ (ρ a0 13) = some 28 := t4848
  refine pw_alen d52_214 T4828 t4848 rfl (by decide) ?_
  refine pw_copyT d52_215 k52_72 T4828 t4846 t4848 rfl rfl rfl rfl (by omega) (by omega) (fun h4849 T4850 F4851 E4852 => ?_)
  have f4853 := f4831.tr (F4851.up (by decide))
  have q4854 := ((F4851 a0 2 hA0).1 0 (by decide)).1
  have q4855 := ((F4851 a0 2 hA0).1 1 (by decide)).1
  have q4856 := ((F4851 a0 2 hA0).1 2 (by decide)).1
  have q4857 := ((F4851 a0 2 hA0).1 3 (by decide)).1
  have q4858 := ((F4851 a0 2 hA0).1 4 (by decide)).1
  have q4859 := ((F4851 a0 2 hA0).1 14 (by decide)).1
  have q4860 := ((F4851 a0 2 hA0).1 15 (by decide)).1
  have q4861 := ((F4851 a1 2 hA1).1 0 (by decide)).1
  have q4862 := ((F4851 a1 2 hA1).1 1 (by decide)).1
  have q4863 := ((F4851 a1 2 hA1).1 2 (by decide)).1
  have q4864 := ((F4851 a1 2 hA1).1 3 (by decide)).1
  have q4865 := ((F4851 a1 2 hA1).1 4 (by decide)).1
  have q4866 := ((F4851 a1 2 hA1).1 14 (by decide)).1
  have q4867 := ((F4851 a1 2 hA1).1 15 (by decide)).1
  exact pw_return d52_218 t52 ⟨T4850, f4853, rfl⟩
