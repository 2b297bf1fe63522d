abbrev Q184 (τ : Nat → Option Nat) (ρ : Nat → Nat → Nat) (h : pv_H) (x0 : Int) (x1 : Int) (x2 : Int) : Option Value → pv_H → Prop := fun r h' => h = h' ∧ ∃ z : Int, r = some (.int (pv_I z)) ∧ 0 ≤ z ∧ z ≤ 1 ∧ ((z = 1 ∧ x1 ≤ x0 ∧ x0 ≤ x2) ∨ (z = 0 ∧ (x0 < x1 ∨ x2 < x0)))
set_option maxHeartbeats 4000000 in
set_option maxRecDepth 20000 in
/-- AngleNetModel.in(JJJ)Z -/
theorem ct184 {τ : Nat → Option Nat} {ρ : Nat → Nat → Nat} {K : Nat → Nat} {h : pv_H} {x0 : Int} {x1 : Int} {x2 : Int} (hX0 : (-9223372036854775808) ≤ x0 ∧ x0 ≤ 9223372036854775807) (hX1 : (-9223372036854775808) ≤ x1 ∧ x1 ≤ 9223372036854775807) (hX2 : (-9223372036854775808) ≤ x2 ∧ x2 ≤ 9223372036854775807) : pv_C K 184 [.long (pv_J x0), .long (pv_J x1), .long (pv_J x2)] h (Q184 τ ρ h x0 x1 x2) := by
  refine pw_entry 0 ?_
  show pv_T K 184 0 (pv_fl [some (.long (pv_J x0)), none, some (.long (pv_J x1)), none, some (.long (pv_J x2)), none]) [] h (Q184 τ ρ h x0 x1 x2)
  refine pw_lload_n d184_0 rfl ?_
  refine pw_lload_n d184_1 rfl ?_
  refine pw_lcmp d184_2 (by omega) (by omega) (fun z2 ez2 => ?_)
  refine pw_if_lt d184_3 rfl (by omega) (fun c3 => ?_) (fun c3 => ?_)
  · refine pw_iconst d184_17 ?_
    exact pw_zreturn d184_18 tt184 (by omega) ⟨rfl, 0, rfl, (by omega), (by omega), (by omega)⟩
  · refine pw_lload_n d184_6 rfl ?_
    refine pw_lload d184_7 rfl ?_
    refine pw_lcmp d184_9 (by omega) (by omega) (fun z9 ez9 => ?_)
    refine pw_if_gt d184_10 rfl (by omega) (fun c10 => ?_) (fun c10 => ?_)
    · refine pw_iconst d184_17 ?_
      exact pw_zreturn d184_18 tt184 (by omega) ⟨rfl, 0, rfl, (by omega), (by omega), (by omega)⟩
    · refine pw_iconst d184_13 ?_
      refine pw_goto d184_14 rfl ?_
      exact pw_zreturn d184_18 tt184 (by omega) ⟨rfl, 1, rfl, (by omega), (by omega), (by omega)⟩

abbrev Q224 (τ : Nat → Option Nat) (ρ : Nat → Nat → Nat) (h : pv_H) (a0 : Nat) : Option Value → pv_H → Prop := fun r h' => h = h' ∧ ∃ z : Int, r = some (.int (pv_I z)) ∧ 0 ≤ z ∧ z ≤ 1
set_option maxHeartbeats 4000000 in
set_option maxRecDepth 20000 in
/-- AngleNetModel.isNet()Z -/
theorem ct224 {τ : Nat → Option Nat} {ρ : Nat → Nat → Nat} {K : Nat → Nat} {h : pv_H} {a0 : Nat} (hT : pv_Ty τ ρ h) (hA0 : τ a0 = some 7) : pv_C K 224 [.ref a0] h (Q224 τ ρ h a0) := by
  refine pw_entry 0 ?_
  show pv_T K 224 0 (pv_fl [some (.ref a0)]) [] h (Q224 τ ρ h a0)
  refine pw_aload_n d224_0 rfl ?_
  refine pw_getR d224_1 g224_9 hT hA0 rfl rfl (fun t1 => ?_)
  have t1 : τ (ρ a0 1) = some 40 := t1
  refine pw_iconst d224_4 ?_
  refine pw_ialdB d224_5 hT t1 rfl rfl (by omega) (by omega) (fun u5 => ?_)
  have u5 : pv_wok ((0 : Int)) (pv_aI h (ρ a0 1) ((0 : Int)).toNat) := u5
  have vu5 := u5.2.1 (by omega)
  refine pw_if_le d224_6 rfl (by omega) (fun c6 => ?_) (fun c6 => ?_)
  · refine pw_iconst d224_13 ?_
    exact pw_zreturn d224_14 tt224 (by omega) ⟨rfl, 0, rfl, (by omega), (by omega)⟩
  · refine pw_iconst d224_9 ?_
    refine pw_goto d224_10 rfl ?_
    exact pw_zreturn d224_14 tt224 (by omega) ⟨rfl, 1, rfl, (by omega), (by omega)⟩

abbrev Q214 (τ : Nat → Option Nat) (ρ : Nat → Nat → Nat) (h : pv_H) (a0 : Nat) (x1 : Int) : Option Value → pv_H → Prop := fun r h' => h = h' ∧ ∃ z : Int, r = some (.int (pv_I z)) ∧ 0 ≤ z ∧ z ≤ 1 ∧ ((z = 1 ∧ 0 ≤ x1 ∧ x1 ≤ 9 ∧ x1 < pv_aI h (ρ a0 1) (0 : Int).toNat) ∨ (z = 0 ∧ (x1 < 0 ∨ pv_aI h (ρ a0 1) (0 : Int).toNat ≤ x1)))
set_option maxHeartbeats 4000000 in
set_option maxRecDepth 20000 in
/-- AngleNetModel.isPost(I)Z -/
theorem ct214 {τ : Nat → Option Nat} {ρ : Nat → Nat → Nat} {K : Nat → Nat} {h : pv_H} {a0 : Nat} {x1 : Int} (hT : pv_Ty τ ρ h) (hA0 : τ a0 = some 7) (hX1 : (-2147483648) ≤ x1 ∧ x1 ≤ 2147483647) : pv_C K 214 [.ref a0, .int (pv_I x1)] h (Q214 τ ρ h a0 x1) := by
  refine pw_entry 0 ?_
  show pv_T K 214 0 (pv_fl [some (.ref a0), some (.int (pv_I x1))]) [] h (Q214 τ ρ h a0 x1)
  refine pw_iload_n d214_0 rfl ?_
  refine pw_i2l d214_1 (by omega) ?_
  refine pw_lconst (z := 0) d214_2 (by decide) ?_
  refine pw_aload_n d214_3 rfl ?_
  refine pw_getR d214_4 g214_9 hT hA0 rfl rfl (fun t4 => ?_)
  have t4 : τ (ρ a0 1) = some 40 := t4
  refine pw_iconst d214_7 ?_
  refine pw_ialdB d214_8 hT t4 rfl rfl (by omega) (by omega) (fun u8 => ?_)
  have u8 : pv_wok ((0 : Int)) (pv_aI h (ρ a0 1) ((0 : Int)).toNat) := u8
  have vu8 := u8.2.1 (by omega)
  refine pw_iconst d214_9 ?_
  refine pw_isub d214_10 ?_
  refine pw_i2l d214_11 (by omega) ?_
  refine pw_callS3 d214_12 k214_73 rfl rfl (ct184 (τ := τ) (ρ := ρ) (by omega) (by omega) (by omega)) (fun r12 h12 q12 => ?_)
  obtain ⟨eh12, z12, ez12, lz12, uz12, pz12_0⟩ := q12
  subst eh12
  subst ez12
  exact pw_zreturn d214_15 tt214 (by omega) ⟨rfl, z12, rfl, (by omega), (by omega), (by omega)⟩

abbrev Q211 (τ : Nat → Option Nat) (ρ : Nat → Nat → Nat) (h : pv_H) (a0 : Nat) (x1 : Int) : Option Value → pv_H → Prop := fun r h' => h = h' ∧ ∃ z : Int, r = some (.int (pv_I z)) ∧ 0 ≤ z ∧ z ≤ 1 ∧ ((z = 1 ∧ 0 ≤ x1 ∧ x1 ≤ 17 ∧ x1 < pv_aI h (ρ a0 1) (1 : Int).toNat) ∨ (z = 0 ∧ (x1 < 0 ∨ pv_aI h (ρ a0 1) (1 : Int).toNat ≤ x1)))
set_option maxHeartbeats 4000000 in
set_option maxRecDepth 20000 in
/-- AngleNetModel.isThird(I)Z -/
theorem ct211 {τ : Nat → Option Nat} {ρ : Nat → Nat → Nat} {K : Nat → Nat} {h : pv_H} {a0 : Nat} {x1 : Int} (hT : pv_Ty τ ρ h) (hA0 : τ a0 = some 7) (hX1 : (-2147483648) ≤ x1 ∧ x1 ≤ 2147483647) : pv_C K 211 [.ref a0, .int (pv_I x1)] h (Q211 τ ρ h a0 x1) := by
  refine pw_entry 0 ?_
  show pv_T K 211 0 (pv_fl [some (.ref a0), some (.int (pv_I x1))]) [] h (Q211 τ ρ h a0 x1)
  refine pw_iload_n d211_0 rfl ?_
  refine pw_i2l d211_1 (by omega) ?_
  refine pw_lconst (z := 0) d211_2 (by decide) ?_
  refine pw_aload_n d211_3 rfl ?_
  refine pw_getR d211_4 g211_9 hT hA0 rfl rfl (fun t4 => ?_)
  have t4 : τ (ρ a0 1) = some 40 := t4
  refine pw_iconst d211_7 ?_
  refine pw_ialdB d211_8 hT t4 rfl rfl (by omega) (by omega) (fun u8 => ?_)
  have u8 : pv_wok ((1 : Int)) (pv_aI h (ρ a0 1) ((1 : Int)).toNat) := u8
  have vu8 := u8.2.2.1 (by omega)
  refine pw_iconst d211_9 ?_
  refine pw_isub d211_10 ?_
  refine pw_i2l d211_11 (by omega) ?_
  refine pw_callS3 d211_12 k211_73 rfl rfl (ct184 (τ := τ) (ρ := ρ) (by omega) (by omega) (by omega)) (fun r12 h12 q12 => ?_)
  obtain ⟨eh12, z12, ez12, lz12, uz12, pz12_0⟩ := q12
  subst eh12
  subst ez12
  exact pw_zreturn d211_15 tt211 (by omega) ⟨rfl, z12, rfl, (by omega), (by omega), (by omega)⟩

abbrev Q216 (τ : Nat → Option Nat) (ρ : Nat → Nat → Nat) (h : pv_H) (a0 : Nat) : Option Value → pv_H → Prop := fun r h' => h = h' ∧ ∃ z : Int, r = some (.int (pv_I z)) ∧ 0 ≤ z ∧ z ≤ 18 ∧ (z = pv_aI h (ρ a0 1) (1 : Int).toNat)
set_option maxHeartbeats 4000000 in
set_option maxRecDepth 20000 in
/-- AngleNetModel.thirds()I -/
theorem ct216 {τ : Nat → Option Nat} {ρ : Nat → Nat → Nat} {K : Nat → Nat} {h : pv_H} {a0 : Nat} (hT : pv_Ty τ ρ h) (hA0 : τ a0 = some 7) : pv_C K 216 [.ref a0] h (Q216 τ ρ h a0) := by
  refine pw_entry 0 ?_
  show pv_T K 216 0 (pv_fl [some (.ref a0)]) [] h (Q216 τ ρ h a0)
  refine pw_aload_n d216_0 rfl ?_
  refine pw_getR d216_1 g216_9 hT hA0 rfl rfl (fun t1 => ?_)
  have t1 : τ (ρ a0 1) = some 40 := t1
  refine pw_iconst d216_4 ?_
  refine pw_ialdB d216_5 hT t1 rfl rfl (by omega) (by omega) (fun u5 => ?_)
  have u5 : pv_wok ((1 : Int)) (pv_aI h (ρ a0 1) ((1 : Int)).toNat) := u5
  have vu5 := u5.2.2.1 (by omega)
  exact pw_ireturn d216_6 tt216 ⟨rfl, (pv_aI h (ρ a0 1) ((1 : Int)).toNat), rfl, (by omega), (by omega), (by omega)⟩

abbrev Q212 (τ : Nat → Option Nat) (ρ : Nat → Nat → Nat) (h : pv_H) (a0 : Nat) (x1 : Int) (x2 : Int) : Option Value → pv_H → Prop := fun r h' => h = h' ∧ ∃ z : Int, r = some (.int (pv_I z)) ∧ 0 ≤ z ∧ z ≤ 540 ∧ (z = pv_aI h (ρ a0 1) (8 + 4 * x1 + x2).toNat) ∧ (x2 ≤ 2 → z ≤ 9)
set_option maxHeartbeats 4000000 in
set_option maxRecDepth 20000 in
/-- AngleNetModel.at(II)I -/
theorem ct212 {τ : Nat → Option Nat} {ρ : Nat → Nat → Nat} {K : Nat → Nat} {h : pv_H} {a0 : Nat} {x1 : Int} {x2 : Int} (hT : pv_Ty τ ρ h) (hA0 : τ a0 = some 7) (hX1 : 0 ≤ x1 ∧ x1 ≤ 17) (hX2 : 0 ≤ x2 ∧ x2 ≤ 3) : pv_C K 212 [.ref a0, .int (pv_I x1), .int (pv_I x2)] h (Q212 τ ρ h a0 x1 x2) := by
  refine pw_entry 0 ?_
  show pv_T K 212 0 (pv_fl [some (.ref a0), some (.int (pv_I x1)), some (.int (pv_I x2))]) [] h (Q212 τ ρ h a0 x1 x2)
  refine pw_aload_n d212_0 rfl ?_
  refine pw_getR d212_1 g212_9 hT hA0 rfl rfl (fun t1 => ?_)
  have t1 : τ (ρ a0 1) = some 40 := t1
  refine pw_bipush d212_4 (by decide) ?_
  refine pw_iconst d212_6 ?_
  refine pw_iload_n d212_7 rfl ?_
  refine pw_imul d212_8 ?_
  refine pw_iadd d212_9 ?_
  refine pw_iload_n d212_10 rfl ?_
  refine pw_iadd d212_11 ?_
  refine pw_ialdB d212_12 hT t1 rfl rfl (by omega) (by omega) (fun u12 => ?_)
  have u12 : pv_wok (((8 + (4 * x1)) + x2)) (pv_aI h (ρ a0 1) (((8 + (4 * x1)) + x2)).toNat) := u12
  have vu12 := u12.2.2.2.2.2.2.2.2.2.1 (by omega)
  exact pw_ireturn d212_13 tt212 ⟨rfl, (pv_aI h (ρ a0 1) (((8 + (4 * x1)) + x2)).toNat), rfl, (by omega), (by omega), (by omega), (by intro hx; exact (u12.2.2.2.2.2.2.2.2.1 (by omega)).2)⟩

abbrev Q215 (τ : Nat → Option Nat) (ρ : Nat → Nat → Nat) (h : pv_H) (a0 : Nat) (x1 : Int) (x2 : Int) : Option Value → pv_H → Prop := fun r h' => h = h' ∧ ∃ z : Int, r = some (.int (pv_I z)) ∧ (-1) ≤ z ∧ z ≤ 9999 ∧ (z = pv_aI h (ρ a0 1) (80 + 4 * x1 + x2).toNat)
set_option maxHeartbeats 4000000 in
set_option maxRecDepth 20000 in
/-- AngleNetModel.of(II)I -/
theorem ct215 {τ : Nat → Option Nat} {ρ : Nat → Nat → Nat} {K : Nat → Nat} {h : pv_H} {a0 : Nat} {x1 : Int} {x2 : Int} (hT : pv_Ty τ ρ h) (hA0 : τ a0 = some 7) (hX1 : 0 ≤ x1 ∧ x1 ≤ 9) (hX2 : 0 ≤ x2 ∧ x2 ≤ 3) : pv_C K 215 [.ref a0, .int (pv_I x1), .int (pv_I x2)] h (Q215 τ ρ h a0 x1 x2) := by
  refine pw_entry 0 ?_
  show pv_T K 215 0 (pv_fl [some (.ref a0), some (.int (pv_I x1)), some (.int (pv_I x2))]) [] h (Q215 τ ρ h a0 x1 x2)
  refine pw_aload_n d215_0 rfl ?_
  refine pw_getR d215_1 g215_9 hT hA0 rfl rfl (fun t1 => ?_)
  have t1 : τ (ρ a0 1) = some 40 := t1
  refine pw_bipush d215_4 (by decide) ?_
  refine pw_iconst d215_6 ?_
  refine pw_iload_n d215_7 rfl ?_
  refine pw_imul d215_8 ?_
  refine pw_iadd d215_9 ?_
  refine pw_iload_n d215_10 rfl ?_
  refine pw_iadd d215_11 ?_
  refine pw_ialdB d215_12 hT t1 rfl rfl (by omega) (by omega) (fun u12 => ?_)
  have u12 : pv_wok (((80 + (4 * x1)) + x2)) (pv_aI h (ρ a0 1) (((80 + (4 * x1)) + x2)).toNat) := u12
  have vu12 := u12.2.2.2.2.2.2.2.2.2.2.1 (by omega)
  exact pw_ireturn d215_13 tt215 ⟨rfl, (pv_aI h (ρ a0 1) (((80 + (4 * x1)) + x2)).toNat), rfl, (by omega), (by omega), (by omega)⟩

abbrev Q220 (τ : Nat → Option Nat) (ρ : Nat → Nat → Nat) (h : pv_H) (a0 : Nat) (x1 : Int) (x2 : Int) : Option Value → pv_H → Prop := fun r h' => h = h' ∧ ∃ z : Int, r = some (.int (pv_I z)) ∧ 0 ≤ z ∧ z ≤ 1 ∧ (z = 1 → 0 ≤ x1 ∧ x1 ≤ 9 ∧ 0 ≤ x2 ∧ x2 ≤ 9 ∧ x1 ≠ x2)
set_option maxHeartbeats 4000000 in
set_option maxRecDepth 20000 in
/-- AngleNetModel.areTwo(II)Z -/
theorem ct220 {τ : Nat → Option Nat} {ρ : Nat → Nat → Nat} {K : Nat → Nat} {h : pv_H} {a0 : Nat} {x1 : Int} {x2 : Int} (hT : pv_Ty τ ρ h) (hA0 : τ a0 = some 7) (hX1 : (-2147483648) ≤ x1 ∧ x1 ≤ 2147483647) (hX2 : (-2147483648) ≤ x2 ∧ x2 ≤ 2147483647) : pv_C K 220 [.ref a0, .int (pv_I x1), .int (pv_I x2)] h (Q220 τ ρ h a0 x1 x2) := by
  refine pw_entry 0 ?_
  show pv_T K 220 0 (pv_fl [some (.ref a0), some (.int (pv_I x1)), some (.int (pv_I x2))]) [] h (Q220 τ ρ h a0 x1 x2)
  refine pw_aload_n d220_0 rfl ?_
  refine pw_iload_n d220_1 rfl ?_
  refine pw_callV1 d220_2 k220_77 hT hA0 rfl rfl rfl (ct214 (τ := τ) (ρ := ρ) hT hA0 (by omega)) (fun r2 h2 q2 => ?_)
  obtain ⟨eh2, z2, ez2, lz2, uz2, pz2_0⟩ := q2
  subst eh2
  subst ez2
  refine pw_if_eq d220_5 rfl (by omega) (fun c5 => ?_) (fun c5 => ?_)
  · refine pw_iconst d220_25 ?_
    exact pw_zreturn d220_26 tt220 (by omega) ⟨rfl, 0, rfl, (by omega), (by omega), (by omega)⟩
  · refine pw_aload_n d220_8 rfl ?_
    refine pw_iload_n d220_9 rfl ?_
    refine pw_callV1 d220_10 k220_77 hT hA0 rfl rfl rfl (ct214 (τ := τ) (ρ := ρ) hT hA0 (by omega)) (fun r10 h10 q10 => ?_)
    obtain ⟨eh10, z10, ez10, lz10, uz10, pz10_0⟩ := q10
    subst eh10
    subst ez10
    refine pw_if_eq d220_13 rfl (by omega) (fun c13 => ?_) (fun c13 => ?_)
    · refine pw_iconst d220_25 ?_
      exact pw_zreturn d220_26 tt220 (by omega) ⟨rfl, 0, rfl, (by omega), (by omega), (by omega)⟩
    · refine pw_iload_n d220_16 rfl ?_
      refine pw_iload_n d220_17 rfl ?_
      refine pw_icmp_eq d220_18 rfl (by omega) (by omega) (fun c18 => ?_) (fun c18 => ?_)
      · refine pw_iconst d220_25 ?_
        exact pw_zreturn d220_26 tt220 (by omega) ⟨rfl, 0, rfl, (by omega), (by omega), (by omega)⟩
      · refine pw_iconst d220_21 ?_
        refine pw_goto d220_22 rfl ?_
        exact pw_zreturn d220_26 tt220 (by omega) ⟨rfl, 1, rfl, (by omega), (by omega), (by omega)⟩

abbrev Q186 (τ : Nat → Option Nat) (ρ : Nat → Nat → Nat) (h : pv_H) (a0 : Nat) (x1 : Int) (x2 : Int) (x3 : Int) (x4 : Int) (x5 : Int) : Option Value → pv_H → Prop := fun r h' => pv_Ty τ ρ h' ∧ pv_Fr τ [453, 2815, 2879] h h' ∧ ∃ z : Int, r = some (.int (pv_I z)) ∧ (-1) ≤ z ∧ z ≤ 1600
set_option maxHeartbeats 4000000 in
set_option maxRecDepth 20000 in
/-- AngleNetModel.feed(IIIII)I -/
theorem ct186 {τ : Nat → Option Nat} {ρ : Nat → Nat → Nat} {K : Nat → Nat} {h : pv_H} {a0 : Nat} {x1 : Int} {x2 : Int} {x3 : Int} {x4 : Int} {x5 : Int} (hT : pv_Ty τ ρ h) (hA0 : τ a0 = some 7) (hX1 : (-2147483648) ≤ x1 ∧ x1 ≤ 2147483647) (hX2 : (-2147483648) ≤ x2 ∧ x2 ≤ 2147483647) (hX3 : (-2147483648) ≤ x3 ∧ x3 ≤ 2147483647) (hX4 : (-2147483648) ≤ x4 ∧ x4 ≤ 2147483647) (hX5 : (-2147483648) ≤ x5 ∧ x5 ≤ 2147483647) : pv_C K 186 [.ref a0, .int (pv_I x1), .int (pv_I x2), .int (pv_I x3), .int (pv_I x4), .int (pv_I x5)] h (Q186 τ ρ h a0 x1 x2 x3 x4 x5) := by
  refine pw_entry 1 ?_
  show pv_T K 186 0 (pv_fl [some (.ref a0), some (.int (pv_I x1)), some (.int (pv_I x2)), some (.int (pv_I x3)), some (.int (pv_I x4)), some (.int (pv_I x5)), none]) [] h (Q186 τ ρ h a0 x1 x2 x3 x4 x5)
  have hF0 : pv_Fr τ [453, 2815, 2879] h h := pv_Fr.rf
  have L55 : ∀ (nn : Nat) (h_55 : pv_H) (xL6_55 : Int) (o1_55 o2_55 o3_55 o4_55 o5_55 : Option Value), (pv_Ty τ ρ h_55) → (pv_Fr τ [453, 2815, 2879] h h_55) → (0 ≤ xL6_55 ∧ xL6_55 ≤ 20) → (pv_fI h_55 a0 5 ≤ 1580) → 20 - xL6_55 < nn → pv_T K 186 55 (pv_fl [some (.ref a0), o1_55, o2_55, o3_55, o4_55, o5_55, some (.int (pv_I xL6_55))]) [] h_55 (Q186 τ ρ h a0 x1 x2 x3 x4 x5) := by
    intro nn
    induction nn with
    | zero => intro h_55 xL6_55 o1_55 o2_55 o3_55 o4_55 o5_55 hT_55 hF_55 rL6_55 i0_55 hm; exfalso; omega
    | succ nn ih55 =>
      intro h_55 xL6_55 o1_55 o2_55 o3_55 o4_55 o5_55 hT_55 hF_55 rL6_55 i0_55 hm55
      refine pw_iload d186_55 rfl ?_
      refine pw_bipush d186_57 (by decide) ?_
      refine pw_icmp_ge d186_59 rfl (by omega) (by omega) (fun c59 => ?_) (fun c59 => ?_)
      · refine pw_aload_n d186_101 rfl ?_
        refine pw_dup d186_102 rfl ?_
        refine pw_getI d186_103 g186_81 hT_55 hA0 rfl rfl (fun u103 vu103 => ?_)
        refine pw_bipush d186_106 (by decide) ?_
        refine pw_iadd d186_108 ?_
        refine pw_putI d186_109 g186_81 w7_5 hT_55 hA0 rfl rfl rfl (by omega) (by omega) (fun h109 T109 F109 E109 => ?_)
        have f109 := hF_55.tr (F109.up (by decide))
        refine pw_aload_n d186_112 rfl ?_
        refine pw_getI d186_113 g186_81 T109 hA0 rfl rfl (fun u113 vu113 => ?_)
        exact pw_ireturn d186_116 tt186 ⟨T109, f109, (pv_fI h109 a0 5), rfl, (by omega), (by omega)⟩
      · refine pw_aload_n d186_62 rfl ?_
        refine pw_getR d186_63 g186_20 hT_55 hA0 rfl rfl (fun t63 => ?_)
        have t63 : τ (ρ a0 4) = some 43 := t63
        refine pw_aload_n d186_66 rfl ?_
        refine pw_getI d186_67 g186_81 hT_55 hA0 rfl rfl (fun u67 vu67 => ?_)
        refine pw_iload d186_70 rfl ?_
        refine pw_iadd d186_72 ?_
        refine pw_aload_n d186_73 rfl ?_
        refine pw_getR d186_74 g186_24 hT_55 hA0 rfl rfl (fun t74 => ?_)
        have t74 : τ (ρ a0 6) = some 44 := t74
        refine pw_iload d186_77 rfl ?_
        refine pw_iconst d186_79 ?_
        refine pw_idiv d186_80 (by omega) (by omega) (by omega) (by omega) ?_
        refine pw_iald d186_81 hT_55 t74 rfl rfl (by omega) (by omega) (fun u81 vu81 => ?_)
        refine pw_bipush d186_82 (by decide) ?_
        refine pw_bipush d186_84 (by decide) ?_
        refine pw_iload d186_86 rfl ?_
        refine pw_iconst d186_88 ?_
        refine pw_irem d186_89 (by omega) (by omega) (by omega) (by omega) ?_
        refine pw_imul d186_90 ?_
        refine pw_isub d186_91 ?_
        refine pw_ishr d186_92 (fun z92 hz92 ez92 => ?_)
        refine pw_i2b d186_93 (fun z93 hz93 gz93 ez93 => ?_)
        refine pw_bastB d186_94 hT_55 t63 rfl rfl rfl (by omega) (by omega) (fun h94 T94 F94 E94 => ?_)
        have f94 := hF_55.tr (F94.up (by decide))
        have q94 := ((F94 a0 7 hA0).1 5 (by decide)).1
        refine pw_iinc d186_95 m186 rfl rfl rfl ?_
        refine pw_goto d186_98 rfl ?_
        exact ih55 h94 ((xL6_55 + 1)) _ _ _ _ _ T94 f94 (by omega) (by omega) (by omega)
  refine pw_aload_n d186_0 rfl ?_
  refine pw_getI d186_1 g186_81 hT hA0 rfl rfl (fun u1 vu1 => ?_)
  refine pw_bipush d186_4 (by decide) ?_
  refine pw_iadd d186_6 ?_
  refine pw_sipush d186_7 (by decide) ?_
  refine pw_icmp_le d186_10 rfl (by omega) (by omega) (fun c10 => ?_) (fun c10 => ?_)
  · refine pw_aload_n d186_15 rfl ?_
    refine pw_getR d186_16 g186_24 hT hA0 rfl rfl (fun t16 => ?_)
    have t16 : τ (ρ a0 6) = some 44 := t16
    refine pw_iconst d186_19 ?_
    refine pw_iload_n d186_20 rfl ?_
    refine pw_iast d186_21 hT t16 rfl rfl rfl (by omega) (by omega) (by omega) (by omega) (fun h21 T21 F21 E21 => ?_)
    have f21 := hF0.tr (F21.up (by decide))
    have q21 := ((F21 a0 7 hA0).1 5 (by decide)).1
    refine pw_aload_n d186_22 rfl ?_
    refine pw_getR d186_23 g186_24 T21 hA0 rfl rfl (fun t23 => ?_)
    have t23 : τ (ρ a0 6) = some 44 := t23
    refine pw_iconst d186_26 ?_
    refine pw_iload_n d186_27 rfl ?_
    refine pw_iast d186_28 T21 t23 rfl rfl rfl (by omega) (by omega) (by omega) (by omega) (fun h28 T28 F28 E28 => ?_)
    have f28 := f21.tr (F28.up (by decide))
    have q28 := ((F28 a0 7 hA0).1 5 (by decide)).1
    refine pw_aload_n d186_29 rfl ?_
    refine pw_getR d186_30 g186_24 T28 hA0 rfl rfl (fun t30 => ?_)
    have t30 : τ (ρ a0 6) = some 44 := t30
    refine pw_iconst d186_33 ?_
    refine pw_iload_n d186_34 rfl ?_
    refine pw_iast d186_35 T28 t30 rfl rfl rfl (by omega) (by omega) (by omega) (by omega) (fun h35 T35 F35 E35 => ?_)
    have f35 := f28.tr (F35.up (by decide))
    have q35 := ((F35 a0 7 hA0).1 5 (by decide)).1
    refine pw_aload_n d186_36 rfl ?_
    refine pw_getR d186_37 g186_24 T35 hA0 rfl rfl (fun t37 => ?_)
    have t37 : τ (ρ a0 6) = some 44 := t37
    refine pw_iconst d186_40 ?_
    refine pw_iload d186_41 rfl ?_
    refine pw_iast d186_43 T35 t37 rfl rfl rfl (by omega) (by omega) (by omega) (by omega) (fun h43 T43 F43 E43 => ?_)
    have f43 := f35.tr (F43.up (by decide))
    have q43 := ((F43 a0 7 hA0).1 5 (by decide)).1
    refine pw_aload_n d186_44 rfl ?_
    refine pw_getR d186_45 g186_24 T43 hA0 rfl rfl (fun t45 => ?_)
    have t45 : τ (ρ a0 6) = some 44 := t45
    refine pw_iconst d186_48 ?_
    refine pw_iload d186_49 rfl ?_
    refine pw_iast d186_51 T43 t45 rfl rfl rfl (by omega) (by omega) (by omega) (by omega) (fun h51 T51 F51 E51 => ?_)
    have f51 := f43.tr (F51.up (by decide))
    have q51 := ((F51 a0 7 hA0).1 5 (by decide)).1
    refine pw_iconst d186_52 ?_
    refine pw_istore d186_53 m186 rfl rfl ?_
    exact L55 _ h51 (0) _ _ _ _ _ T51 f51 (by omega) (by omega) (pv_mu _)
  · refine pw_iconst d186_13 ?_
    exact pw_ireturn d186_14 tt186 ⟨hT, hF0, (-1), rfl, (by omega), (by omega)⟩

abbrev Q187 (τ : Nat → Option Nat) (ρ : Nat → Nat → Nat) (h : pv_H) (a0 : Nat) (x1 : Int) : Option Value → pv_H → Prop := fun r h' => pv_Ty τ ρ h' ∧ pv_Fr τ [453] h h' ∧ ∃ z : Int, r = some (.int (pv_I z)) ∧ (-1) ≤ z ∧ z ≤ 1600
set_option maxHeartbeats 4000000 in
set_option maxRecDepth 20000 in
/-- AngleNetModel.end(I)I -/
theorem ct187 {τ : Nat → Option Nat} {ρ : Nat → Nat → Nat} {K : Nat → Nat} {h : pv_H} {a0 : Nat} {x1 : Int} (hT : pv_Ty τ ρ h) (hA0 : τ a0 = some 7) (hX1 : (-2147483648) ≤ x1 ∧ x1 ≤ 2147483647) : pv_C K 187 [.ref a0, .int (pv_I x1)] h (Q187 τ ρ h a0 x1) := by
  refine pw_entry 0 ?_
  show pv_T K 187 0 (pv_fl [some (.ref a0), some (.int (pv_I x1))]) [] h (Q187 τ ρ h a0 x1)
  have hF0 : pv_Fr τ [453] h h := pv_Fr.rf
  refine pw_iload_n d187_0 rfl ?_
  refine pw_i2l d187_1 (by omega) ?_
  refine pw_lconst (z := 0) d187_2 (by decide) ?_
  refine pw_aload_n d187_3 rfl ?_
  refine pw_getI d187_4 g187_81 hT hA0 rfl rfl (fun u4 vu4 => ?_)
  refine pw_i2l d187_7 (by omega) ?_
  refine pw_callS3 d187_8 k187_73 rfl rfl (ct184 (τ := τ) (ρ := ρ) (by omega) (by omega) (by omega)) (fun r8 h8 q8 => ?_)
  obtain ⟨eh8, z8, ez8, lz8, uz8, pz8_0⟩ := q8
  subst eh8
  subst ez8
  refine pw_if_ne d187_11 rfl (by omega) (fun c11 => ?_) (fun c11 => ?_)
  · refine pw_aload_n d187_16 rfl ?_
    refine pw_iload_n d187_17 rfl ?_
    refine pw_putI d187_18 g187_81 w7_5 hT hA0 rfl rfl rfl (by omega) (by omega) (fun h18 T18 F18 E18 => ?_)
    have f18 := hF0.tr (F18.up (by decide))
    refine pw_iload_n d187_21 rfl ?_
    exact pw_ireturn d187_22 tt187 ⟨T18, f18, x1, rfl, (by omega), (by omega)⟩
  · refine pw_iconst d187_14 ?_
    exact pw_ireturn d187_15 tt187 ⟨hT, hF0, (-1), rfl, (by omega), (by omega)⟩

abbrev Q191 (τ : Nat → Option Nat) (ρ : Nat → Nat → Nat) (h : pv_H) (a0 : Nat) (x1 : Int) : Option Value → pv_H → Prop := fun r h' => h = h' ∧ ∃ z : Int, r = some (.int (pv_I z)) ∧ (-1) ≤ z ∧ z ≤ 255 ∧ ((z = -1 ∧ pv_fI h a0 7 ≤ x1) ∨ (0 ≤ z ∧ x1 < pv_fI h a0 7 ∧ z = pv_aI h (ρ a0 4) (x1).toNat % 256))
set_option maxHeartbeats 4000000 in
set_option maxRecDepth 20000 in
/-- AngleNetModel.see(I)I -/
theorem ct191 {τ : Nat → Option Nat} {ρ : Nat → Nat → Nat} {K : Nat → Nat} {h : pv_H} {a0 : Nat} {x1 : Int} (hT : pv_Ty τ ρ h) (hA0 : τ a0 = some 7) (hX1 : 0 ≤ x1 ∧ x1 ≤ 1601) : pv_C K 191 [.ref a0, .int (pv_I x1)] h (Q191 τ ρ h a0 x1) := by
  refine pw_entry 0 ?_
  show pv_T K 191 0 (pv_fl [some (.ref a0), some (.int (pv_I x1))]) [] h (Q191 τ ρ h a0 x1)
  refine pw_iload_n d191_0 rfl ?_
  refine pw_aload_n d191_1 rfl ?_
  refine pw_getI d191_2 g191_84 hT hA0 rfl rfl (fun u2 vu2 => ?_)
  refine pw_icmp_ge d191_5 rfl (by omega) (by omega) (fun c5 => ?_) (fun c5 => ?_)
  · refine pw_iconst d191_21 ?_
    exact pw_ireturn d191_22 tt191 ⟨rfl, (-1), rfl, (by omega), (by omega), (by omega)⟩
  · refine pw_aload_n d191_8 rfl ?_
    refine pw_getR d191_9 g191_20 hT hA0 rfl rfl (fun t9 => ?_)
    have t9 : τ (ρ a0 4) = some 43 := t9
    refine pw_iload_n d191_12 rfl ?_
    refine pw_bald d191_13 hT t9 rfl (by decide) rfl (by omega) (by omega) (fun u13 vu13 => ?_)
    refine pw_sipush d191_14 (by decide) ?_
    refine pw_iand d191_17 (fun z17 hz17 ez17 => ?_)
    have bz17 := pv_and255 (by omega) hz17 ez17
    refine pw_goto d191_18 rfl ?_
    exact pw_ireturn d191_22 tt191 ⟨rfl, z17, rfl, (by omega), (by omega), (by omega)⟩

abbrev Q192 (τ : Nat → Option Nat) (ρ : Nat → Nat → Nat) (h : pv_H) (a0 : Nat) : Option Value → pv_H → Prop := fun r h' => h = h' ∧ ∃ z : Int, r = some (.int (pv_I z)) ∧ 0 ≤ z ∧ z ≤ 1 ∧ ((z = 1 ∧ pv_fI h a0 12 = 0) ∨ (z = 0 ∧ pv_fI h a0 12 ≠ 0))
set_option maxHeartbeats 4000000 in
set_option maxRecDepth 20000 in
/-- AngleNetModel.good()Z -/
theorem ct192 {τ : Nat → Option Nat} {ρ : Nat → Nat → Nat} {K : Nat → Nat} {h : pv_H} {a0 : Nat} (hT : pv_Ty τ ρ h) (hA0 : τ a0 = some 7) : pv_C K 192 [.ref a0] h (Q192 τ ρ h a0) := by
  refine pw_entry 0 ?_
  show pv_T K 192 0 (pv_fl [some (.ref a0)]) [] h (Q192 τ ρ h a0)
  refine pw_aload_n d192_0 rfl ?_
  refine pw_getI d192_1 g192_118 hT hA0 rfl rfl (fun u1 vu1 => ?_)
  refine pw_if_ne d192_4 rfl (by omega) (fun c4 => ?_) (fun c4 => ?_)
  · refine pw_iconst d192_11 ?_
    exact pw_zreturn d192_12 tt192 (by omega) ⟨rfl, 0, rfl, (by omega), (by omega), (by omega)⟩
  · refine pw_iconst d192_7 ?_
    refine pw_goto d192_8 rfl ?_
    exact pw_zreturn d192_12 tt192 (by omega) ⟨rfl, 1, rfl, (by omega), (by omega), (by omega)⟩

abbrev Q198 (τ : Nat → Option Nat) (ρ : Nat → Nat → Nat) (h : pv_H) (a0 : Nat) (x1 : Int) : Option Value → pv_H → Prop := fun r h' => pv_Ty τ ρ h' ∧ pv_Fr τ [460, 461] h h' ∧ r = none
set_option maxHeartbeats 4000000 in
set_option maxRecDepth 20000 in
/-- AngleNetModel.errs(I)V -/
theorem ct198 {τ : Nat → Option Nat} {ρ : Nat → Nat → Nat} {K : Nat → Nat} {h : pv_H} {a0 : Nat} {x1 : Int} (hT : pv_Ty τ ρ h) (hA0 : τ a0 = some 7) (hX1 : 1 ≤ x1 ∧ x1 ≤ 3) : pv_C K 198 [.ref a0, .int (pv_I x1)] h (Q198 τ ρ h a0 x1) := by
  refine pw_entry 0 ?_
  show pv_T K 198 0 (pv_fl [some (.ref a0), some (.int (pv_I x1))]) [] h (Q198 τ ρ h a0 x1)
  have hF0 : pv_Fr τ [460, 461] h h := pv_Fr.rf
  refine pw_aload_n d198_0 rfl ?_
  refine pw_callV0 d198_1 k198_121 hT hA0 rfl rfl rfl (ct192 (τ := τ) (ρ := ρ) hT hA0) (fun r1 h1 q1 => ?_)
  obtain ⟨eh1, z1, ez1, lz1, uz1, pz1_0⟩ := q1
  subst eh1
  subst ez1
  refine pw_if_ne d198_4 rfl (by omega) (fun c4 => ?_) (fun c4 => ?_)
  · refine pw_aload_n d198_8 rfl ?_
    refine pw_iload_n d198_9 rfl ?_
    refine pw_putI d198_10 g198_118 w7_12 hT hA0 rfl rfl rfl (by omega) (by omega) (fun h10 T10 F10 E10 => ?_)
    have f10 := hF0.tr (F10.up (by decide))
    refine pw_aload_n d198_13 rfl ?_
    refine pw_aload_n d198_14 rfl ?_
    refine pw_getI d198_15 g198_94 T10 hA0 rfl rfl (fun u15 vu15 => ?_)
    refine pw_putI d198_18 g198_27 w7_13 T10 hA0 rfl rfl rfl (by omega) (by omega) (fun h18 T18 F18 E18 => ?_)
    have f18 := f10.tr (F18.up (by decide))
    have q18 := ((F18 a0 7 hA0).1 9 (by decide)).1
    have q18b := ((F18 a0 7 hA0).1 12 (by decide)).1
    exact pw_return d198_21 tt198 ⟨T18, f18, rfl⟩
  · exact pw_return d198_7 tt198 ⟨hT, hF0, rfl⟩

abbrev Q188 (τ : Nat → Option Nat) (ρ : Nat → Nat → Nat) (h : pv_H) (a0 : Nat) (x1 : Int) : Option Value → pv_H → Prop := fun r h' => h = h' ∧ ∃ z : Int, r = some (.int (pv_I z)) ∧ (-1) ≤ z ∧ z ≤ 1600
set_option maxHeartbeats 4000000 in
set_option maxRecDepth 20000 in
/-- AngleNetModel.fault(I)I -/
theorem ct188 {τ : Nat → Option Nat} {ρ : Nat → Nat → Nat} {K : Nat → Nat} {h : pv_H} {a0 : Nat} {x1 : Int} (hT : pv_Ty τ ρ h) (hA0 : τ a0 = some 7) (hX1 : (-2147483648) ≤ x1 ∧ x1 ≤ 2147483647) : pv_C K 188 [.ref a0, .int (pv_I x1)] h (Q188 τ ρ h a0 x1) := by
  refine pw_entry 0 ?_
  show pv_T K 188 0 (pv_fl [some (.ref a0), some (.int (pv_I x1))]) [] h (Q188 τ ρ h a0 x1)
  refine pw_iload_n d188_0 rfl ?_
  refine pw_if_ne d188_1 rfl (by omega) (fun c1 => ?_) (fun c1 => ?_)
  · refine pw_iload_n d188_11 rfl ?_
    refine pw_iconst d188_12 ?_
    refine pw_icmp_ne d188_13 rfl (by omega) (by omega) (fun c13 => ?_) (fun c13 => ?_)
    · refine pw_iconst d188_23 ?_
      exact pw_ireturn d188_24 tt188 ⟨rfl, (-1), rfl, (by omega), (by omega)⟩
    · refine pw_aload_n d188_16 rfl ?_
      refine pw_getI d188_17 g188_27 hT hA0 rfl rfl (fun u17 vu17 => ?_)
      refine pw_goto d188_20 rfl ?_
      exact pw_ireturn d188_24 tt188 ⟨rfl, (pv_fI h a0 13), rfl, (by omega), (by omega)⟩
  · refine pw_aload_n d188_4 rfl ?_
    refine pw_getI d188_5 g188_118 hT hA0 rfl rfl (fun u5 vu5 => ?_)
    refine pw_goto d188_8 rfl ?_
    exact pw_ireturn d188_24 tt188 ⟨rfl, (pv_fI h a0 12), rfl, (by omega), (by omega)⟩

abbrev Q205w (τ : Nat → Option Nat) (ρ : Nat → Nat → Nat) (h : pv_H) (a0 : Nat) (x1 : Int) (x2 : Int) : Option Value → pv_H → Prop := fun r h' => h = h' ∧ ∃ z : Int, r = some (.int (pv_I z)) ∧ 0 ≤ z ∧ z ≤ 1
set_option maxHeartbeats 4000000 in
set_option maxRecDepth 20000 in
/-- AngleNetModel.hasPost([III)Z -/
theorem ct205w {τ : Nat → Option Nat} {ρ : Nat → Nat → Nat} {K : Nat → Nat} {h : pv_H} {a0 : Nat} {x1 : Int} {x2 : Int} (hT : pv_Ty τ ρ h) (hA0 : τ a0 = some 40) (hX1 : 0 ≤ x1 ∧ x1 ≤ 17) (hX2 : (-2147483648) ≤ x2 ∧ x2 ≤ 2147483647) : pv_C K 205 [.ref a0, .int (pv_I x1), .int (pv_I x2)] h (Q205w τ ρ h a0 x1 x2) := by
  refine pw_entry 0 ?_
  show pv_T K 205 0 (pv_fl [some (.ref a0), some (.int (pv_I x1)), some (.int (pv_I x2))]) [] h (Q205w τ ρ h a0 x1 x2)
  refine pw_aload_n d205_0 rfl ?_
  refine pw_bipush d205_1 (by decide) ?_
  refine pw_iconst d205_3 ?_
  refine pw_iload_n d205_4 rfl ?_
  refine pw_imul d205_5 ?_
  refine pw_iadd d205_6 ?_
  refine pw_ialdB d205_7 hT hA0 rfl rfl (by omega) (by omega) (fun u7 => ?_)
  have u7 : pv_wok ((8 + (4 * x1))) (pv_aI h a0 ((8 + (4 * x1))).toNat) := u7
  have vu7 := u7.2.2.2.2.2.2.2.2.2.1 (by omega)
  refine pw_iload_n d205_8 rfl ?_
  refine pw_icmp_eq d205_9 rfl (by omega) (by omega) (fun c9 => ?_) (fun c9 => ?_)
  · refine pw_iconst d205_40 ?_
    refine pw_goto d205_41 rfl ?_
    exact pw_zreturn d205_45 tt205 (by omega) ⟨rfl, 1, rfl, (by omega), (by omega)⟩
  · refine pw_aload_n d205_12 rfl ?_
    refine pw_bipush d205_13 (by decide) ?_
    refine pw_iconst d205_15 ?_
    refine pw_iload_n d205_16 rfl ?_
    refine pw_imul d205_17 ?_
    refine pw_iadd d205_18 ?_
    refine pw_iconst d205_19 ?_
    refine pw_iadd d205_20 ?_
    refine pw_ialdB d205_21 hT hA0 rfl rfl (by omega) (by omega) (fun u21 => ?_)
    have u21 : pv_wok (((8 + (4 * x1)) + 1)) (pv_aI h a0 (((8 + (4 * x1)) + 1)).toNat) := u21
    have vu21 := u21.2.2.2.2.2.2.2.2.2.1 (by omega)
    refine pw_iload_n d205_22 rfl ?_
    refine pw_icmp_eq d205_23 rfl (by omega) (by omega) (fun c23 => ?_) (fun c23 => ?_)
    · refine pw_iconst d205_40 ?_
      refine pw_goto d205_41 rfl ?_
      exact pw_zreturn d205_45 tt205 (by omega) ⟨rfl, 1, rfl, (by omega), (by omega)⟩
    · refine pw_aload_n d205_26 rfl ?_
      refine pw_bipush d205_27 (by decide) ?_
      refine pw_iconst d205_29 ?_
      refine pw_iload_n d205_30 rfl ?_
      refine pw_imul d205_31 ?_
      refine pw_iadd d205_32 ?_
      refine pw_iconst d205_33 ?_
      refine pw_iadd d205_34 ?_
      refine pw_ialdB d205_35 hT hA0 rfl rfl (by omega) (by omega) (fun u35 => ?_)
      have u35 : pv_wok (((8 + (4 * x1)) + 2)) (pv_aI h a0 (((8 + (4 * x1)) + 2)).toNat) := u35
      have vu35 := u35.2.2.2.2.2.2.2.2.2.1 (by omega)
      refine pw_iload_n d205_36 rfl ?_
      refine pw_icmp_ne d205_37 rfl (by omega) (by omega) (fun c37 => ?_) (fun c37 => ?_)
      · refine pw_iconst d205_44 ?_
        exact pw_zreturn d205_45 tt205 (by omega) ⟨rfl, 0, rfl, (by omega), (by omega)⟩
      · refine pw_iconst d205_40 ?_
        refine pw_goto d205_41 rfl ?_
        exact pw_zreturn d205_45 tt205 (by omega) ⟨rfl, 1, rfl, (by omega), (by omega)⟩

abbrev Q205f (τ : Nat → Option Nat) (ρ : Nat → Nat → Nat) (h : pv_H) (a0 : Nat) (x1 : Int) (x2 : Int) : Option Value → pv_H → Prop := fun r h' => h = h' ∧ ∃ z : Int, r = some (.int (pv_I z)) ∧ 0 ≤ z ∧ z ≤ 1
set_option maxHeartbeats 4000000 in
set_option maxRecDepth 20000 in
/-- AngleNetModel.hasPost([III)Z -/
theorem ct205f {τ : Nat → Option Nat} {ρ : Nat → Nat → Nat} {K : Nat → Nat} {h : pv_H} {a0 : Nat} {x1 : Int} {x2 : Int} (hT : pv_Ty τ ρ h) (hA0 : τ a0 = some 45) (hX1 : 0 ≤ x1 ∧ x1 ≤ 17) (hX2 : (-2147483648) ≤ x2 ∧ x2 ≤ 2147483647) : pv_C K 205 [.ref a0, .int (pv_I x1), .int (pv_I x2)] h (Q205f τ ρ h a0 x1 x2) := by
  refine pw_entry 0 ?_
  show pv_T K 205 0 (pv_fl [some (.ref a0), some (.int (pv_I x1)), some (.int (pv_I x2))]) [] h (Q205f τ ρ h a0 x1 x2)
  refine pw_aload_n d205_0 rfl ?_
  refine pw_bipush d205_1 (by decide) ?_
  refine pw_iconst d205_3 ?_
  refine pw_iload_n d205_4 rfl ?_
  refine pw_imul d205_5 ?_
  refine pw_iadd d205_6 ?_
  refine pw_ialdB d205_7 hT hA0 rfl rfl (by omega) (by omega) (fun u7 => ?_)
  have u7 : pv_wok ((8 + (4 * x1))) (pv_aI h a0 ((8 + (4 * x1))).toNat) := u7
  have vu7 := u7.2.2.2.2.2.2.2.2.2.1 (by omega)
  refine pw_iload_n d205_8 rfl ?_
  refine pw_icmp_eq d205_9 rfl (by omega) (by omega) (fun c9 => ?_) (fun c9 => ?_)
  · refine pw_iconst d205_40 ?_
    refine pw_goto d205_41 rfl ?_
    exact pw_zreturn d205_45 tt205 (by omega) ⟨rfl, 1, rfl, (by omega), (by omega)⟩
  · refine pw_aload_n d205_12 rfl ?_
    refine pw_bipush d205_13 (by decide) ?_
    refine pw_iconst d205_15 ?_
    refine pw_iload_n d205_16 rfl ?_
    refine pw_imul d205_17 ?_
    refine pw_iadd d205_18 ?_
    refine pw_iconst d205_19 ?_
    refine pw_iadd d205_20 ?_
    refine pw_ialdB d205_21 hT hA0 rfl rfl (by omega) (by omega) (fun u21 => ?_)
    have u21 : pv_wok (((8 + (4 * x1)) + 1)) (pv_aI h a0 (((8 + (4 * x1)) + 1)).toNat) := u21
    have vu21 := u21.2.2.2.2.2.2.2.2.2.1 (by omega)
    refine pw_iload_n d205_22 rfl ?_
    refine pw_icmp_eq d205_23 rfl (by omega) (by omega) (fun c23 => ?_) (fun c23 => ?_)
    · refine pw_iconst d205_40 ?_
      refine pw_goto d205_41 rfl ?_
      exact pw_zreturn d205_45 tt205 (by omega) ⟨rfl, 1, rfl, (by omega), (by omega)⟩
    · refine pw_aload_n d205_26 rfl ?_
      refine pw_bipush d205_27 (by decide) ?_
      refine pw_iconst d205_29 ?_
      refine pw_iload_n d205_30 rfl ?_
      refine pw_imul d205_31 ?_
      refine pw_iadd d205_32 ?_
      refine pw_iconst d205_33 ?_
      refine pw_iadd d205_34 ?_
      refine pw_ialdB d205_35 hT hA0 rfl rfl (by omega) (by omega) (fun u35 => ?_)
      have u35 : pv_wok (((8 + (4 * x1)) + 2)) (pv_aI h a0 (((8 + (4 * x1)) + 2)).toNat) := u35
      have vu35 := u35.2.2.2.2.2.2.2.2.2.1 (by omega)
      refine pw_iload_n d205_36 rfl ?_
      refine pw_icmp_ne d205_37 rfl (by omega) (by omega) (fun c37 => ?_) (fun c37 => ?_)
      · refine pw_iconst d205_44 ?_
        exact pw_zreturn d205_45 tt205 (by omega) ⟨rfl, 0, rfl, (by omega), (by omega)⟩
      · refine pw_iconst d205_40 ?_
        refine pw_goto d205_41 rfl ?_
        exact pw_zreturn d205_45 tt205 (by omega) ⟨rfl, 1, rfl, (by omega), (by omega)⟩

abbrev Q204w (τ : Nat → Option Nat) (ρ : Nat → Nat → Nat) (h : pv_H) (a0 : Nat) (x1 : Int) (x2 : Int) : Option Value → pv_H → Prop := fun r h' => h = h' ∧ ∃ z : Int, r = some (.int (pv_I z)) ∧ (-2147483648) ≤ z ∧ z ≤ 2147483647
set_option maxHeartbeats 4000000 in
set_option maxRecDepth 20000 in
/-- AngleNetModel.manyWith([III)I -/
theorem ct204w {τ : Nat → Option Nat} {ρ : Nat → Nat → Nat} {K : Nat → Nat} {h : pv_H} {a0 : Nat} {x1 : Int} {x2 : Int} (hT : pv_Ty τ ρ h) (hA0 : τ a0 = some 40) (hX1 : (-2147483648) ≤ x1 ∧ x1 ≤ 2147483647) (hX2 : (-2147483648) ≤ x2 ∧ x2 ≤ 2147483647) : pv_C K 204 [.ref a0, .int (pv_I x1), .int (pv_I x2)] h (Q204w τ ρ h a0 x1 x2) := by
  refine pw_entry 2 ?_
  show pv_T K 204 0 (pv_fl [some (.ref a0), some (.int (pv_I x1)), some (.int (pv_I x2)), none, none]) [] h (Q204w τ ρ h a0 x1 x2)
  have L5 : ∀ (nn : Nat) (xL3_5 xL4_5 : Int), ((-2147483648) ≤ x1 ∧ x1 ≤ 2147483647) → ((-2147483648) ≤ x2 ∧ x2 ≤ 2147483647) → ((-2147483648) ≤ xL3_5 ∧ xL3_5 ≤ 2147483647) → (0 ≤ xL4_5 ∧ xL4_5 ≤ 18) → 18 - xL4_5 < nn → pv_T K 204 5 (pv_fl [some (.ref a0), some (.int (pv_I x1)), some (.int (pv_I x2)), some (.int (pv_I xL3_5)), some (.int (pv_I xL4_5))]) [] h (Q204w τ ρ h a0 x1 x2) := by
    intro nn
    induction nn with
    | zero => intro xL3_5 xL4_5 rL1_5 rL2_5 rL3_5 rL4_5 hm; exfalso; omega
    | succ nn ih5 =>
      intro xL3_5 xL4_5 rL1_5 rL2_5 rL3_5 rL4_5 hm5
      have J39 : ∀ (xS0_39 : Int) (o3_39 : Option Value), ((-2147483648) ≤ x1 ∧ x1 ≤ 2147483647) → ((-2147483648) ≤ x2 ∧ x2 ≤ 2147483647) → (0 ≤ xL4_5 ∧ xL4_5 ≤ 17) → (0 ≤ xS0_39 ∧ xS0_39 ≤ 1) → ((-2147483648) ≤ xL3_5 ∧ xL3_5 ≤ 2147483647) → pv_T K 204 39 (pv_fl [some (.ref a0), some (.int (pv_I x1)), some (.int (pv_I x2)), o3_39, some (.int (pv_I xL4_5))]) [.int (pv_I xS0_39), .int (pv_I xL3_5)] h (Q204w τ ρ h a0 x1 x2) := by
        intro xS0_39 o3_39 rL1_39 rL2_39 rL4_39 rS0_39 rS1_39
        refine pw_iadd d204_39 ?_
        refine pw_any (fun z40 hz40 ez40 => ?_)
        refine pw_istore_n d204_40 m204 rfl rfl ?_
        refine pw_iinc d204_41 m204 rfl rfl rfl ?_
        refine pw_goto d204_44 rfl ?_
        exact ih5 (z40) ((xL4_5 + 1)) (by omega) (by omega) (by omega) (by omega) (by omega)
      have J38 : ∀ (o3_38 : Option Value), ((-2147483648) ≤ x1 ∧ x1 ≤ 2147483647) → ((-2147483648) ≤ x2 ∧ x2 ≤ 2147483647) → (0 ≤ xL4_5 ∧ xL4_5 ≤ 17) → ((-2147483648) ≤ xL3_5 ∧ xL3_5 ≤ 2147483647) → pv_T K 204 38 (pv_fl [some (.ref a0), some (.int (pv_I x1)), some (.int (pv_I x2)), o3_38, some (.int (pv_I xL4_5))]) [.int (pv_I xL3_5)] h (Q204w τ ρ h a0 x1 x2) := by
        intro o3_38 rL1_38 rL2_38 rL4_38 rS0_38
        refine pw_iconst d204_38 ?_
        exact J39 (0) _ (by omega) (by omega) (by omega) (by omega) (by omega)
      refine pw_iload d204_5 rfl ?_
      refine pw_aload_n d204_7 rfl ?_
      refine pw_iconst d204_8 ?_
      refine pw_ialdB d204_9 hT hA0 rfl rfl (by omega) (by omega) (fun u9 => ?_)
      have u9 : pv_wok ((1 : Int)) (pv_aI h a0 ((1 : Int)).toNat) := u9
      have vu9 := u9.2.2.1 (by omega)
      refine pw_icmp_ge d204_10 rfl (by omega) (by omega) (fun c10 => ?_) (fun c10 => ?_)
      · refine pw_iload_n d204_47 rfl ?_
        exact pw_ireturn d204_48 tt204 ⟨rfl, xL3_5, rfl, (by omega), (by omega)⟩
      · refine pw_iload_n d204_13 rfl ?_
        refine pw_aload_n d204_14 rfl ?_
        refine pw_iload d204_15 rfl ?_
        refine pw_iload_n d204_17 rfl ?_
        refine pw_callS3 d204_18 k204_156 rfl rfl (ct205w (τ := τ) (ρ := ρ) hT hA0 (by omega) (by omega)) (fun r18 h18 q18 => ?_)
        obtain ⟨eh18, z18, ez18, lz18, uz18⟩ := q18
        subst eh18
        subst ez18
        refine pw_if_eq d204_21 rfl (by omega) (fun c21 => ?_) (fun c21 => ?_)
        · exact J38 _ (by omega) (by omega) (by omega) (by omega)
        · refine pw_aload_n d204_24 rfl ?_
          refine pw_iload d204_25 rfl ?_
          refine pw_iload_n d204_27 rfl ?_
          refine pw_callS3 d204_28 k204_156 rfl rfl (ct205w (τ := τ) (ρ := ρ) hT hA0 (by omega) (by omega)) (fun r28 h28 q28 => ?_)
          obtain ⟨eh28, z28, ez28, lz28, uz28⟩ := q28
          subst eh28
          subst ez28
          refine pw_if_eq d204_31 rfl (by omega) (fun c31 => ?_) (fun c31 => ?_)
          · exact J38 _ (by omega) (by omega) (by omega) (by omega)
          · refine pw_iconst d204_34 ?_
            refine pw_goto d204_35 rfl ?_
            exact J39 (1) _ (by omega) (by omega) (by omega) (by omega) (by omega)
  refine pw_iconst d204_0 ?_
  refine pw_istore_n d204_1 m204 rfl rfl ?_
  refine pw_iconst d204_2 ?_
  refine pw_istore d204_3 m204 rfl rfl ?_
  exact L5 _ (0) (0) (by omega) (by omega) (by omega) (by omega) (pv_mu _)

abbrev Q204f (τ : Nat → Option Nat) (ρ : Nat → Nat → Nat) (h : pv_H) (a0 : Nat) (x1 : Int) (x2 : Int) : Option Value → pv_H → Prop := fun r h' => h = h' ∧ ∃ z : Int, r = some (.int (pv_I z)) ∧ (-2147483648) ≤ z ∧ z ≤ 2147483647
set_option maxHeartbeats 4000000 in
set_option maxRecDepth 20000 in
/-- AngleNetModel.manyWith([III)I -/
theorem ct204f {τ : Nat → Option Nat} {ρ : Nat → Nat → Nat} {K : Nat → Nat} {h : pv_H} {a0 : Nat} {x1 : Int} {x2 : Int} (hT : pv_Ty τ ρ h) (hA0 : τ a0 = some 45) (hX1 : (-2147483648) ≤ x1 ∧ x1 ≤ 2147483647) (hX2 : (-2147483648) ≤ x2 ∧ x2 ≤ 2147483647) : pv_C K 204 [.ref a0, .int (pv_I x1), .int (pv_I x2)] h (Q204f τ ρ h a0 x1 x2) := by
  refine pw_entry 2 ?_
  show pv_T K 204 0 (pv_fl [some (.ref a0), some (.int (pv_I x1)), some (.int (pv_I x2)), none, none]) [] h (Q204f τ ρ h a0 x1 x2)
  have L5 : ∀ (nn : Nat) (xL3_5 xL4_5 : Int), ((-2147483648) ≤ x1 ∧ x1 ≤ 2147483647) → ((-2147483648) ≤ x2 ∧ x2 ≤ 2147483647) → ((-2147483648) ≤ xL3_5 ∧ xL3_5 ≤ 2147483647) → (0 ≤ xL4_5 ∧ xL4_5 ≤ 18) → 18 - xL4_5 < nn → pv_T K 204 5 (pv_fl [some (.ref a0), some (.int (pv_I x1)), some (.int (pv_I x2)), some (.int (pv_I xL3_5)), some (.int (pv_I xL4_5))]) [] h (Q204f τ ρ h a0 x1 x2) := by
    intro nn
    induction nn with
    | zero => intro xL3_5 xL4_5 rL1_5 rL2_5 rL3_5 rL4_5 hm; exfalso; omega
    | succ nn ih5 =>
      intro xL3_5 xL4_5 rL1_5 rL2_5 rL3_5 rL4_5 hm5
      have J39 : ∀ (xS0_39 : Int) (o3_39 : Option Value), ((-2147483648) ≤ x1 ∧ x1 ≤ 2147483647) → ((-2147483648) ≤ x2 ∧ x2 ≤ 2147483647) → (0 ≤ xL4_5 ∧ xL4_5 ≤ 17) → (0 ≤ xS0_39 ∧ xS0_39 ≤ 1) → ((-2147483648) ≤ xL3_5 ∧ xL3_5 ≤ 2147483647) → pv_T K 204 39 (pv_fl [some (.ref a0), some (.int (pv_I x1)), some (.int (pv_I x2)), o3_39, some (.int (pv_I xL4_5))]) [.int (pv_I xS0_39), .int (pv_I xL3_5)] h (Q204f τ ρ h a0 x1 x2) := by
        intro xS0_39 o3_39 rL1_39 rL2_39 rL4_39 rS0_39 rS1_39
        refine pw_iadd d204_39 ?_
        refine pw_any (fun z40 hz40 ez40 => ?_)
        refine pw_istore_n d204_40 m204 rfl rfl ?_
        refine pw_iinc d204_41 m204 rfl rfl rfl ?_
        refine pw_goto d204_44 rfl ?_
        exact ih5 (z40) ((xL4_5 + 1)) (by omega) (by omega) (by omega) (by omega) (by omega)
      have J38 : ∀ (o3_38 : Option Value), ((-2147483648) ≤ x1 ∧ x1 ≤ 2147483647) → ((-2147483648) ≤ x2 ∧ x2 ≤ 2147483647) → (0 ≤ xL4_5 ∧ xL4_5 ≤ 17) → ((-2147483648) ≤ xL3_5 ∧ xL3_5 ≤ 2147483647) → pv_T K 204 38 (pv_fl [some (.ref a0), some (.int (pv_I x1)), some (.int (pv_I x2)), o3_38, some (.int (pv_I xL4_5))]) [.int (pv_I xL3_5)] h (Q204f τ ρ h a0 x1 x2) := by
        intro o3_38 rL1_38 rL2_38 rL4_38 rS0_38
        refine pw_iconst d204_38 ?_
        exact J39 (0) _ (by omega) (by omega) (by omega) (by omega) (by omega)
      refine pw_iload d204_5 rfl ?_
      refine pw_aload_n d204_7 rfl ?_
      refine pw_iconst d204_8 ?_
      refine pw_ialdB d204_9 hT hA0 rfl rfl (by omega) (by omega) (fun u9 => ?_)
      have u9 : pv_wok ((1 : Int)) (pv_aI h a0 ((1 : Int)).toNat) := u9
      have vu9 := u9.2.2.1 (by omega)
      refine pw_icmp_ge d204_10 rfl (by omega) (by omega) (fun c10 => ?_) (fun c10 => ?_)
      · refine pw_iload_n d204_47 rfl ?_
        exact pw_ireturn d204_48 tt204 ⟨rfl, xL3_5, rfl, (by omega), (by omega)⟩
      · refine pw_iload_n d204_13 rfl ?_
        refine pw_aload_n d204_14 rfl ?_
        refine pw_iload d204_15 rfl ?_
        refine pw_iload_n d204_17 rfl ?_
        refine pw_callS3 d204_18 k204_156 rfl rfl (ct205f (τ := τ) (ρ := ρ) hT hA0 (by omega) (by omega)) (fun r18 h18 q18 => ?_)
        obtain ⟨eh18, z18, ez18, lz18, uz18⟩ := q18
        subst eh18
        subst ez18
        refine pw_if_eq d204_21 rfl (by omega) (fun c21 => ?_) (fun c21 => ?_)
        · exact J38 _ (by omega) (by omega) (by omega) (by omega)
        · refine pw_aload_n d204_24 rfl ?_
          refine pw_iload d204_25 rfl ?_
          refine pw_iload_n d204_27 rfl ?_
          refine pw_callS3 d204_28 k204_156 rfl rfl (ct205f (τ := τ) (ρ := ρ) hT hA0 (by omega) (by omega)) (fun r28 h28 q28 => ?_)
          obtain ⟨eh28, z28, ez28, lz28, uz28⟩ := q28
          subst eh28
          subst ez28
          refine pw_if_eq d204_31 rfl (by omega) (fun c31 => ?_) (fun c31 => ?_)
          · exact J38 _ (by omega) (by omega) (by omega) (by omega)
          · refine pw_iconst d204_34 ?_
            refine pw_goto d204_35 rfl ?_
            exact J39 (1) _ (by omega) (by omega) (by omega) (by omega) (by omega)
  refine pw_iconst d204_0 ?_
  refine pw_istore_n d204_1 m204 rfl rfl ?_
  refine pw_iconst d204_2 ?_
  refine pw_istore d204_3 m204 rfl rfl ?_
  exact L5 _ (0) (0) (by omega) (by omega) (by omega) (by omega) (pv_mu _)

abbrev Q206 (τ : Nat → Option Nat) (ρ : Nat → Nat → Nat) (h : pv_H) (a0 : Nat) (x1 : Int) (x2 : Int) (x3 : Int) : Option Value → pv_H → Prop := fun r h' => h = h' ∧ ∃ z : Int, r = some (.int (pv_I z)) ∧ 0 ≤ z ∧ z ≤ 1
set_option maxHeartbeats 4000000 in
set_option maxRecDepth 20000 in
/-- AngleNetModel.isTriple([IIII)Z -/
theorem ct206 {τ : Nat → Option Nat} {ρ : Nat → Nat → Nat} {K : Nat → Nat} {h : pv_H} {a0 : Nat} {x1 : Int} {x2 : Int} {x3 : Int} (hT : pv_Ty τ ρ h) (hA0 : τ a0 = some 45) (hX1 : (-2147483648) ≤ x1 ∧ x1 ≤ 2147483647) (hX2 : (-2147483648) ≤ x2 ∧ x2 ≤ 2147483647) (hX3 : (-2147483648) ≤ x3 ∧ x3 ≤ 2147483647) : pv_C K 206 [.ref a0, .int (pv_I x1), .int (pv_I x2), .int (pv_I x3)] h (Q206 τ ρ h a0 x1 x2 x3) := by
  refine pw_entry 1 ?_
  show pv_T K 206 0 (pv_fl [some (.ref a0), some (.int (pv_I x1)), some (.int (pv_I x2)), some (.int (pv_I x3)), none]) [] h (Q206 τ ρ h a0 x1 x2 x3)
  have L3 : ∀ (nn : Nat) (xL4_3 : Int), ((-2147483648) ≤ x1 ∧ x1 ≤ 2147483647) → ((-2147483648) ≤ x2 ∧ x2 ≤ 2147483647) → ((-2147483648) ≤ x3 ∧ x3 ≤ 2147483647) → (0 ≤ xL4_3 ∧ xL4_3 ≤ 18) → 18 - xL4_3 < nn → pv_T K 206 3 (pv_fl [some (.ref a0), some (.int (pv_I x1)), some (.int (pv_I x2)), some (.int (pv_I x3)), some (.int (pv_I xL4_3))]) [] h (Q206 τ ρ h a0 x1 x2 x3) := by
    intro nn
    induction nn with
    | zero => intro xL4_3 rL1_3 rL2_3 rL3_3 rL4_3 hm; exfalso; omega
    | succ nn ih3 =>
      intro xL4_3 rL1_3 rL2_3 rL3_3 rL4_3 hm3
      have J43 : ∀ (_ : Unit), ((-2147483648) ≤ x1 ∧ x1 ≤ 2147483647) → ((-2147483648) ≤ x2 ∧ x2 ≤ 2147483647) → ((-2147483648) ≤ x3 ∧ x3 ≤ 2147483647) → (0 ≤ xL4_3 ∧ xL4_3 ≤ 17) → pv_T K 206 43 (pv_fl [some (.ref a0), some (.int (pv_I x1)), some (.int (pv_I x2)), some (.int (pv_I x3)), some (.int (pv_I xL4_3))]) [] h (Q206 τ ρ h a0 x1 x2 x3) := by
        intro _ rL1_43 rL2_43 rL3_43 rL4_43
        refine pw_iinc d206_43 m206 rfl rfl rfl ?_
        refine pw_goto d206_46 rfl ?_
        exact ih3 ((xL4_3 + 1)) (by omega) (by omega) (by omega) (by omega) (by omega)
      refine pw_iload d206_3 rfl ?_
      refine pw_aload_n d206_5 rfl ?_
      refine pw_iconst d206_6 ?_
      refine pw_ialdB d206_7 hT hA0 rfl rfl (by omega) (by omega) (fun u7 => ?_)
      have u7 : pv_wok ((1 : Int)) (pv_aI h a0 ((1 : Int)).toNat) := u7
      have vu7 := u7.2.2.1 (by omega)
      refine pw_icmp_ge d206_8 rfl (by omega) (by omega) (fun c8 => ?_) (fun c8 => ?_)
      · refine pw_iconst d206_49 ?_
        exact pw_zreturn d206_50 tt206 (by omega) ⟨rfl, 0, rfl, (by omega), (by omega)⟩
      · refine pw_aload_n d206_11 rfl ?_
        refine pw_iload d206_12 rfl ?_
        refine pw_iload_n d206_14 rfl ?_
        refine pw_callS3 d206_15 k206_156 rfl rfl (ct205f (τ := τ) (ρ := ρ) hT hA0 (by omega) (by omega)) (fun r15 h15 q15 => ?_)
        obtain ⟨eh15, z15, ez15, lz15, uz15⟩ := q15
        subst eh15
        subst ez15
        refine pw_if_eq d206_18 rfl (by omega) (fun c18 => ?_) (fun c18 => ?_)
        · exact J43 () (by omega) (by omega) (by omega) (by omega)
        · refine pw_aload_n d206_21 rfl ?_
          refine pw_iload d206_22 rfl ?_
          refine pw_iload_n d206_24 rfl ?_
          refine pw_callS3 d206_25 k206_156 rfl rfl (ct205f (τ := τ) (ρ := ρ) hT hA0 (by omega) (by omega)) (fun r25 h25 q25 => ?_)
          obtain ⟨eh25, z25, ez25, lz25, uz25⟩ := q25
          subst eh25
          subst ez25
          refine pw_if_eq d206_28 rfl (by omega) (fun c28 => ?_) (fun c28 => ?_)
          · exact J43 () (by omega) (by omega) (by omega) (by omega)
          · refine pw_aload_n d206_31 rfl ?_
            refine pw_iload d206_32 rfl ?_
            refine pw_iload_n d206_34 rfl ?_
            refine pw_callS3 d206_35 k206_156 rfl rfl (ct205f (τ := τ) (ρ := ρ) hT hA0 (by omega) (by omega)) (fun r35 h35 q35 => ?_)
            obtain ⟨eh35, z35, ez35, lz35, uz35⟩ := q35
            subst eh35
            subst ez35
            refine pw_if_eq d206_38 rfl (by omega) (fun c38 => ?_) (fun c38 => ?_)
            · exact J43 () (by omega) (by omega) (by omega) (by omega)
            · refine pw_iconst d206_41 ?_
              exact pw_zreturn d206_42 tt206 (by omega) ⟨rfl, 1, rfl, (by omega), (by omega)⟩
  refine pw_iconst d206_0 ?_
  refine pw_istore d206_1 m206 rfl rfl ?_
  exact L3 _ (0) (by omega) (by omega) (by omega) (by omega) (pv_mu _)

abbrev Q218 (τ : Nat → Option Nat) (ρ : Nat → Nat → Nat) (h : pv_H) (a0 : Nat) (x1 : Int) (x2 : Int) : Option Value → pv_H → Prop := fun r h' => h = h' ∧ ∃ z : Int, r = some (.int (pv_I z)) ∧ (-2147483648) ≤ z ∧ z ≤ 2147483647
set_option maxHeartbeats 4000000 in
set_option maxRecDepth 20000 in
/-- AngleNetModel.many(II)I -/
theorem ct218 {τ : Nat → Option Nat} {ρ : Nat → Nat → Nat} {K : Nat → Nat} {h : pv_H} {a0 : Nat} {x1 : Int} {x2 : Int} (hT : pv_Ty τ ρ h) (hA0 : τ a0 = some 7) (hX1 : (-2147483648) ≤ x1 ∧ x1 ≤ 2147483647) (hX2 : (-2147483648) ≤ x2 ∧ x2 ≤ 2147483647) : pv_C K 218 [.ref a0, .int (pv_I x1), .int (pv_I x2)] h (Q218 τ ρ h a0 x1 x2) := by
  refine pw_entry 0 ?_
  show pv_T K 218 0 (pv_fl [some (.ref a0), some (.int (pv_I x1)), some (.int (pv_I x2))]) [] h (Q218 τ ρ h a0 x1 x2)
  refine pw_aload_n d218_0 rfl ?_
  refine pw_getR d218_1 g218_9 hT hA0 rfl rfl (fun t1 => ?_)
  have t1 : τ (ρ a0 1) = some 40 := t1
  refine pw_iload_n d218_4 rfl ?_
  refine pw_iload_n d218_5 rfl ?_
  refine pw_callS3 d218_6 k218_166 rfl rfl (ct204w (τ := τ) (ρ := ρ) hT t1 (by omega) (by omega)) (fun r6 h6 q6 => ?_)
  obtain ⟨eh6, z6, ez6, lz6, uz6⟩ := q6
  subst eh6
  subst ez6
  exact pw_ireturn d218_9 tt218 ⟨rfl, z6, rfl, (by omega), (by omega)⟩

abbrev Q217 (τ : Nat → Option Nat) (ρ : Nat → Nat → Nat) (h : pv_H) (a0 : Nat) (x1 : Int) (x2 : Int) : Option Value → pv_H → Prop := fun r h' => h = h' ∧ ∃ z : Int, r = some (.int (pv_I z)) ∧ 0 ≤ z ∧ z ≤ 1
set_option maxHeartbeats 4000000 in
set_option maxRecDepth 20000 in
/-- AngleNetModel.isSide(II)Z -/
theorem ct217 {τ : Nat → Option Nat} {ρ : Nat → Nat → Nat} {K : Nat → Nat} {h : pv_H} {a0 : Nat} {x1 : Int} {x2 : Int} (hT : pv_Ty τ ρ h) (hA0 : τ a0 = some 7) (hX1 : (-2147483648) ≤ x1 ∧ x1 ≤ 2147483647) (hX2 : (-2147483648) ≤ x2 ∧ x2 ≤ 2147483647) : pv_C K 217 [.ref a0, .int (pv_I x1), .int (pv_I x2)] h (Q217 τ ρ h a0 x1 x2) := by
  refine pw_entry 0 ?_
  show pv_T K 217 0 (pv_fl [some (.ref a0), some (.int (pv_I x1)), some (.int (pv_I x2))]) [] h (Q217 τ ρ h a0 x1 x2)
  refine pw_iload_n d217_0 rfl ?_
  refine pw_iload_n d217_1 rfl ?_
  refine pw_icmp_eq d217_2 rfl (by omega) (by omega) (fun c2 => ?_) (fun c2 => ?_)
  · refine pw_iconst d217_18 ?_
    exact pw_zreturn d217_19 tt217 (by omega) ⟨rfl, 0, rfl, (by omega), (by omega)⟩
  · refine pw_aload_n d217_5 rfl ?_
    refine pw_iload_n d217_6 rfl ?_
    refine pw_iload_n d217_7 rfl ?_
    refine pw_callV2 d217_8 k217_214 hT hA0 rfl rfl rfl (ct218 (τ := τ) (ρ := ρ) hT hA0 (by omega) (by omega)) (fun r8 h8 q8 => ?_)
    obtain ⟨eh8, z8, ez8, lz8, uz8⟩ := q8
    subst eh8
    subst ez8
    refine pw_if_le d217_11 rfl (by omega) (fun c11 => ?_) (fun c11 => ?_)
    · refine pw_iconst d217_18 ?_
      exact pw_zreturn d217_19 tt217 (by omega) ⟨rfl, 0, rfl, (by omega), (by omega)⟩
    · refine pw_iconst d217_14 ?_
      refine pw_goto d217_15 rfl ?_
      exact pw_zreturn d217_19 tt217 (by omega) ⟨rfl, 1, rfl, (by omega), (by omega)⟩

abbrev Q226 (τ : Nat → Option Nat) (ρ : Nat → Nat → Nat) (h : pv_H) (a0 : Nat) : Option Value → pv_H → Prop := fun r h' => h = h' ∧ ∃ z : Int, r = some (.int (pv_I z)) ∧ 0 ≤ z ∧ z ≤ 1023
set_option maxHeartbeats 4000000 in
set_option maxRecDepth 20000 in
/-- AngleNetModel.used()I -/
theorem ct226 {τ : Nat → Option Nat} {ρ : Nat → Nat → Nat} {K : Nat → Nat} {h : pv_H} {a0 : Nat} (hT : pv_Ty τ ρ h) (hA0 : τ a0 = some 7) : pv_C K 226 [.ref a0] h (Q226 τ ρ h a0) := by
  refine pw_entry 2 ?_
  show pv_T K 226 0 (pv_fl [some (.ref a0), none, none]) [] h (Q226 τ ρ h a0)
  have L4 : ∀ (nn : Nat) (xL1_4 xL2_4 : Int), (0 ≤ xL1_4 ∧ xL1_4 ≤ 1023) → (0 ≤ xL2_4 ∧ xL2_4 ≤ 18) → 18 - xL2_4 < nn → pv_T K 226 4 (pv_fl [some (.ref a0), some (.int (pv_I xL1_4)), some (.int (pv_I xL2_4))]) [] h (Q226 τ ρ h a0) := by
    intro nn
    induction nn with
    | zero => intro xL1_4 xL2_4 rL1_4 rL2_4 hm; exfalso; omega
    | succ nn ih4 =>
      intro xL1_4 xL2_4 rL1_4 rL2_4 hm4
      refine pw_iload_n d226_4 rfl ?_
      refine pw_aload_n d226_5 rfl ?_
      refine pw_callV0 d226_6 k226_216 hT hA0 rfl rfl rfl (ct216 (τ := τ) (ρ := ρ) hT hA0) (fun r6 h6 q6 => ?_)
      obtain ⟨eh6, z6, ez6, lz6, uz6, pz6_0⟩ := q6
      subst eh6
      subst ez6
      refine pw_icmp_ge d226_9 rfl (by omega) (by omega) (fun c9 => ?_) (fun c9 => ?_)
      · refine pw_iload_n d226_47 rfl ?_
        exact pw_ireturn d226_48 tt226 ⟨rfl, xL1_4, rfl, (by omega), (by omega)⟩
      · refine pw_iload_n d226_12 rfl ?_
        refine pw_iconst d226_13 ?_
        refine pw_aload_n d226_14 rfl ?_
        refine pw_iload_n d226_15 rfl ?_
        refine pw_iconst d226_16 ?_
        refine pw_callV2 d226_17 k226_219 hT hA0 rfl rfl rfl (ct212 (τ := τ) (ρ := ρ) hT hA0 (by omega) (by omega)) (fun r17 h17 q17 => ?_)
        obtain ⟨eh17, z17, ez17, lz17, uz17, pz17_0, pz17_1⟩ := q17
        subst eh17
        subst ez17
        refine pw_ishl d226_20 (fun z20 hz20 ez20 => ?_)
        have bz20 := pv_shl1_b (n := 9) (m := 512) (y := z17) (by omega) (by omega) (by decide) (by decide) hz20 ez20
        refine pw_iconst d226_21 ?_
        refine pw_aload_n d226_22 rfl ?_
        refine pw_iload_n d226_23 rfl ?_
        refine pw_iconst d226_24 ?_
        refine pw_callV2 d226_25 k226_219 hT hA0 rfl rfl rfl (ct212 (τ := τ) (ρ := ρ) hT hA0 (by omega) (by omega)) (fun r25 h25 q25 => ?_)
        obtain ⟨eh25, z25, ez25, lz25, uz25, pz25_0, pz25_1⟩ := q25
        subst eh25
        subst ez25
        refine pw_ishl d226_28 (fun z28 hz28 ez28 => ?_)
        have bz28 := pv_shl1_b (n := 9) (m := 512) (y := z25) (by omega) (by omega) (by decide) (by decide) hz28 ez28
        refine pw_ior d226_29 (fun z29 hz29 ez29 => ?_)
        have bz29 := pv_or_b (n := 10) (m := 1024) (x := z20) (y := z28) (by omega) (by omega) (by omega) (by omega) (by decide) (by decide) hz29 ez29
        refine pw_iconst d226_30 ?_
        refine pw_aload_n d226_31 rfl ?_
        refine pw_iload_n d226_32 rfl ?_
        refine pw_iconst d226_33 ?_
        refine pw_callV2 d226_34 k226_219 hT hA0 rfl rfl rfl (ct212 (τ := τ) (ρ := ρ) hT hA0 (by omega) (by omega)) (fun r34 h34 q34 => ?_)
        obtain ⟨eh34, z34, ez34, lz34, uz34, pz34_0, pz34_1⟩ := q34
        subst eh34
        subst ez34
        refine pw_ishl d226_37 (fun z37 hz37 ez37 => ?_)
        have bz37 := pv_shl1_b (n := 9) (m := 512) (y := z34) (by omega) (by omega) (by decide) (by decide) hz37 ez37
        refine pw_ior d226_38 (fun z38 hz38 ez38 => ?_)
        have bz38 := pv_or_b (n := 10) (m := 1024) (x := z29) (y := z37) (by omega) (by omega) (by omega) (by omega) (by decide) (by decide) hz38 ez38
        refine pw_ior d226_39 (fun z39 hz39 ez39 => ?_)
        have bz39 := pv_or_b (n := 10) (m := 1024) (x := xL1_4) (y := z38) (by omega) (by omega) (by omega) (by omega) (by decide) (by decide) hz39 ez39
        refine pw_istore_n d226_40 m226 rfl rfl ?_
        refine pw_iinc d226_41 m226 rfl rfl rfl ?_
        refine pw_goto d226_44 rfl ?_
        exact ih4 (z39) ((xL2_4 + 1)) (by omega) (by omega) (by omega)
  refine pw_iconst d226_0 ?_
  refine pw_istore_n d226_1 m226 rfl rfl ?_
  refine pw_iconst d226_2 ?_
  refine pw_istore_n d226_3 m226 rfl rfl ?_
  exact L4 _ (0) (0) (by omega) (by omega) (pv_mu _)

abbrev Q227 (τ : Nat → Option Nat) (ρ : Nat → Nat → Nat) (h : pv_H) (x0 : Int) : Option Value → pv_H → Prop := fun r h' => h = h' ∧ ∃ z : Int, r = some (.int (pv_I z)) ∧ 0 ≤ z ∧ z ≤ 10
set_option maxHeartbeats 4000000 in
set_option maxRecDepth 20000 in
/-- AngleNetModel.bits(I)I -/
theorem ct227 {τ : Nat → Option Nat} {ρ : Nat → Nat → Nat} {K : Nat → Nat} {h : pv_H} {x0 : Int} (hX0 : (-2147483648) ≤ x0 ∧ x0 ≤ 2147483647) : pv_C K 227 [.int (pv_I x0)] h (Q227 τ ρ h x0) := by
  refine pw_entry 2 ?_
  show pv_T K 227 0 (pv_fl [some (.int (pv_I x0)), none, none]) [] h (Q227 τ ρ h x0)
  have L4 : ∀ (nn : Nat) (xL1_4 xL2_4 : Int), ((-2147483648) ≤ x0 ∧ x0 ≤ 2147483647) → (0 ≤ xL1_4 ∧ xL1_4 ≤ 10) → (0 ≤ xL2_4 ∧ xL2_4 ≤ 10) → (xL1_4 ≤ xL2_4) → 10 - xL2_4 < nn → pv_T K 227 4 (pv_fl [some (.int (pv_I x0)), some (.int (pv_I xL1_4)), some (.int (pv_I xL2_4))]) [] h (Q227 τ ρ h x0) := by
    intro nn
    induction nn with
    | zero => intro xL1_4 xL2_4 rL0_4 rL1_4 rL2_4 i0_4 hm; exfalso; omega
    | succ nn ih4 =>
      intro xL1_4 xL2_4 rL0_4 rL1_4 rL2_4 i0_4 hm4
      refine pw_iload_n d227_4 rfl ?_
      refine pw_bipush d227_5 (by decide) ?_
      refine pw_icmp_ge d227_7 rfl (by omega) (by omega) (fun c7 => ?_) (fun c7 => ?_)
      · refine pw_iload_n d227_24 rfl ?_
        exact pw_ireturn d227_25 tt227 ⟨rfl, xL1_4, rfl, (by omega), (by omega)⟩
      · refine pw_iload_n d227_10 rfl ?_
        refine pw_iload_n d227_11 rfl ?_
        refine pw_iload_n d227_12 rfl ?_
        refine pw_ishr d227_13 (fun z13 hz13 ez13 => ?_)
        refine pw_iconst d227_14 ?_
        refine pw_iand d227_15 (fun z15 hz15 ez15 => ?_)
        have bz15 := pv_and1_b hz15 ez15
        refine pw_iadd d227_16 ?_
        refine pw_istore_n d227_17 m227 rfl rfl ?_
        refine pw_iinc d227_18 m227 rfl rfl rfl ?_
        refine pw_goto d227_21 rfl ?_
        exact ih4 ((xL1_4 + z15)) ((xL2_4 + 1)) (by omega) (by omega) (by omega) (by omega) (by omega)
  refine pw_iconst d227_0 ?_
  refine pw_istore_n d227_1 m227 rfl rfl ?_
  refine pw_iconst d227_2 ?_
  refine pw_istore_n d227_3 m227 rfl rfl ?_
  exact L4 _ (0) (0) (by omega) (by omega) (by omega) (by omega) (pv_mu _)

abbrev Q228 (τ : Nat → Option Nat) (ρ : Nat → Nat → Nat) (h : pv_H) (a0 : Nat) : Option Value → pv_H → Prop := fun r h' => h = h' ∧ ∃ z : Int, r = some (.int (pv_I z)) ∧ (-2147483648) ≤ z ∧ z ≤ 2147483647
set_option maxHeartbeats 4000000 in
set_option maxRecDepth 20000 in
/-- AngleNetModel.sidesMany()I -/
theorem ct228 {τ : Nat → Option Nat} {ρ : Nat → Nat → Nat} {K : Nat → Nat} {h : pv_H} {a0 : Nat} (hT : pv_Ty τ ρ h) (hA0 : τ a0 = some 7) : pv_C K 228 [.ref a0] h (Q228 τ ρ h a0) := by
  refine pw_entry 3 ?_
  show pv_T K 228 0 (pv_fl [some (.ref a0), none, none, none]) [] h (Q228 τ ρ h a0)
  have L4 : ∀ (nn : Nat) (xL1_4 xL2_4 : Int) (o3_4 : Option Value), ((-2147483648) ≤ xL1_4 ∧ xL1_4 ≤ 2147483647) → (0 ≤ xL2_4 ∧ xL2_4 ≤ 10) → 10 - xL2_4 < nn → pv_T K 228 4 (pv_fl [some (.ref a0), some (.int (pv_I xL1_4)), some (.int (pv_I xL2_4)), o3_4]) [] h (Q228 τ ρ h a0) := by
    intro nn
    induction nn with
    | zero => intro xL1_4 xL2_4 o3_4 rL1_4 rL2_4 hm; exfalso; omega
    | succ nn ih4 =>
      intro xL1_4 xL2_4 o3_4 rL1_4 rL2_4 hm4
      have L16 : ∀ (nn : Nat) (xL1_16 xL3_16 : Int), ((-2147483648) ≤ xL1_16 ∧ xL1_16 ≤ 2147483647) → (0 ≤ xL2_4 ∧ xL2_4 ≤ 9) → (0 ≤ xL3_16 ∧ xL3_16 ≤ 10) → 10 - xL3_16 < nn → pv_T K 228 16 (pv_fl [some (.ref a0), some (.int (pv_I xL1_16)), some (.int (pv_I xL2_4)), some (.int (pv_I xL3_16))]) [] h (Q228 τ ρ h a0) := by
        intro nn
        induction nn with
        | zero => intro xL1_16 xL3_16 rL1_16 rL2_16 rL3_16 hm; exfalso; omega
        | succ nn ih16 =>
          intro xL1_16 xL3_16 rL1_16 rL2_16 rL3_16 hm16
          have J36 : ∀ (xS0_36 xS1_36 : Int) (o1_36 : Option Value), (1 ≤ xL2_4 ∧ xL2_4 ≤ 9) → (0 ≤ xL3_16 ∧ xL3_16 ≤ 9) → (0 ≤ xS0_36 ∧ xS0_36 ≤ 1) → ((-2147483648) ≤ xS1_36 ∧ xS1_36 ≤ 2147483647) → pv_T K 228 36 (pv_fl [some (.ref a0), o1_36, some (.int (pv_I xL2_4)), some (.int (pv_I xL3_16))]) [.int (pv_I xS0_36), .int (pv_I xS1_36)] h (Q228 τ ρ h a0) := by
            intro xS0_36 xS1_36 o1_36 rL2_36 rL3_36 rS0_36 rS1_36
            refine pw_iadd d228_36 ?_
            refine pw_any (fun z37 hz37 ez37 => ?_)
            refine pw_istore_n d228_37 m228 rfl rfl ?_
            refine pw_iinc d228_38 m228 rfl rfl rfl ?_
            refine pw_goto d228_41 rfl ?_
            exact ih16 (z37) ((xL3_16 + 1)) (by omega) (by omega) (by omega) (by omega)
          refine pw_iload_n d228_16 rfl ?_
          refine pw_iload_n d228_17 rfl ?_
          refine pw_icmp_ge d228_18 rfl (by omega) (by omega) (fun c18 => ?_) (fun c18 => ?_)
          · refine pw_iinc d228_44 m228 rfl rfl rfl ?_
            refine pw_goto d228_47 rfl ?_
            exact ih4 (xL1_16) ((xL2_4 + 1)) _ (by omega) (by omega) (by omega)
          · refine pw_iload_n d228_21 rfl ?_
            refine pw_aload_n d228_22 rfl ?_
            refine pw_iload_n d228_23 rfl ?_
            refine pw_iload_n d228_24 rfl ?_
            refine pw_callV2 d228_25 k228_221 hT hA0 rfl rfl rfl (ct217 (τ := τ) (ρ := ρ) hT hA0 (by omega) (by omega)) (fun r25 h25 q25 => ?_)
            obtain ⟨eh25, z25, ez25, lz25, uz25⟩ := q25
            subst eh25
            subst ez25
            refine pw_if_eq d228_28 rfl (by omega) (fun c28 => ?_) (fun c28 => ?_)
            · refine pw_iconst d228_35 ?_
              exact J36 (0) (xL1_16) _ (by omega) (by omega) (by omega) (by omega)
            · refine pw_iconst d228_31 ?_
              refine pw_goto d228_32 rfl ?_
              exact J36 (1) (xL1_16) _ (by omega) (by omega) (by omega) (by omega)
      refine pw_iload_n d228_4 rfl ?_
      refine pw_aload_n d228_5 rfl ?_
      refine pw_getR d228_6 g228_9 hT hA0 rfl rfl (fun t6 => ?_)
      have t6 : τ (ρ a0 1) = some 40 := t6
      refine pw_iconst d228_9 ?_
      refine pw_ialdB d228_10 hT t6 rfl rfl (by omega) (by omega) (fun u10 => ?_)
      have u10 : pv_wok ((0 : Int)) (pv_aI h (ρ a0 1) ((0 : Int)).toNat) := u10
      have vu10 := u10.2.1 (by omega)
      refine pw_icmp_ge d228_11 rfl (by omega) (by omega) (fun c11 => ?_) (fun c11 => ?_)
      · refine pw_iload_n d228_50 rfl ?_
        exact pw_ireturn d228_51 tt228 ⟨rfl, xL1_4, rfl, (by omega), (by omega)⟩
      · refine pw_iconst d228_14 ?_
        refine pw_istore_n d228_15 m228 rfl rfl ?_
        exact L16 _ (xL1_4) (0) (by omega) (by omega) (by omega) (pv_mu _)
  refine pw_iconst d228_0 ?_
  refine pw_istore_n d228_1 m228 rfl rfl ?_
  refine pw_iconst d228_2 ?_
  refine pw_istore_n d228_3 m228 rfl rfl ?_
  exact L4 _ (0) (0) _ (by omega) (by omega) (pv_mu _)

abbrev Q222 (τ : Nat → Option Nat) (ρ : Nat → Nat → Nat) (h : pv_H) (a0 : Nat) (x1 : Int) : Option Value → pv_H → Prop := fun r h' => h = h' ∧ ∃ z : Int, r = some (.int (pv_I z)) ∧ (-1) ≤ z ∧ z ≤ 99
set_option maxHeartbeats 4000000 in
set_option maxRecDepth 20000 in
/-- AngleNetModel.sideAt(I)I -/
theorem ct222 {τ : Nat → Option Nat} {ρ : Nat → Nat → Nat} {K : Nat → Nat} {h : pv_H} {a0 : Nat} {x1 : Int} (hT : pv_Ty τ ρ h) (hA0 : τ a0 = some 7) (hX1 : (-2147483648) ≤ x1 ∧ x1 ≤ 2147483647) : pv_C K 222 [.ref a0, .int (pv_I x1)] h (Q222 τ ρ h a0 x1) := by
  refine pw_entry 3 ?_
  show pv_T K 222 0 (pv_fl [some (.ref a0), some (.int (pv_I x1)), none, none, none]) [] h (Q222 τ ρ h a0 x1)
  have L4 : ∀ (nn : Nat) (xL2_4 xL3_4 : Int) (o4_4 : Option Value), ((-2147483648) ≤ x1 ∧ x1 ≤ 2147483647) → ((-2147483648) ≤ xL2_4 ∧ xL2_4 ≤ 2147483647) → (0 ≤ xL3_4 ∧ xL3_4 ≤ 10) → 10 - xL3_4 < nn → pv_T K 222 4 (pv_fl [some (.ref a0), some (.int (pv_I x1)), some (.int (pv_I xL2_4)), some (.int (pv_I xL3_4)), o4_4]) [] h (Q222 τ ρ h a0 x1) := by
    intro nn
    induction nn with
    | zero => intro xL2_4 xL3_4 o4_4 rL1_4 rL2_4 rL3_4 hm; exfalso; omega
    | succ nn ih4 =>
      intro xL2_4 xL3_4 o4_4 rL1_4 rL2_4 rL3_4 hm4
      have L19 : ∀ (nn : Nat) (xL2_19 xL4_19 : Int), ((-2147483648) ≤ x1 ∧ x1 ≤ 2147483647) → ((-2147483648) ≤ xL2_19 ∧ xL2_19 ≤ 2147483647) → (0 ≤ xL3_4 ∧ xL3_4 ≤ 9) → (1 ≤ xL4_19 ∧ xL4_19 ≤ 10) → 10 - xL4_19 < nn → pv_T K 222 19 (pv_fl [some (.ref a0), some (.int (pv_I x1)), some (.int (pv_I xL2_19)), some (.int (pv_I xL3_4)), some (.int (pv_I xL4_19))]) [] h (Q222 τ ρ h a0 x1) := by
        intro nn
        induction nn with
        | zero => intro xL2_19 xL4_19 rL1_19 rL2_19 rL3_19 rL4_19 hm; exfalso; omega
        | succ nn ih19 =>
          intro xL2_19 xL4_19 rL1_19 rL2_19 rL3_19 rL4_19 hm19
          have J59 : ∀ (xL2_59 : Int), ((-2147483648) ≤ x1 ∧ x1 ≤ 2147483647) → ((-2147483648) ≤ xL2_59 ∧ xL2_59 ≤ 2147483647) → (0 ≤ xL3_4 ∧ xL3_4 ≤ 9) → (1 ≤ xL4_19 ∧ xL4_19 ≤ 9) → pv_T K 222 59 (pv_fl [some (.ref a0), some (.int (pv_I x1)), some (.int (pv_I xL2_59)), some (.int (pv_I xL3_4)), some (.int (pv_I xL4_19))]) [] h (Q222 τ ρ h a0 x1) := by
            intro xL2_59 rL1_59 rL2_59 rL3_59 rL4_59
            refine pw_iinc d222_59 m222 rfl rfl rfl ?_
            refine pw_goto d222_62 rfl ?_
            exact ih19 (xL2_59) ((xL4_19 + 1)) (by omega) (by omega) (by omega) (by omega) (by omega)
          refine pw_iload d222_19 rfl ?_
          refine pw_aload_n d222_21 rfl ?_
          refine pw_getR d222_22 g222_9 hT hA0 rfl rfl (fun t22 => ?_)
          have t22 : τ (ρ a0 1) = some 40 := t22
          refine pw_iconst d222_25 ?_
          refine pw_ialdB d222_26 hT t22 rfl rfl (by omega) (by omega) (fun u26 => ?_)
          have u26 : pv_wok ((0 : Int)) (pv_aI h (ρ a0 1) ((0 : Int)).toNat) := u26
          have vu26 := u26.2.1 (by omega)
          refine pw_icmp_ge d222_27 rfl (by omega) (by omega) (fun c27 => ?_) (fun c27 => ?_)
          · refine pw_iinc d222_65 m222 rfl rfl rfl ?_
            refine pw_goto d222_68 rfl ?_
            exact ih4 (xL2_19) ((xL3_4 + 1)) _ (by omega) (by omega) (by omega) (by omega)
          · refine pw_aload_n d222_30 rfl ?_
            refine pw_iload_n d222_31 rfl ?_
            refine pw_iload d222_32 rfl ?_
            refine pw_callV2 d222_34 k222_221 hT hA0 rfl rfl rfl (ct217 (τ := τ) (ρ := ρ) hT hA0 (by omega) (by omega)) (fun r34 h34 q34 => ?_)
            obtain ⟨eh34, z34, ez34, lz34, uz34⟩ := q34
            subst eh34
            subst ez34
            refine pw_if_ne d222_37 rfl (by omega) (fun c37 => ?_) (fun c37 => ?_)
            · refine pw_iload_n d222_43 rfl ?_
              refine pw_iload_n d222_44 rfl ?_
              refine pw_icmp_ne d222_45 rfl (by omega) (by omega) (fun c45 => ?_) (fun c45 => ?_)
              · refine pw_iincU d222_56 m222 rfl rfl rfl (fun z56 hz56 => ?_)
                exact J59 (z56) (by omega) (by omega) (by omega) (by omega)
              · refine pw_bipush d222_48 (by decide) ?_
                refine pw_iload_n d222_50 rfl ?_
                refine pw_imul d222_51 ?_
                refine pw_iload d222_52 rfl ?_
                refine pw_iadd d222_54 ?_
                exact pw_ireturn d222_55 tt222 ⟨rfl, ((10 * xL3_4) + xL4_19), rfl, (by omega), (by omega)⟩
            · refine pw_goto d222_40 rfl ?_
              exact J59 (xL2_19) (by omega) (by omega) (by omega) (by omega)
      refine pw_iload_n d222_4 rfl ?_
      refine pw_aload_n d222_5 rfl ?_
      refine pw_getR d222_6 g222_9 hT hA0 rfl rfl (fun t6 => ?_)
      have t6 : τ (ρ a0 1) = some 40 := t6
      refine pw_iconst d222_9 ?_
      refine pw_ialdB d222_10 hT t6 rfl rfl (by omega) (by omega) (fun u10 => ?_)
      have u10 : pv_wok ((0 : Int)) (pv_aI h (ρ a0 1) ((0 : Int)).toNat) := u10
      have vu10 := u10.2.1 (by omega)
      refine pw_icmp_ge d222_11 rfl (by omega) (by omega) (fun c11 => ?_) (fun c11 => ?_)
      · refine pw_iconst d222_71 ?_
        exact pw_ireturn d222_72 tt222 ⟨rfl, (-1), rfl, (by omega), (by omega)⟩
      · refine pw_iload_n d222_14 rfl ?_
        refine pw_iconst d222_15 ?_
        refine pw_iadd d222_16 ?_
        refine pw_istore d222_17 m222 rfl rfl ?_
        exact L19 _ (xL2_4) ((xL3_4 + 1)) (by omega) (by omega) (by omega) (by omega) (pv_mu _)
  refine pw_iconst d222_0 ?_
  refine pw_istore_n d222_1 m222 rfl rfl ?_
  refine pw_iconst d222_2 ?_
  refine pw_istore_n d222_3 m222 rfl rfl ?_
  exact L4 _ (0) (0) _ (by omega) (by omega) (by omega) (pv_mu _)

abbrev Q210 (τ : Nat → Option Nat) (ρ : Nat → Nat → Nat) (h : pv_H) (a0 : Nat) (x1 : Int) (x2 : Int) : Option Value → pv_H → Prop := fun r h' => h = h' ∧ ∃ z : Int, r = some (.int (pv_I z)) ∧ (-2) ≤ z ∧ z ≤ 540
set_option maxHeartbeats 4000000 in
set_option maxRecDepth 20000 in
/-- AngleNetModel.third(II)I -/
theorem ct210 {τ : Nat → Option Nat} {ρ : Nat → Nat → Nat} {K : Nat → Nat} {h : pv_H} {a0 : Nat} {x1 : Int} {x2 : Int} (hT : pv_Ty τ ρ h) (hA0 : τ a0 = some 7) (hX1 : (-2147483648) ≤ x1 ∧ x1 ≤ 2147483647) (hX2 : (-2147483648) ≤ x2 ∧ x2 ≤ 2147483647) : pv_C K 210 [.ref a0, .int (pv_I x1), .int (pv_I x2)] h (Q210 τ ρ h a0 x1 x2) := by
  refine pw_entry 0 ?_
  show pv_T K 210 0 (pv_fl [some (.ref a0), some (.int (pv_I x1)), some (.int (pv_I x2))]) [] h (Q210 τ ρ h a0 x1 x2)
  refine pw_aload_n d210_0 rfl ?_
  refine pw_iload_n d210_1 rfl ?_
  refine pw_callV1 d210_2 k210_225 hT hA0 rfl rfl rfl (ct211 (τ := τ) (ρ := ρ) hT hA0 (by omega)) (fun r2 h2 q2 => ?_)
  obtain ⟨eh2, z2, ez2, lz2, uz2, pz2_0⟩ := q2
  subst eh2
  subst ez2
  refine pw_if_eq d210_5 rfl (by omega) (fun c5 => ?_) (fun c5 => ?_)
  · refine pw_bipush d210_29 (by decide) ?_
    exact pw_ireturn d210_31 tt210 ⟨rfl, (-2), rfl, (by omega), (by omega)⟩
  · refine pw_iload_n d210_8 rfl ?_
    refine pw_i2l d210_9 (by omega) ?_
    refine pw_lconst (z := 0) d210_10 (by decide) ?_
    refine pw_ldc2 (v := pv_J 3) d210_11 n210_11 ?_
    refine pw_callS3 d210_14 k210_73 rfl rfl (ct184 (τ := τ) (ρ := ρ) (by omega) (by omega) (by omega)) (fun r14 h14 q14 => ?_)
    obtain ⟨eh14, z14, ez14, lz14, uz14, pz14_0⟩ := q14
    subst eh14
    subst ez14
    refine pw_if_eq d210_17 rfl (by omega) (fun c17 => ?_) (fun c17 => ?_)
    · refine pw_bipush d210_29 (by decide) ?_
      exact pw_ireturn d210_31 tt210 ⟨rfl, (-2), rfl, (by omega), (by omega)⟩
    · refine pw_aload_n d210_20 rfl ?_
      refine pw_iload_n d210_21 rfl ?_
      refine pw_iload_n d210_22 rfl ?_
      refine pw_callV2 d210_23 k210_219 hT hA0 rfl rfl rfl (ct212 (τ := τ) (ρ := ρ) hT hA0 (by omega) (by omega)) (fun r23 h23 q23 => ?_)
      obtain ⟨eh23, z23, ez23, lz23, uz23, pz23_0, pz23_1⟩ := q23
      subst eh23
      subst ez23
      refine pw_goto d210_26 rfl ?_
      exact pw_ireturn d210_31 tt210 ⟨rfl, z23, rfl, (by omega), (by omega)⟩

abbrev Q213 (τ : Nat → Option Nat) (ρ : Nat → Nat → Nat) (h : pv_H) (a0 : Nat) (x1 : Int) (x2 : Int) : Option Value → pv_H → Prop := fun r h' => h = h' ∧ ∃ z : Int, r = some (.int (pv_I z)) ∧ (-2147483648) ≤ z ∧ z ≤ 2147483647
set_option maxHeartbeats 4000000 in
set_option maxRecDepth 20000 in
/-- AngleNetModel.post(II)I -/
theorem ct213 {τ : Nat → Option Nat} {ρ : Nat → Nat → Nat} {K : Nat → Nat} {h : pv_H} {a0 : Nat} {x1 : Int} {x2 : Int} (hT : pv_Ty τ ρ h) (hA0 : τ a0 = some 7) (hX1 : (-2147483648) ≤ x1 ∧ x1 ≤ 2147483647) (hX2 : (-2147483648) ≤ x2 ∧ x2 ≤ 2147483647) : pv_C K 213 [.ref a0, .int (pv_I x1), .int (pv_I x2)] h (Q213 τ ρ h a0 x1 x2) := by
  refine pw_entry 2 ?_
  show pv_T K 213 0 (pv_fl [some (.ref a0), some (.int (pv_I x1)), some (.int (pv_I x2)), none, none]) [] h (Q213 τ ρ h a0 x1 x2)
  have L84 : ∀ (nn : Nat) (xL3_84 xL4_84 : Int), (0 ≤ x1 ∧ x1 ≤ 9) → (4 ≤ x2 ∧ x2 ≤ 5) → ((-2147483648) ≤ xL3_84 ∧ xL3_84 ≤ 2147483647) → (0 ≤ xL4_84 ∧ xL4_84 ≤ 10) → 10 - xL4_84 < nn → pv_T K 213 84 (pv_fl [some (.ref a0), some (.int (pv_I x1)), some (.int (pv_I x2)), some (.int (pv_I xL3_84)), some (.int (pv_I xL4_84))]) [] h (Q213 τ ρ h a0 x1 x2) := by
    intro nn
    induction nn with
    | zero => intro xL3_84 xL4_84 rL1_84 rL2_84 rL3_84 rL4_84 hm; exfalso; omega
    | succ nn ih84 =>
      intro xL3_84 xL4_84 rL1_84 rL2_84 rL3_84 rL4_84 hm84
      have J116 : ∀ (xS0_116 : Int) (o3_116 : Option Value), (0 ≤ x1 ∧ x1 ≤ 9) → (5 ≤ x2 ∧ x2 ≤ 5) → (0 ≤ xL4_84 ∧ xL4_84 ≤ 9) → (0 ≤ xS0_116 ∧ xS0_116 ≤ 1) → ((-2147483648) ≤ xL3_84 ∧ xL3_84 ≤ 2147483647) → pv_T K 213 116 (pv_fl [some (.ref a0), some (.int (pv_I x1)), some (.int (pv_I x2)), o3_116, some (.int (pv_I xL4_84))]) [.int (pv_I xS0_116), .int (pv_I xL3_84)] h (Q213 τ ρ h a0 x1 x2) := by
        intro xS0_116 o3_116 rL1_116 rL2_116 rL4_116 rS0_116 rS1_116
        refine pw_iadd d213_116 ?_
        refine pw_any (fun z117 hz117 ez117 => ?_)
        refine pw_istore_n d213_117 m213 rfl rfl ?_
        refine pw_iinc d213_118 m213 rfl rfl rfl ?_
        refine pw_goto d213_121 rfl ?_
        exact ih84 (z117) ((xL4_84 + 1)) (by omega) (by omega) (by omega) (by omega) (by omega)
      refine pw_iload d213_84 rfl ?_
      refine pw_aload_n d213_86 rfl ?_
      refine pw_getR d213_87 g213_9 hT hA0 rfl rfl (fun t87 => ?_)
      have t87 : τ (ρ a0 1) = some 40 := t87
      refine pw_iconst d213_90 ?_
      refine pw_ialdB d213_91 hT t87 rfl rfl (by omega) (by omega) (fun u91 => ?_)
      have u91 : pv_wok ((0 : Int)) (pv_aI h (ρ a0 1) ((0 : Int)).toNat) := u91
      have vu91 := u91.2.1 (by omega)
      refine pw_icmp_ge d213_92 rfl (by omega) (by omega) (fun c92 => ?_) (fun c92 => ?_)
      · refine pw_iload_n d213_124 rfl ?_
        exact pw_ireturn d213_125 tt213 ⟨rfl, xL3_84, rfl, (by omega), (by omega)⟩
      · refine pw_iload_n d213_95 rfl ?_
        refine pw_iconst d213_96 ?_
        refine pw_icmp_ne d213_97 rfl (by omega) (by omega) (fun c97 => ?_) (fun c97 => ?_)
        · refine pw_iload_n d213_124 rfl ?_
          exact pw_ireturn d213_125 tt213 ⟨rfl, xL3_84, rfl, (by omega), (by omega)⟩
        · refine pw_iload_n d213_100 rfl ?_
          refine pw_aload_n d213_101 rfl ?_
          refine pw_iload_n d213_102 rfl ?_
          refine pw_iload d213_103 rfl ?_
          refine pw_callV2 d213_105 k213_221 hT hA0 rfl rfl rfl (ct217 (τ := τ) (ρ := ρ) hT hA0 (by omega) (by omega)) (fun r105 h105 q105 => ?_)
          obtain ⟨eh105, z105, ez105, lz105, uz105⟩ := q105
          subst eh105
          subst ez105
          refine pw_if_eq d213_108 rfl (by omega) (fun c108 => ?_) (fun c108 => ?_)
          · refine pw_iconst d213_115 ?_
            exact J116 (0) _ (by omega) (by omega) (by omega) (by omega) (by omega)
          · refine pw_iconst d213_111 ?_
            refine pw_goto d213_112 rfl ?_
            exact J116 (1) _ (by omega) (by omega) (by omega) (by omega) (by omega)
  have J81 : ∀ (xL3_81 : Int) (o4_81 : Option Value), (0 ≤ x1 ∧ x1 ≤ 9) → (4 ≤ x2 ∧ x2 ≤ 5) → ((-2147483648) ≤ xL3_81 ∧ xL3_81 ≤ 2147483647) → pv_T K 213 81 (pv_fl [some (.ref a0), some (.int (pv_I x1)), some (.int (pv_I x2)), some (.int (pv_I xL3_81)), o4_81]) [] h (Q213 τ ρ h a0 x1 x2) := by
    intro xL3_81 o4_81 rL1_81 rL2_81 rL3_81
    refine pw_iconst d213_81 ?_
    refine pw_istore d213_82 m213 rfl rfl ?_
    exact L84 _ (xL3_81) (0) (by omega) (by omega) (by omega) (by omega) (pv_mu _)
  have L40 : ∀ (nn : Nat) (xL3_40 xL4_40 : Int), (0 ≤ x1 ∧ x1 ≤ 9) → (4 ≤ x2 ∧ x2 ≤ 5) → ((-2147483648) ≤ xL3_40 ∧ xL3_40 ≤ 2147483647) → (0 ≤ xL4_40 ∧ xL4_40 ≤ 18) → 18 - xL4_40 < nn → pv_T K 213 40 (pv_fl [some (.ref a0), some (.int (pv_I x1)), some (.int (pv_I x2)), some (.int (pv_I xL3_40)), some (.int (pv_I xL4_40))]) [] h (Q213 τ ρ h a0 x1 x2) := by
    intro nn
    induction nn with
    | zero => intro xL3_40 xL4_40 rL1_40 rL2_40 rL3_40 rL4_40 hm; exfalso; omega
    | succ nn ih40 =>
      intro xL3_40 xL4_40 rL1_40 rL2_40 rL3_40 rL4_40 hm40
      have J73 : ∀ (xS0_73 : Int) (o3_73 : Option Value), (0 ≤ x1 ∧ x1 ≤ 9) → (4 ≤ x2 ∧ x2 ≤ 4) → (0 ≤ xL4_40 ∧ xL4_40 ≤ 17) → (0 ≤ xS0_73 ∧ xS0_73 ≤ 1) → ((-2147483648) ≤ xL3_40 ∧ xL3_40 ≤ 2147483647) → pv_T K 213 73 (pv_fl [some (.ref a0), some (.int (pv_I x1)), some (.int (pv_I x2)), o3_73, some (.int (pv_I xL4_40))]) [.int (pv_I xS0_73), .int (pv_I xL3_40)] h (Q213 τ ρ h a0 x1 x2) := by
        intro xS0_73 o3_73 rL1_73 rL2_73 rL4_73 rS0_73 rS1_73
        refine pw_iadd d213_73 ?_
        refine pw_any (fun z74 hz74 ez74 => ?_)
        refine pw_istore_n d213_74 m213 rfl rfl ?_
        refine pw_iinc d213_75 m213 rfl rfl rfl ?_
        refine pw_goto d213_78 rfl ?_
        exact ih40 (z74) ((xL4_40 + 1)) (by omega) (by omega) (by omega) (by omega) (by omega)
      refine pw_iload d213_40 rfl ?_
      refine pw_aload_n d213_42 rfl ?_
      refine pw_callV0 d213_43 k213_216 hT hA0 rfl rfl rfl (ct216 (τ := τ) (ρ := ρ) hT hA0) (fun r43 h43 q43 => ?_)
      obtain ⟨eh43, z43, ez43, lz43, uz43, pz43_0⟩ := q43
      subst eh43
      subst ez43
      refine pw_icmp_ge d213_46 rfl (by omega) (by omega) (fun c46 => ?_) (fun c46 => ?_)
      · exact J81 (xL3_40) _ (by omega) (by omega) (by omega)
      · refine pw_iload_n d213_49 rfl ?_
        refine pw_iconst d213_50 ?_
        refine pw_icmp_ne d213_51 rfl (by omega) (by omega) (fun c51 => ?_) (fun c51 => ?_)
        · exact J81 (xL3_40) _ (by omega) (by omega) (by omega)
        · refine pw_iload_n d213_54 rfl ?_
          refine pw_aload_n d213_55 rfl ?_
          refine pw_getR d213_56 g213_9 hT hA0 rfl rfl (fun t56 => ?_)
          have t56 : τ (ρ a0 1) = some 40 := t56
          refine pw_iload d213_59 rfl ?_
          refine pw_iload_n d213_61 rfl ?_
          refine pw_callS3 d213_62 k213_156 rfl rfl (ct205w (τ := τ) (ρ := ρ) hT t56 (by omega) (by omega)) (fun r62 h62 q62 => ?_)
          obtain ⟨eh62, z62, ez62, lz62, uz62⟩ := q62
          subst eh62
          subst ez62
          refine pw_if_eq d213_65 rfl (by omega) (fun c65 => ?_) (fun c65 => ?_)
          · refine pw_iconst d213_72 ?_
            exact J73 (0) _ (by omega) (by omega) (by omega) (by omega) (by omega)
          · refine pw_iconst d213_68 ?_
            refine pw_goto d213_69 rfl ?_
            exact J73 (1) _ (by omega) (by omega) (by omega) (by omega) (by omega)
  refine pw_aload_n d213_0 rfl ?_
  refine pw_iload_n d213_1 rfl ?_
  refine pw_callV1 d213_2 k213_77 hT hA0 rfl rfl rfl (ct214 (τ := τ) (ρ := ρ) hT hA0 (by omega)) (fun r2 h2 q2 => ?_)
  obtain ⟨eh2, z2, ez2, lz2, uz2, pz2_0⟩ := q2
  subst eh2
  subst ez2
  refine pw_if_eq d213_5 rfl (by omega) (fun c5 => ?_) (fun c5 => ?_)
  · refine pw_bipush d213_20 (by decide) ?_
    exact pw_ireturn d213_22 tt213 ⟨rfl, (-2), rfl, (by omega), (by omega)⟩
  · refine pw_iload_n d213_8 rfl ?_
    refine pw_i2l d213_9 (by omega) ?_
    refine pw_lconst (z := 0) d213_10 (by decide) ?_
    refine pw_ldc2 (v := pv_J 5) d213_11 n213_11 ?_
    refine pw_callS3 d213_14 k213_73 rfl rfl (ct184 (τ := τ) (ρ := ρ) (by omega) (by omega) (by omega)) (fun r14 h14 q14 => ?_)
    obtain ⟨eh14, z14, ez14, lz14, uz14, pz14_0⟩ := q14
    subst eh14
    subst ez14
    refine pw_if_ne d213_17 rfl (by omega) (fun c17 => ?_) (fun c17 => ?_)
    · refine pw_iload_n d213_23 rfl ?_
      refine pw_iconst d213_24 ?_
      refine pw_icmp_ge d213_25 rfl (by omega) (by omega) (fun c25 => ?_) (fun c25 => ?_)
      · refine pw_iconst d213_35 ?_
        refine pw_istore_n d213_36 m213 rfl rfl ?_
        refine pw_iconst d213_37 ?_
        refine pw_istore d213_38 m213 rfl rfl ?_
        exact L40 _ (0) (0) (by omega) (by omega) (by omega) (by omega) (pv_mu _)
      · refine pw_aload_n d213_28 rfl ?_
        refine pw_iload_n d213_29 rfl ?_
        refine pw_iload_n d213_30 rfl ?_
        refine pw_callV2 d213_31 k213_232 hT hA0 rfl rfl rfl (ct215 (τ := τ) (ρ := ρ) hT hA0 (by omega) (by omega)) (fun r31 h31 q31 => ?_)
        obtain ⟨eh31, z31, ez31, lz31, uz31, pz31_0⟩ := q31
        subst eh31
        subst ez31
        exact pw_ireturn d213_34 tt213 ⟨rfl, z31, rfl, (by omega), (by omega)⟩
    · refine pw_bipush d213_20 (by decide) ?_
      exact pw_ireturn d213_22 tt213 ⟨rfl, (-2), rfl, (by omega), (by omega)⟩

abbrev Q219 (τ : Nat → Option Nat) (ρ : Nat → Nat → Nat) (h : pv_H) (a0 : Nat) (x1 : Int) (x2 : Int) : Option Value → pv_H → Prop := fun r h' => h = h' ∧ ∃ z : Int, r = some (.int (pv_I z)) ∧ (-2147483648) ≤ z ∧ z ≤ 2147483647
set_option maxHeartbeats 4000000 in
set_option maxRecDepth 20000 in
/-- AngleNetModel.side(II)I -/
theorem ct219 {τ : Nat → Option Nat} {ρ : Nat → Nat → Nat} {K : Nat → Nat} {h : pv_H} {a0 : Nat} {x1 : Int} {x2 : Int} (hT : pv_Ty τ ρ h) (hA0 : τ a0 = some 7) (hX1 : (-2147483648) ≤ x1 ∧ x1 ≤ 2147483647) (hX2 : (-2147483648) ≤ x2 ∧ x2 ≤ 2147483647) : pv_C K 219 [.ref a0, .int (pv_I x1), .int (pv_I x2)] h (Q219 τ ρ h a0 x1 x2) := by
  refine pw_entry 0 ?_
  show pv_T K 219 0 (pv_fl [some (.ref a0), some (.int (pv_I x1)), some (.int (pv_I x2))]) [] h (Q219 τ ρ h a0 x1 x2)
  refine pw_aload_n d219_0 rfl ?_
  refine pw_iload_n d219_1 rfl ?_
  refine pw_iload_n d219_2 rfl ?_
  refine pw_callV2 d219_3 k219_235 hT hA0 rfl rfl rfl (ct220 (τ := τ) (ρ := ρ) hT hA0 (by omega) (by omega)) (fun r3 h3 q3 => ?_)
  obtain ⟨eh3, z3, ez3, lz3, uz3, pz3_0⟩ := q3
  subst eh3
  subst ez3
  refine pw_if_eq d219_6 rfl (by omega) (fun c6 => ?_) (fun c6 => ?_)
  · refine pw_bipush d219_18 (by decide) ?_
    exact pw_ireturn d219_20 tt219 ⟨rfl, (-2), rfl, (by omega), (by omega)⟩
  · refine pw_aload_n d219_9 rfl ?_
    refine pw_iload_n d219_10 rfl ?_
    refine pw_iload_n d219_11 rfl ?_
    refine pw_callV2 d219_12 k219_214 hT hA0 rfl rfl rfl (ct218 (τ := τ) (ρ := ρ) hT hA0 (by omega) (by omega)) (fun r12 h12 q12 => ?_)
    obtain ⟨eh12, z12, ez12, lz12, uz12⟩ := q12
    subst eh12
    subst ez12
    refine pw_goto d219_15 rfl ?_
    exact pw_ireturn d219_20 tt219 ⟨rfl, z12, rfl, (by omega), (by omega)⟩

abbrev Q221 (τ : Nat → Option Nat) (ρ : Nat → Nat → Nat) (h : pv_H) (a0 : Nat) (x1 : Int) : Option Value → pv_H → Prop := fun r h' => h = h' ∧ ∃ z : Int, r = some (.int (pv_I z)) ∧ (-1) ≤ z ∧ z ≤ 99
set_option maxHeartbeats 4000000 in
set_option maxRecDepth 20000 in
/-- AngleNetModel.sides(I)I -/
theorem ct221 {τ : Nat → Option Nat} {ρ : Nat → Nat → Nat} {K : Nat → Nat} {h : pv_H} {a0 : Nat} {x1 : Int} (hT : pv_Ty τ ρ h) (hA0 : τ a0 = some 7) (hX1 : (-2147483648) ≤ x1 ∧ x1 ≤ 2147483647) : pv_C K 221 [.ref a0, .int (pv_I x1)] h (Q221 τ ρ h a0 x1) := by
  refine pw_entry 0 ?_
  show pv_T K 221 0 (pv_fl [some (.ref a0), some (.int (pv_I x1))]) [] h (Q221 τ ρ h a0 x1)
  refine pw_aload_n d221_0 rfl ?_
  refine pw_iload_n d221_1 rfl ?_
  refine pw_callV1 d221_2 k221_238 hT hA0 rfl rfl rfl (ct222 (τ := τ) (ρ := ρ) hT hA0 (by omega)) (fun r2 h2 q2 => ?_)
  obtain ⟨eh2, z2, ez2, lz2, uz2⟩ := q2
  subst eh2
  subst ez2
  exact pw_ireturn d221_5 tt221 ⟨rfl, z2, rfl, (by omega), (by omega)⟩

abbrev Q233 (τ : Nat → Option Nat) (ρ : Nat → Nat → Nat) (h : pv_H) (a0 : Nat) (x1 : Int) (x2 : Int) : Option Value → pv_H → Prop := fun r h' => h = h' ∧ ∃ z : Int, r = some (.int (pv_I z)) ∧ (-2147483648) ≤ z ∧ z ≤ 2147483647
set_option maxHeartbeats 4000000 in
set_option maxRecDepth 20000 in
/-- AngleNetModel.partFrom(IZ)I -/
theorem ct233 {τ : Nat → Option Nat} {ρ : Nat → Nat → Nat} {K : Nat → Nat} {h : pv_H} {a0 : Nat} {x1 : Int} {x2 : Int} (hT : pv_Ty τ ρ h) (hA0 : τ a0 = some 7) (hX1 : (-2147483648) ≤ x1 ∧ x1 ≤ 2147483647) (hX2 : 0 ≤ x2 ∧ x2 ≤ 1) : pv_C K 233 [.ref a0, .int (pv_I x1), .int (pv_I x2)] h (Q233 τ ρ h a0 x1 x2) := by
  refine pw_entry 5 ?_
  show pv_T K 233 0 (pv_fl [some (.ref a0), some (.int (pv_I x1)), some (.int (pv_I x2)), none, none, none, none, none]) [] h (Q233 τ ρ h a0 x1 x2)
  have L5 : ∀ (nn : Nat) (xL3_5 xL4_5 : Int) (o1_5 o5_5 o6_5 o7_5 : Option Value), (0 ≤ x2 ∧ x2 ≤ 1) → ((-2147483648) ≤ xL3_5 ∧ xL3_5 ≤ 2147483647) → (0 ≤ xL4_5 ∧ xL4_5 ≤ 10) → 10 - xL4_5 < nn → pv_T K 233 5 (pv_fl [some (.ref a0), o1_5, some (.int (pv_I x2)), some (.int (pv_I xL3_5)), some (.int (pv_I xL4_5)), o5_5, o6_5, o7_5]) [] h (Q233 τ ρ h a0 x1 x2) := by
    intro nn
    induction nn with
    | zero => intro xL3_5 xL4_5 o1_5 o5_5 o6_5 o7_5 rL2_5 rL3_5 rL4_5 hm; exfalso; omega
    | succ nn ih5 =>
      intro xL3_5 xL4_5 o1_5 o5_5 o6_5 o7_5 rL2_5 rL3_5 rL4_5 hm5
      have L15 : ∀ (nn : Nat) (xL3_15 xL5_15 : Int) (o1_15 o6_15 o7_15 : Option Value), (0 ≤ x2 ∧ x2 ≤ 1) → ((-2147483648) ≤ xL3_15 ∧ xL3_15 ≤ 2147483647) → (0 ≤ xL4_5 ∧ xL4_5 ≤ 9) → (0 ≤ xL5_15 ∧ xL5_15 ≤ 10) → 10 - xL5_15 < nn → pv_T K 233 15 (pv_fl [some (.ref a0), o1_15, some (.int (pv_I x2)), some (.int (pv_I xL3_15)), some (.int (pv_I xL4_5)), some (.int (pv_I xL5_15)), o6_15, o7_15]) [] h (Q233 τ ρ h a0 x1 x2) := by
        intro nn
        induction nn with
        | zero => intro xL3_15 xL5_15 o1_15 o6_15 o7_15 rL2_15 rL3_15 rL4_15 rL5_15 hm; exfalso; omega
        | succ nn ih15 =>
          intro xL3_15 xL5_15 o1_15 o6_15 o7_15 rL2_15 rL3_15 rL4_15 rL5_15 hm15
          have L29 : ∀ (nn : Nat) (xL3_29 xL6_29 : Int) (o1_29 o7_29 : Option Value), (0 ≤ x2 ∧ x2 ≤ 1) → ((-2147483648) ≤ xL3_29 ∧ xL3_29 ≤ 2147483647) → (0 ≤ xL4_5 ∧ xL4_5 ≤ 9) → (0 ≤ xL5_15 ∧ xL5_15 ≤ 9) → (0 ≤ xL6_29 ∧ xL6_29 ≤ 10) → 10 - xL6_29 < nn → pv_T K 233 29 (pv_fl [some (.ref a0), o1_29, some (.int (pv_I x2)), some (.int (pv_I xL3_29)), some (.int (pv_I xL4_5)), some (.int (pv_I xL5_15)), some (.int (pv_I xL6_29)), o7_29]) [] h (Q233 τ ρ h a0 x1 x2) := by
            intro nn
            induction nn with
            | zero => intro xL3_29 xL6_29 o1_29 o7_29 rL2_29 rL3_29 rL4_29 rL5_29 rL6_29 hm; exfalso; omega
            | succ nn ih29 =>
              intro xL3_29 xL6_29 o1_29 o7_29 rL2_29 rL3_29 rL4_29 rL5_29 rL6_29 hm29
              have J108 : ∀ (xS0_108 xS1_108 : Int) (o1_108 o3_108 o7_108 : Option Value), (0 ≤ x2 ∧ x2 ≤ 1) → (0 ≤ xL4_5 ∧ xL4_5 ≤ 9) → (0 ≤ xL5_15 ∧ xL5_15 ≤ 9) → (0 ≤ xL6_29 ∧ xL6_29 ≤ 9) → (0 ≤ xS0_108 ∧ xS0_108 ≤ 540) → ((-2147483648) ≤ xS1_108 ∧ xS1_108 ≤ 2147483647) → pv_T K 233 108 (pv_fl [some (.ref a0), o1_108, some (.int (pv_I x2)), o3_108, some (.int (pv_I xL4_5)), some (.int (pv_I xL5_15)), some (.int (pv_I xL6_29)), o7_108]) [.int (pv_I xS0_108), .int (pv_I xS1_108)] h (Q233 τ ρ h a0 x1 x2) := by
                intro xS0_108 xS1_108 o1_108 o3_108 o7_108 rL2_108 rL4_108 rL5_108 rL6_108 rS0_108 rS1_108
                refine pw_ior d233_108 (fun z108 hz108 ez108 => ?_)
                refine pw_istore_n d233_109 m233 rfl rfl ?_
                refine pw_iinc d233_110 m233 rfl rfl rfl ?_
                refine pw_goto d233_113 rfl ?_
                exact ih29 (z108) ((xL6_29 + 1)) _ _ (by omega) (by omega) (by omega) (by omega) (by omega) (by omega)
              have J107 : ∀ (xS0_107 : Int) (o1_107 o3_107 o7_107 : Option Value), (0 ≤ x2 ∧ x2 ≤ 1) → (0 ≤ xL4_5 ∧ xL4_5 ≤ 9) → (0 ≤ xL5_15 ∧ xL5_15 ≤ 9) → (0 ≤ xL6_29 ∧ xL6_29 ≤ 9) → ((-2147483648) ≤ xS0_107 ∧ xS0_107 ≤ 2147483647) → pv_T K 233 107 (pv_fl [some (.ref a0), o1_107, some (.int (pv_I x2)), o3_107, some (.int (pv_I xL4_5)), some (.int (pv_I xL5_15)), some (.int (pv_I xL6_29)), o7_107]) [.int (pv_I xS0_107)] h (Q233 τ ρ h a0 x1 x2) := by
                intro xS0_107 o1_107 o3_107 o7_107 rL2_107 rL4_107 rL5_107 rL6_107 rS0_107
                refine pw_iconst d233_107 ?_
                exact J108 (0) (xS0_107) _ _ _ (by omega) (by omega) (by omega) (by omega) (by omega) (by omega)
              have J82 : ∀ (xL3_82 xS0_82 : Int) (o1_82 o7_82 : Option Value), (0 ≤ x2 ∧ x2 ≤ 1) → ((-2147483648) ≤ xL3_82 ∧ xL3_82 ≤ 2147483647) → (0 ≤ xL4_5 ∧ xL4_5 ≤ 9) → (0 ≤ xL5_15 ∧ xL5_15 ≤ 9) → (0 ≤ xL6_29 ∧ xL6_29 ≤ 9) → (0 ≤ xS0_82 ∧ xS0_82 ≤ 1) → pv_T K 233 82 (pv_fl [some (.ref a0), o1_82, some (.int (pv_I x2)), some (.int (pv_I xL3_82)), some (.int (pv_I xL4_5)), some (.int (pv_I xL5_15)), some (.int (pv_I xL6_29)), o7_82]) [.int (pv_I xS0_82)] h (Q233 τ ρ h a0 x1 x2) := by
                intro xL3_82 xS0_82 o1_82 o7_82 rL2_82 rL3_82 rL4_82 rL5_82 rL6_82 rS0_82
                refine pw_istore d233_82 m233 rfl rfl ?_
                refine pw_iload_n d233_84 rfl ?_
                refine pw_iload d233_85 rfl ?_
                refine pw_if_eq d233_87 rfl (by omega) (fun c87 => ?_) (fun c87 => ?_)
                · exact J107 (xL3_82) _ _ _ (by omega) (by omega) (by omega) (by omega) (by omega)
                · refine pw_iload_n d233_90 rfl ?_
                  refine pw_iload d233_91 rfl ?_
                  refine pw_ishr d233_93 (fun z93 hz93 ez93 => ?_)
                  refine pw_iconst d233_94 ?_
                  refine pw_iand d233_95 (fun z95 hz95 ez95 => ?_)
                  have bz95 := pv_and1_b hz95 ez95
                  refine pw_iconst d233_96 ?_
                  refine pw_icmp_ne d233_97 rfl (by omega) (by omega) (fun c97 => ?_) (fun c97 => ?_)
                  · exact J107 (xL3_82) _ _ _ (by omega) (by omega) (by omega) (by omega) (by omega)
                  · refine pw_iconst d233_100 ?_
                    refine pw_iload d233_101 rfl ?_
                    refine pw_ishl d233_103 (fun z103 hz103 ez103 => ?_)
                    have bz103 := pv_shl1_b (n := 9) (m := 512) (y := xL6_29) (by omega) (by omega) (by decide) (by decide) hz103 ez103
                    refine pw_goto d233_104 rfl ?_
                    exact J108 (z103) (xL3_82) _ _ _ (by omega) (by omega) (by omega) (by omega) (by omega) (by omega)
              have J81 : ∀ (xL3_81 : Int) (o1_81 o7_81 : Option Value), (0 ≤ x2 ∧ x2 ≤ 1) → ((-2147483648) ≤ xL3_81 ∧ xL3_81 ≤ 2147483647) → (0 ≤ xL4_5 ∧ xL4_5 ≤ 9) → (0 ≤ xL5_15 ∧ xL5_15 ≤ 9) → (0 ≤ xL6_29 ∧ xL6_29 ≤ 9) → pv_T K 233 81 (pv_fl [some (.ref a0), o1_81, some (.int (pv_I x2)), some (.int (pv_I xL3_81)), some (.int (pv_I xL4_5)), some (.int (pv_I xL5_15)), some (.int (pv_I xL6_29)), o7_81]) [] h (Q233 τ ρ h a0 x1 x2) := by
                intro xL3_81 o1_81 o7_81 rL2_81 rL3_81 rL4_81 rL5_81 rL6_81
                refine pw_iconst d233_81 ?_
                exact J82 (xL3_81) (0) _ _ (by omega) (by omega) (by omega) (by omega) (by omega) (by omega)
              have J77 : ∀ (xL3_77 : Int) (o1_77 o7_77 : Option Value), (0 ≤ x2 ∧ x2 ≤ 1) → ((-2147483648) ≤ xL3_77 ∧ xL3_77 ≤ 2147483647) → (0 ≤ xL4_5 ∧ xL4_5 ≤ 9) → (0 ≤ xL5_15 ∧ xL5_15 ≤ 9) → (0 ≤ xL6_29 ∧ xL6_29 ≤ 9) → pv_T K 233 77 (pv_fl [some (.ref a0), o1_77, some (.int (pv_I x2)), some (.int (pv_I xL3_77)), some (.int (pv_I xL4_5)), some (.int (pv_I xL5_15)), some (.int (pv_I xL6_29)), o7_77]) [] h (Q233 τ ρ h a0 x1 x2) := by
                intro xL3_77 o1_77 o7_77 rL2_77 rL3_77 rL4_77 rL5_77 rL6_77
                refine pw_iconst d233_77 ?_
                refine pw_goto d233_78 rfl ?_
                exact J82 (xL3_77) (1) _ _ (by omega) (by omega) (by omega) (by omega) (by omega) (by omega)
              refine pw_iload d233_29 rfl ?_
              refine pw_aload_n d233_31 rfl ?_
              refine pw_getR d233_32 g233_9 hT hA0 rfl rfl (fun t32 => ?_)
              have t32 : τ (ρ a0 1) = some 40 := t32
              refine pw_iconst d233_35 ?_
              refine pw_ialdB d233_36 hT t32 rfl rfl (by omega) (by omega) (fun u36 => ?_)
              have u36 : pv_wok ((0 : Int)) (pv_aI h (ρ a0 1) ((0 : Int)).toNat) := u36
              have vu36 := u36.2.1 (by omega)
              refine pw_icmp_ge d233_37 rfl (by omega) (by omega) (fun c37 => ?_) (fun c37 => ?_)
              · refine pw_iinc d233_116 m233 rfl rfl rfl ?_
                refine pw_goto d233_119 rfl ?_
                exact ih15 (xL3_29) ((xL5_15 + 1)) _ _ _ (by omega) (by omega) (by omega) (by omega) (by omega)
              · refine pw_iload d233_40 rfl ?_
                refine pw_iload d233_42 rfl ?_
                refine pw_icmp_eq d233_44 rfl (by omega) (by omega) (fun c44 => ?_) (fun c44 => ?_)
                · exact J81 (xL3_29) _ _ (by omega) (by omega) (by omega) (by omega) (by omega)
                · refine pw_iload_n d233_47 rfl ?_
                  refine pw_if_eq d233_48 rfl (by omega) (fun c48 => ?_) (fun c48 => ?_)
                  · refine pw_aload_n d233_66 rfl ?_
                    refine pw_iload d233_67 rfl ?_
                    refine pw_iload d233_69 rfl ?_
                    refine pw_callV2 d233_71 k233_214 hT hA0 rfl rfl rfl (ct218 (τ := τ) (ρ := ρ) hT hA0 (by omega) (by omega)) (fun r71 h71 q71 => ?_)
                    obtain ⟨eh71, z71, ez71, lz71, uz71⟩ := q71
                    subst eh71
                    subst ez71
                    refine pw_if_le d233_74 rfl (by omega) (fun c74 => ?_) (fun c74 => ?_)
                    · exact J81 (xL3_29) _ _ (by omega) (by omega) (by omega) (by omega) (by omega)
                    · exact J77 (xL3_29) _ _ (by omega) (by omega) (by omega) (by omega) (by omega)
                  · refine pw_aload_n d233_51 rfl ?_
                    refine pw_iload d233_52 rfl ?_
                    refine pw_iload d233_54 rfl ?_
                    refine pw_callV2 d233_56 k233_214 hT hA0 rfl rfl rfl (ct218 (τ := τ) (ρ := ρ) hT hA0 (by omega) (by omega)) (fun r56 h56 q56 => ?_)
                    obtain ⟨eh56, z56, ez56, lz56, uz56⟩ := q56
                    subst eh56
                    subst ez56
                    refine pw_iconst d233_59 ?_
                    refine pw_icmp_ne d233_60 rfl (by omega) (by omega) (fun c60 => ?_) (fun c60 => ?_)
                    · exact J81 (xL3_29) _ _ (by omega) (by omega) (by omega) (by omega) (by omega)
                    · refine pw_goto d233_63 rfl ?_
                      exact J77 (xL3_29) _ _ (by omega) (by omega) (by omega) (by omega) (by omega)
          refine pw_iload d233_15 rfl ?_
          refine pw_aload_n d233_17 rfl ?_
          refine pw_getR d233_18 g233_9 hT hA0 rfl rfl (fun t18 => ?_)
          have t18 : τ (ρ a0 1) = some 40 := t18
          refine pw_iconst d233_21 ?_
          refine pw_ialdB d233_22 hT t18 rfl rfl (by omega) (by omega) (fun u22 => ?_)
          have u22 : pv_wok ((0 : Int)) (pv_aI h (ρ a0 1) ((0 : Int)).toNat) := u22
          have vu22 := u22.2.1 (by omega)
          refine pw_icmp_ge d233_23 rfl (by omega) (by omega) (fun c23 => ?_) (fun c23 => ?_)
          · refine pw_iinc d233_122 m233 rfl rfl rfl ?_
            refine pw_goto d233_125 rfl ?_
            exact ih5 (xL3_15) ((xL4_5 + 1)) _ _ _ _ (by omega) (by omega) (by omega) (by omega)
          · refine pw_iconst d233_26 ?_
            refine pw_istore d233_27 m233 rfl rfl ?_
            exact L29 _ (xL3_15) (0) _ _ (by omega) (by omega) (by omega) (by omega) (by omega) (pv_mu _)
      refine pw_iload d233_5 rfl ?_
      refine pw_bipush d233_7 (by decide) ?_
      refine pw_icmp_ge d233_9 rfl (by omega) (by omega) (fun c9 => ?_) (fun c9 => ?_)
      · refine pw_iload_n d233_128 rfl ?_
        exact pw_ireturn d233_129 tt233 ⟨rfl, xL3_5, rfl, (by omega), (by omega)⟩
      · refine pw_iconst d233_12 ?_
        refine pw_istore d233_13 m233 rfl rfl ?_
        exact L15 _ (xL3_5) (0) _ _ _ (by omega) (by omega) (by omega) (by omega) (pv_mu _)
  refine pw_iload_n d233_0 rfl ?_
  refine pw_istore_n d233_1 m233 rfl rfl ?_
  refine pw_iconst d233_2 ?_
  refine pw_istore d233_3 m233 rfl rfl ?_
  exact L5 _ (x1) (0) _ _ _ _ (by omega) (by omega) (by omega) (pv_mu _)

abbrev Q232 (τ : Nat → Option Nat) (ρ : Nat → Nat → Nat) (h : pv_H) (a0 : Nat) (x1 : Int) (x2 : Int) : Option Value → pv_H → Prop := fun r h' => h = h' ∧ ∃ z : Int, r = some (.int (pv_I z)) ∧ (-2147483648) ≤ z ∧ z ≤ 2147483647
set_option maxHeartbeats 4000000 in
set_option maxRecDepth 20000 in
/-- AngleNetModel.partsOf(IZ)I -/
theorem ct232 {τ : Nat → Option Nat} {ρ : Nat → Nat → Nat} {K : Nat → Nat} {h : pv_H} {a0 : Nat} {x1 : Int} {x2 : Int} (hT : pv_Ty τ ρ h) (hA0 : τ a0 = some 7) (hX1 : (-2147483648) ≤ x1 ∧ x1 ≤ 2147483647) (hX2 : 0 ≤ x2 ∧ x2 ≤ 1) : pv_C K 232 [.ref a0, .int (pv_I x1), .int (pv_I x2)] h (Q232 τ ρ h a0 x1 x2) := by
  refine pw_entry 3 ?_
  show pv_T K 232 0 (pv_fl [some (.ref a0), some (.int (pv_I x1)), some (.int (pv_I x2)), none, none, none]) [] h (Q232 τ ρ h a0 x1 x2)
  have L8 : ∀ (nn : Nat) (xL3_8 xL4_8 xL5_8 : Int) (o1_8 : Option Value), (0 ≤ x2 ∧ x2 ≤ 1) → ((-2147483648) ≤ xL3_8 ∧ xL3_8 ≤ 2147483647) → ((-2147483648) ≤ xL4_8 ∧ xL4_8 ≤ 2147483647) → (0 ≤ xL5_8 ∧ xL5_8 ≤ 10) → 10 - xL5_8 < nn → pv_T K 232 8 (pv_fl [some (.ref a0), o1_8, some (.int (pv_I x2)), some (.int (pv_I xL3_8)), some (.int (pv_I xL4_8)), some (.int (pv_I xL5_8))]) [] h (Q232 τ ρ h a0 x1 x2) := by
    intro nn
    induction nn with
    | zero => intro xL3_8 xL4_8 xL5_8 o1_8 rL2_8 rL3_8 rL4_8 rL5_8 hm; exfalso; omega
    | succ nn ih8 =>
      intro xL3_8 xL4_8 xL5_8 o1_8 rL2_8 rL3_8 rL4_8 rL5_8 hm8
      have J51 : ∀ (xL3_51 xL4_51 : Int) (o1_51 : Option Value), (0 ≤ x2 ∧ x2 ≤ 1) → ((-2147483648) ≤ xL3_51 ∧ xL3_51 ≤ 2147483647) → ((-2147483648) ≤ xL4_51 ∧ xL4_51 ≤ 2147483647) → (0 ≤ xL5_8 ∧ xL5_8 ≤ 9) → pv_T K 232 51 (pv_fl [some (.ref a0), o1_51, some (.int (pv_I x2)), some (.int (pv_I xL3_51)), some (.int (pv_I xL4_51)), some (.int (pv_I xL5_8))]) [] h (Q232 τ ρ h a0 x1 x2) := by
        intro xL3_51 xL4_51 o1_51 rL2_51 rL3_51 rL4_51 rL5_51
        refine pw_iinc d232_51 m232 rfl rfl rfl ?_
        refine pw_goto d232_54 rfl ?_
        exact ih8 (xL3_51) (xL4_51) ((xL5_8 + 1)) _ (by omega) (by omega) (by omega) (by omega) (by omega)
      refine pw_iload d232_8 rfl ?_
      refine pw_aload_n d232_10 rfl ?_
      refine pw_getR d232_11 g232_9 hT hA0 rfl rfl (fun t11 => ?_)
      have t11 : τ (ρ a0 1) = some 40 := t11
      refine pw_iconst d232_14 ?_
      refine pw_ialdB d232_15 hT t11 rfl rfl (by omega) (by omega) (fun u15 => ?_)
      have u15 : pv_wok ((0 : Int)) (pv_aI h (ρ a0 1) ((0 : Int)).toNat) := u15
      have vu15 := u15.2.1 (by omega)
      refine pw_icmp_ge d232_16 rfl (by omega) (by omega) (fun c16 => ?_) (fun c16 => ?_)
      · refine pw_iload_n d232_57 rfl ?_
        exact pw_ireturn d232_58 tt232 ⟨rfl, xL3_8, rfl, (by omega), (by omega)⟩
      · refine pw_iload d232_19 rfl ?_
        refine pw_iload d232_21 rfl ?_
        refine pw_ishr d232_23 (fun z23 hz23 ez23 => ?_)
        refine pw_iconst d232_24 ?_
        refine pw_iand d232_25 (fun z25 hz25 ez25 => ?_)
        have bz25 := pv_and1_b hz25 ez25
        refine pw_if_ne d232_26 rfl (by omega) (fun c26 => ?_) (fun c26 => ?_)
        · refine pw_iload d232_32 rfl ?_
          refine pw_aload_n d232_34 rfl ?_
          refine pw_iconst d232_35 ?_
          refine pw_iload d232_36 rfl ?_
          refine pw_ishl d232_38 (fun z38 hz38 ez38 => ?_)
          have bz38 := pv_shl1_b (n := 9) (m := 512) (y := xL5_8) (by omega) (by omega) (by decide) (by decide) hz38 ez38
          refine pw_iload_n d232_39 rfl ?_
          refine pw_callV2 d232_40 k232_241 hT hA0 rfl rfl rfl (ct233 (τ := τ) (ρ := ρ) hT hA0 (by omega) (by omega)) (fun r40 h40 q40 => ?_)
          obtain ⟨eh40, z40, ez40, lz40, uz40⟩ := q40
          subst eh40
          subst ez40
          refine pw_iconst d232_43 ?_
          refine pw_ixor d232_44 (fun z44 hz44 ez44 => ?_)
          refine pw_iand d232_45 (fun z45 hz45 ez45 => ?_)
          refine pw_istore d232_46 m232 rfl rfl ?_
          refine pw_iincU d232_48 m232 rfl rfl rfl (fun z48 hz48 => ?_)
          exact J51 (z48) (z45) _ (by omega) (by omega) (by omega) (by omega)
        · refine pw_goto d232_29 rfl ?_
          exact J51 (xL3_8) (xL4_8) _ (by omega) (by omega) (by omega) (by omega)
  refine pw_iconst d232_0 ?_
  refine pw_istore_n d232_1 m232 rfl rfl ?_
  refine pw_iload_n d232_2 rfl ?_
  refine pw_istore d232_3 m232 rfl rfl ?_
  refine pw_iconst d232_5 ?_
  refine pw_istore d232_6 m232 rfl rfl ?_
  exact L8 _ (0) (x1) (0) _ (by omega) (by omega) (by omega) (by omega) (pv_mu _)

abbrev Q238 (τ : Nat → Option Nat) (ρ : Nat → Nat → Nat) (h : pv_H) (a0 : Nat) : Option Value → pv_H → Prop := fun r h' => h = h' ∧ ∃ z : Int, r = some (.int (pv_I z)) ∧ 0 ≤ z ∧ z ≤ 1023
set_option maxHeartbeats 4000000 in
set_option maxRecDepth 20000 in
/-- AngleNetModel.rimPosts()I -/
theorem ct238 {τ : Nat → Option Nat} {ρ : Nat → Nat → Nat} {K : Nat → Nat} {h : pv_H} {a0 : Nat} (hT : pv_Ty τ ρ h) (hA0 : τ a0 = some 7) : pv_C K 238 [.ref a0] h (Q238 τ ρ h a0) := by
  refine pw_entry 3 ?_
  show pv_T K 238 0 (pv_fl [some (.ref a0), none, none, none]) [] h (Q238 τ ρ h a0)
  have L4 : ∀ (nn : Nat) (xL1_4 xL2_4 : Int) (o3_4 : Option Value), (0 ≤ xL1_4 ∧ xL1_4 ≤ 1023) → (0 ≤ xL2_4 ∧ xL2_4 ≤ 10) → 10 - xL2_4 < nn → pv_T K 238 4 (pv_fl [some (.ref a0), some (.int (pv_I xL1_4)), some (.int (pv_I xL2_4)), o3_4]) [] h (Q238 τ ρ h a0) := by
    intro nn
    induction nn with
    | zero => intro xL1_4 xL2_4 o3_4 rL1_4 rL2_4 hm; exfalso; omega
    | succ nn ih4 =>
      intro xL1_4 xL2_4 o3_4 rL1_4 rL2_4 hm4
      have L16 : ∀ (nn : Nat) (xL1_16 xL3_16 : Int), (0 ≤ xL1_16 ∧ xL1_16 ≤ 1023) → (0 ≤ xL2_4 ∧ xL2_4 ≤ 9) → (0 ≤ xL3_16 ∧ xL3_16 ≤ 10) → 10 - xL3_16 < nn → pv_T K 238 16 (pv_fl [some (.ref a0), some (.int (pv_I xL1_16)), some (.int (pv_I xL2_4)), some (.int (pv_I xL3_16))]) [] h (Q238 τ ρ h a0) := by
        intro nn
        induction nn with
        | zero => intro xL1_16 xL3_16 rL1_16 rL2_16 rL3_16 hm; exfalso; omega
        | succ nn ih16 =>
          intro xL1_16 xL3_16 rL1_16 rL2_16 rL3_16 hm16
          have J49 : ∀ (xS0_49 xS1_49 : Int) (o1_49 : Option Value), (0 ≤ xL2_4 ∧ xL2_4 ≤ 9) → (0 ≤ xL3_16 ∧ xL3_16 ≤ 9) → (0 ≤ xS0_49 ∧ xS0_49 ≤ 540) → (0 ≤ xS1_49 ∧ xS1_49 ≤ 1023) → pv_T K 238 49 (pv_fl [some (.ref a0), o1_49, some (.int (pv_I xL2_4)), some (.int (pv_I xL3_16))]) [.int (pv_I xS0_49), .int (pv_I xS1_49)] h (Q238 τ ρ h a0) := by
            intro xS0_49 xS1_49 o1_49 rL2_49 rL3_49 rS0_49 rS1_49
            refine pw_ior d238_49 (fun z49 hz49 ez49 => ?_)
            have bz49 := pv_or_b (n := 10) (m := 1024) (x := xS1_49) (y := xS0_49) (by omega) (by omega) (by omega) (by omega) (by decide) (by decide) hz49 ez49
            refine pw_istore_n d238_50 m238 rfl rfl ?_
            refine pw_iinc d238_51 m238 rfl rfl rfl ?_
            refine pw_goto d238_54 rfl ?_
            exact ih16 (z49) ((xL3_16 + 1)) (by omega) (by omega) (by omega) (by omega)
          have J48 : ∀ (xS0_48 : Int) (o1_48 : Option Value), (0 ≤ xL2_4 ∧ xL2_4 ≤ 9) → (0 ≤ xL3_16 ∧ xL3_16 ≤ 9) → (0 ≤ xS0_48 ∧ xS0_48 ≤ 1023) → pv_T K 238 48 (pv_fl [some (.ref a0), o1_48, some (.int (pv_I xL2_4)), some (.int (pv_I xL3_16))]) [.int (pv_I xS0_48)] h (Q238 τ ρ h a0) := by
            intro xS0_48 o1_48 rL2_48 rL3_48 rS0_48
            refine pw_iconst d238_48 ?_
            exact J49 (0) (xS0_48) _ (by omega) (by omega) (by omega) (by omega)
          refine pw_iload_n d238_16 rfl ?_
          refine pw_aload_n d238_17 rfl ?_
          refine pw_getR d238_18 g238_9 hT hA0 rfl rfl (fun t18 => ?_)
          have t18 : τ (ρ a0 1) = some 40 := t18
          refine pw_iconst d238_21 ?_
          refine pw_ialdB d238_22 hT t18 rfl rfl (by omega) (by omega) (fun u22 => ?_)
          have u22 : pv_wok ((0 : Int)) (pv_aI h (ρ a0 1) ((0 : Int)).toNat) := u22
          have vu22 := u22.2.1 (by omega)
          refine pw_icmp_ge d238_23 rfl (by omega) (by omega) (fun c23 => ?_) (fun c23 => ?_)
          · refine pw_iinc d238_57 m238 rfl rfl rfl ?_
            refine pw_goto d238_60 rfl ?_
            exact ih4 (xL1_16) ((xL2_4 + 1)) _ (by omega) (by omega) (by omega)
          · refine pw_iload_n d238_26 rfl ?_
            refine pw_iload_n d238_27 rfl ?_
            refine pw_iload_n d238_28 rfl ?_
            refine pw_icmp_eq d238_29 rfl (by omega) (by omega) (fun c29 => ?_) (fun c29 => ?_)
            · exact J48 (xL1_16) _ (by omega) (by omega) (by omega)
            · refine pw_aload_n d238_32 rfl ?_
              refine pw_iload_n d238_33 rfl ?_
              refine pw_iload_n d238_34 rfl ?_
              refine pw_callV2 d238_35 k238_214 hT hA0 rfl rfl rfl (ct218 (τ := τ) (ρ := ρ) hT hA0 (by omega) (by omega)) (fun r35 h35 q35 => ?_)
              obtain ⟨eh35, z35, ez35, lz35, uz35⟩ := q35
              subst eh35
              subst ez35
              refine pw_iconst d238_38 ?_
              refine pw_icmp_ne d238_39 rfl (by omega) (by omega) (fun c39 => ?_) (fun c39 => ?_)
              · exact J48 (xL1_16) _ (by omega) (by omega) (by omega)
              · refine pw_iconst d238_42 ?_
                refine pw_iload_n d238_43 rfl ?_
                refine pw_ishl d238_44 (fun z44 hz44 ez44 => ?_)
                have bz44 := pv_shl1_b (n := 9) (m := 512) (y := xL2_4) (by omega) (by omega) (by decide) (by decide) hz44 ez44
                refine pw_goto d238_45 rfl ?_
                exact J49 (z44) (xL1_16) _ (by omega) (by omega) (by omega) (by omega)
      refine pw_iload_n d238_4 rfl ?_
      refine pw_aload_n d238_5 rfl ?_
      refine pw_getR d238_6 g238_9 hT hA0 rfl rfl (fun t6 => ?_)
      have t6 : τ (ρ a0 1) = some 40 := t6
      refine pw_iconst d238_9 ?_
      refine pw_ialdB d238_10 hT t6 rfl rfl (by omega) (by omega) (fun u10 => ?_)
      have u10 : pv_wok ((0 : Int)) (pv_aI h (ρ a0 1) ((0 : Int)).toNat) := u10
      have vu10 := u10.2.1 (by omega)
      refine pw_icmp_ge d238_11 rfl (by omega) (by omega) (fun c11 => ?_) (fun c11 => ?_)
      · refine pw_iload_n d238_63 rfl ?_
        exact pw_ireturn d238_64 tt238 ⟨rfl, xL1_4, rfl, (by omega), (by omega)⟩
      · refine pw_iconst d238_14 ?_
        refine pw_istore_n d238_15 m238 rfl rfl ?_
        exact L16 _ (xL1_4) (0) (by omega) (by omega) (by omega) (pv_mu _)
  refine pw_iconst d238_0 ?_
  refine pw_istore_n d238_1 m238 rfl rfl ?_
  refine pw_iconst d238_2 ?_
  refine pw_istore_n d238_3 m238 rfl rfl ?_
  exact L4 _ (0) (0) _ (by omega) (by omega) (pv_mu _)

abbrev Q237 (τ : Nat → Option Nat) (ρ : Nat → Nat → Nat) (h : pv_H) (a0 : Nat) : Option Value → pv_H → Prop := fun r h' => h = h' ∧ ∃ z : Int, r = some (.int (pv_I z)) ∧ (-2147483648) ≤ z ∧ z ≤ 2147483647
set_option maxHeartbeats 4000000 in
set_option maxRecDepth 20000 in
/-- AngleNetModel.rimMany()I -/
theorem ct237 {τ : Nat → Option Nat} {ρ : Nat → Nat → Nat} {K : Nat → Nat} {h : pv_H} {a0 : Nat} (hT : pv_Ty τ ρ h) (hA0 : τ a0 = some 7) : pv_C K 237 [.ref a0] h (Q237 τ ρ h a0) := by
  refine pw_entry 3 ?_
  show pv_T K 237 0 (pv_fl [some (.ref a0), none, none, none]) [] h (Q237 τ ρ h a0)
  have L4 : ∀ (nn : Nat) (xL1_4 xL2_4 : Int) (o3_4 : Option Value), ((-2147483648) ≤ xL1_4 ∧ xL1_4 ≤ 2147483647) → (0 ≤ xL2_4 ∧ xL2_4 ≤ 10) → 10 - xL2_4 < nn → pv_T K 237 4 (pv_fl [some (.ref a0), some (.int (pv_I xL1_4)), some (.int (pv_I xL2_4)), o3_4]) [] h (Q237 τ ρ h a0) := by
    intro nn
    induction nn with
    | zero => intro xL1_4 xL2_4 o3_4 rL1_4 rL2_4 hm; exfalso; omega
    | succ nn ih4 =>
      intro xL1_4 xL2_4 o3_4 rL1_4 rL2_4 hm4
      have L16 : ∀ (nn : Nat) (xL1_16 xL3_16 : Int), ((-2147483648) ≤ xL1_16 ∧ xL1_16 ≤ 2147483647) → (0 ≤ xL2_4 ∧ xL2_4 ≤ 9) → (0 ≤ xL3_16 ∧ xL3_16 ≤ 10) → 10 - xL3_16 < nn → pv_T K 237 16 (pv_fl [some (.ref a0), some (.int (pv_I xL1_16)), some (.int (pv_I xL2_4)), some (.int (pv_I xL3_16))]) [] h (Q237 τ ρ h a0) := by
        intro nn
        induction nn with
        | zero => intro xL1_16 xL3_16 rL1_16 rL2_16 rL3_16 hm; exfalso; omega
        | succ nn ih16 =>
          intro xL1_16 xL3_16 rL1_16 rL2_16 rL3_16 hm16
          have J37 : ∀ (xS0_37 xS1_37 : Int) (o1_37 : Option Value), (1 ≤ xL2_4 ∧ xL2_4 ≤ 9) → (0 ≤ xL3_16 ∧ xL3_16 ≤ 9) → (0 ≤ xS0_37 ∧ xS0_37 ≤ 1) → ((-2147483648) ≤ xS1_37 ∧ xS1_37 ≤ 2147483647) → pv_T K 237 37 (pv_fl [some (.ref a0), o1_37, some (.int (pv_I xL2_4)), some (.int (pv_I xL3_16))]) [.int (pv_I xS0_37), .int (pv_I xS1_37)] h (Q237 τ ρ h a0) := by
            intro xS0_37 xS1_37 o1_37 rL2_37 rL3_37 rS0_37 rS1_37
            refine pw_iadd d237_37 ?_
            refine pw_any (fun z38 hz38 ez38 => ?_)
            refine pw_istore_n d237_38 m237 rfl rfl ?_
            refine pw_iinc d237_39 m237 rfl rfl rfl ?_
            refine pw_goto d237_42 rfl ?_
            exact ih16 (z38) ((xL3_16 + 1)) (by omega) (by omega) (by omega) (by omega)
          refine pw_iload_n d237_16 rfl ?_
          refine pw_iload_n d237_17 rfl ?_
          refine pw_icmp_ge d237_18 rfl (by omega) (by omega) (fun c18 => ?_) (fun c18 => ?_)
          · refine pw_iinc d237_45 m237 rfl rfl rfl ?_
            refine pw_goto d237_48 rfl ?_
            exact ih4 (xL1_16) ((xL2_4 + 1)) _ (by omega) (by omega) (by omega)
          · refine pw_iload_n d237_21 rfl ?_
            refine pw_aload_n d237_22 rfl ?_
            refine pw_iload_n d237_23 rfl ?_
            refine pw_iload_n d237_24 rfl ?_
            refine pw_callV2 d237_25 k237_214 hT hA0 rfl rfl rfl (ct218 (τ := τ) (ρ := ρ) hT hA0 (by omega) (by omega)) (fun r25 h25 q25 => ?_)
            obtain ⟨eh25, z25, ez25, lz25, uz25⟩ := q25
            subst eh25
            subst ez25
            refine pw_iconst d237_28 ?_
            refine pw_icmp_ne d237_29 rfl (by omega) (by omega) (fun c29 => ?_) (fun c29 => ?_)
            · refine pw_iconst d237_36 ?_
              exact J37 (0) (xL1_16) _ (by omega) (by omega) (by omega) (by omega)
            · refine pw_iconst d237_32 ?_
              refine pw_goto d237_33 rfl ?_
              exact J37 (1) (xL1_16) _ (by omega) (by omega) (by omega) (by omega)
      refine pw_iload_n d237_4 rfl ?_
      refine pw_aload_n d237_5 rfl ?_
      refine pw_getR d237_6 g237_9 hT hA0 rfl rfl (fun t6 => ?_)
      have t6 : τ (ρ a0 1) = some 40 := t6
      refine pw_iconst d237_9 ?_
      refine pw_ialdB d237_10 hT t6 rfl rfl (by omega) (by omega) (fun u10 => ?_)
      have u10 : pv_wok ((0 : Int)) (pv_aI h (ρ a0 1) ((0 : Int)).toNat) := u10
      have vu10 := u10.2.1 (by omega)
      refine pw_icmp_ge d237_11 rfl (by omega) (by omega) (fun c11 => ?_) (fun c11 => ?_)
      · refine pw_iload_n d237_51 rfl ?_
        exact pw_ireturn d237_52 tt237 ⟨rfl, xL1_4, rfl, (by omega), (by omega)⟩
      · refine pw_iconst d237_14 ?_
        refine pw_istore_n d237_15 m237 rfl rfl ?_
        exact L16 _ (xL1_4) (0) (by omega) (by omega) (by omega) (pv_mu _)
  refine pw_iconst d237_0 ?_
  refine pw_istore_n d237_1 m237 rfl rfl ?_
  refine pw_iconst d237_2 ?_
  refine pw_istore_n d237_3 m237 rfl rfl ?_
  exact L4 _ (0) (0) _ (by omega) (by omega) (pv_mu _)

abbrev Q231 (τ : Nat → Option Nat) (ρ : Nat → Nat → Nat) (h : pv_H) (a0 : Nat) (x1 : Int) (x2 : Int) (x3 : Int) : Option Value → pv_H → Prop := fun r h' => h = h' ∧ ∃ z : Int, r = some (.int (pv_I z)) ∧ 0 ≤ z ∧ z ≤ 1
set_option maxHeartbeats 4000000 in
set_option maxRecDepth 20000 in
/-- AngleNetModel.shareBeside(III)Z -/
theorem ct231 {τ : Nat → Option Nat} {ρ : Nat → Nat → Nat} {K : Nat → Nat} {h : pv_H} {a0 : Nat} {x1 : Int} {x2 : Int} {x3 : Int} (hT : pv_Ty τ ρ h) (hA0 : τ a0 = some 7) (hX1 : 0 ≤ x1 ∧ x1 ≤ 17) (hX2 : 0 ≤ x2 ∧ x2 ≤ 17) (hX3 : (-2147483648) ≤ x3 ∧ x3 ≤ 2147483647) : pv_C K 231 [.ref a0, .int (pv_I x1), .int (pv_I x2), .int (pv_I x3)] h (Q231 τ ρ h a0 x1 x2 x3) := by
  refine pw_entry 1 ?_
  show pv_T K 231 0 (pv_fl [some (.ref a0), some (.int (pv_I x1)), some (.int (pv_I x2)), some (.int (pv_I x3)), none]) [] h (Q231 τ ρ h a0 x1 x2 x3)
  have L3 : ∀ (nn : Nat) (xL4_3 : Int), (0 ≤ x1 ∧ x1 ≤ 17) → (0 ≤ x2 ∧ x2 ≤ 17) → ((-2147483648) ≤ x3 ∧ x3 ≤ 2147483647) → (0 ≤ xL4_3 ∧ xL4_3 ≤ 10) → 10 - xL4_3 < nn → pv_T K 231 3 (pv_fl [some (.ref a0), some (.int (pv_I x1)), some (.int (pv_I x2)), some (.int (pv_I x3)), some (.int (pv_I xL4_3))]) [] h (Q231 τ ρ h a0 x1 x2 x3) := by
    intro nn
    induction nn with
    | zero => intro xL4_3 rL1_3 rL2_3 rL3_3 rL4_3 hm; exfalso; omega
    | succ nn ih3 =>
      intro xL4_3 rL1_3 rL2_3 rL3_3 rL4_3 hm3
      have J48 : ∀ (_ : Unit), (0 ≤ x1 ∧ x1 ≤ 17) → (0 ≤ x2 ∧ x2 ≤ 17) → ((-2147483648) ≤ x3 ∧ x3 ≤ 2147483647) → (0 ≤ xL4_3 ∧ xL4_3 ≤ 9) → pv_T K 231 48 (pv_fl [some (.ref a0), some (.int (pv_I x1)), some (.int (pv_I x2)), some (.int (pv_I x3)), some (.int (pv_I xL4_3))]) [] h (Q231 τ ρ h a0 x1 x2 x3) := by
        intro _ rL1_48 rL2_48 rL3_48 rL4_48
        refine pw_iinc d231_48 m231 rfl rfl rfl ?_
        refine pw_goto d231_51 rfl ?_
        exact ih3 ((xL4_3 + 1)) (by omega) (by omega) (by omega) (by omega) (by omega)
      refine pw_iload d231_3 rfl ?_
      refine pw_aload_n d231_5 rfl ?_
      refine pw_getR d231_6 g231_9 hT hA0 rfl rfl (fun t6 => ?_)
      have t6 : τ (ρ a0 1) = some 40 := t6
      refine pw_iconst d231_9 ?_
      refine pw_ialdB d231_10 hT t6 rfl rfl (by omega) (by omega) (fun u10 => ?_)
      have u10 : pv_wok ((0 : Int)) (pv_aI h (ρ a0 1) ((0 : Int)).toNat) := u10
      have vu10 := u10.2.1 (by omega)
      refine pw_icmp_ge d231_11 rfl (by omega) (by omega) (fun c11 => ?_) (fun c11 => ?_)
      · refine pw_iconst d231_54 ?_
        exact pw_zreturn d231_55 tt231 (by omega) ⟨rfl, 0, rfl, (by omega), (by omega)⟩
      · refine pw_iload d231_14 rfl ?_
        refine pw_iload_n d231_16 rfl ?_
        refine pw_icmp_eq d231_17 rfl (by omega) (by omega) (fun c17 => ?_) (fun c17 => ?_)
        · exact J48 () (by omega) (by omega) (by omega) (by omega)
        · refine pw_aload_n d231_20 rfl ?_
          refine pw_getR d231_21 g231_9 hT hA0 rfl rfl (fun t21 => ?_)
          have t21 : τ (ρ a0 1) = some 40 := t21
          refine pw_iload_n d231_24 rfl ?_
          refine pw_iload d231_25 rfl ?_
          refine pw_callS3 d231_27 k231_156 rfl rfl (ct205w (τ := τ) (ρ := ρ) hT t21 (by omega) (by omega)) (fun r27 h27 q27 => ?_)
          obtain ⟨eh27, z27, ez27, lz27, uz27⟩ := q27
          subst eh27
          subst ez27
          refine pw_if_eq d231_30 rfl (by omega) (fun c30 => ?_) (fun c30 => ?_)
          · exact J48 () (by omega) (by omega) (by omega) (by omega)
          · refine pw_aload_n d231_33 rfl ?_
            refine pw_getR d231_34 g231_9 hT hA0 rfl rfl (fun t34 => ?_)
            have t34 : τ (ρ a0 1) = some 40 := t34
            refine pw_iload_n d231_37 rfl ?_
            refine pw_iload d231_38 rfl ?_
            refine pw_callS3 d231_40 k231_156 rfl rfl (ct205w (τ := τ) (ρ := ρ) hT t34 (by omega) (by omega)) (fun r40 h40 q40 => ?_)
            obtain ⟨eh40, z40, ez40, lz40, uz40⟩ := q40
            subst eh40
            subst ez40
            refine pw_if_eq d231_43 rfl (by omega) (fun c43 => ?_) (fun c43 => ?_)
            · exact J48 () (by omega) (by omega) (by omega) (by omega)
            · refine pw_iconst d231_46 ?_
              exact pw_zreturn d231_47 tt231 (by omega) ⟨rfl, 1, rfl, (by omega), (by omega)⟩
  refine pw_iconst d231_0 ?_
  refine pw_istore d231_1 m231 rfl rfl ?_
  exact L3 _ (0) (by omega) (by omega) (by omega) (by omega) (pv_mu _)

abbrev Q230 (τ : Nat → Option Nat) (ρ : Nat → Nat → Nat) (h : pv_H) (a0 : Nat) (x1 : Int) : Option Value → pv_H → Prop := fun r h' => h = h' ∧ ∃ z : Int, r = some (.int (pv_I z)) ∧ 0 ≤ z ∧ z ≤ 1
set_option maxHeartbeats 4000000 in
set_option maxRecDepth 20000 in
/-- AngleNetModel.isGoodAt(I)Z -/
theorem ct230 {τ : Nat → Option Nat} {ρ : Nat → Nat → Nat} {K : Nat → Nat} {h : pv_H} {a0 : Nat} {x1 : Int} (hT : pv_Ty τ ρ h) (hA0 : τ a0 = some 7) (hX1 : (-2147483648) ≤ x1 ∧ x1 ≤ 2147483647) : pv_C K 230 [.ref a0, .int (pv_I x1)] h (Q230 τ ρ h a0 x1) := by
  refine pw_entry 5 ?_
  show pv_T K 230 0 (pv_fl [some (.ref a0), some (.int (pv_I x1)), none, none, none, none, none]) [] h (Q230 τ ρ h a0 x1)
  have L90 : ∀ (nn : Nat) (xL2_90 xL3_90 xL4_90 : Int) (o5_90 o6_90 : Option Value), ((-2147483648) ≤ x1 ∧ x1 ≤ 2147483647) → ((-2147483648) ≤ xL2_90 ∧ xL2_90 ≤ 2147483647) → ((-2147483648) ≤ xL3_90 ∧ xL3_90 ≤ 2147483647) → (0 ≤ xL4_90 ∧ xL4_90 ≤ 18) → 18 - xL4_90 < nn → pv_T K 230 90 (pv_fl [some (.ref a0), some (.int (pv_I x1)), some (.int (pv_I xL2_90)), some (.int (pv_I xL3_90)), some (.int (pv_I xL4_90)), o5_90, o6_90]) [] h (Q230 τ ρ h a0 x1) := by
    intro nn
    induction nn with
    | zero => intro xL2_90 xL3_90 xL4_90 o5_90 o6_90 rL1_90 rL2_90 rL3_90 rL4_90 hm; exfalso; omega
    | succ nn ih90 =>
      intro xL2_90 xL3_90 xL4_90 o5_90 o6_90 rL1_90 rL2_90 rL3_90 rL4_90 hm90
      have L100 : ∀ (nn : Nat) (xL3_100 xL5_100 : Int) (o6_100 : Option Value), ((-2147483648) ≤ x1 ∧ x1 ≤ 2147483647) → ((-2147483648) ≤ xL2_90 ∧ xL2_90 ≤ 2147483647) → ((-2147483648) ≤ xL3_100 ∧ xL3_100 ≤ 2147483647) → (0 ≤ xL4_90 ∧ xL4_90 ≤ 17) → (0 ≤ xL5_100 ∧ xL5_100 ≤ 18) → 18 - xL5_100 < nn → pv_T K 230 100 (pv_fl [some (.ref a0), some (.int (pv_I x1)), some (.int (pv_I xL2_90)), some (.int (pv_I xL3_100)), some (.int (pv_I xL4_90)), some (.int (pv_I xL5_100)), o6_100]) [] h (Q230 τ ρ h a0 x1) := by
        intro nn
        induction nn with
        | zero => intro xL3_100 xL5_100 o6_100 rL1_100 rL2_100 rL3_100 rL4_100 rL5_100 hm; exfalso; omega
        | succ nn ih100 =>
          intro xL3_100 xL5_100 o6_100 rL1_100 rL2_100 rL3_100 rL4_100 rL5_100 hm100
          have L112 : ∀ (nn : Nat) (xL3_112 xL6_112 : Int), ((-2147483648) ≤ x1 ∧ x1 ≤ 2147483647) → ((-2147483648) ≤ xL2_90 ∧ xL2_90 ≤ 2147483647) → ((-2147483648) ≤ xL3_112 ∧ xL3_112 ≤ 2147483647) → (0 ≤ xL4_90 ∧ xL4_90 ≤ 17) → (0 ≤ xL5_100 ∧ xL5_100 ≤ 17) → (0 ≤ xL6_112 ∧ xL6_112 ≤ 18) → 18 - xL6_112 < nn → pv_T K 230 112 (pv_fl [some (.ref a0), some (.int (pv_I x1)), some (.int (pv_I xL2_90)), some (.int (pv_I xL3_112)), some (.int (pv_I xL4_90)), some (.int (pv_I xL5_100)), some (.int (pv_I xL6_112))]) [] h (Q230 τ ρ h a0 x1) := by
            intro nn
            induction nn with
            | zero => intro xL3_112 xL6_112 rL1_112 rL2_112 rL3_112 rL4_112 rL5_112 rL6_112 hm; exfalso; omega
            | succ nn ih112 =>
              intro xL3_112 xL6_112 rL1_112 rL2_112 rL3_112 rL4_112 rL5_112 rL6_112 hm112
              have J162 : ∀ (xS0_162 xS1_162 : Int) (o3_162 : Option Value), ((-2147483648) ≤ x1 ∧ x1 ≤ 2147483647) → ((-2147483648) ≤ xL2_90 ∧ xL2_90 ≤ 2147483647) → (0 ≤ xL4_90 ∧ xL4_90 ≤ 17) → (0 ≤ xL5_100 ∧ xL5_100 ≤ 17) → (0 ≤ xL6_112 ∧ xL6_112 ≤ 17) → (0 ≤ xS0_162 ∧ xS0_162 ≤ 1000000) → ((-2147483648) ≤ xS1_162 ∧ xS1_162 ≤ 2147483647) → pv_T K 230 162 (pv_fl [some (.ref a0), some (.int (pv_I x1)), some (.int (pv_I xL2_90)), o3_162, some (.int (pv_I xL4_90)), some (.int (pv_I xL5_100)), some (.int (pv_I xL6_112))]) [.int (pv_I xS0_162), .int (pv_I xS1_162)] h (Q230 τ ρ h a0 x1) := by
                intro xS0_162 xS1_162 o3_162 rL1_162 rL2_162 rL4_162 rL5_162 rL6_162 rS0_162 rS1_162
                refine pw_ior d230_162 (fun z162 hz162 ez162 => ?_)
                refine pw_istore_n d230_163 m230 rfl rfl ?_
                refine pw_iinc d230_164 m230 rfl rfl rfl ?_
                refine pw_goto d230_167 rfl ?_
                exact ih112 (z162) ((xL6_112 + 1)) (by omega) (by omega) (by omega) (by omega) (by omega) (by omega) (by omega)
              have J161 : ∀ (xS0_161 : Int) (o3_161 : Option Value), ((-2147483648) ≤ x1 ∧ x1 ≤ 2147483647) → ((-2147483648) ≤ xL2_90 ∧ xL2_90 ≤ 2147483647) → (0 ≤ xL4_90 ∧ xL4_90 ≤ 17) → (0 ≤ xL5_100 ∧ xL5_100 ≤ 17) → (0 ≤ xL6_112 ∧ xL6_112 ≤ 17) → ((-2147483648) ≤ xS0_161 ∧ xS0_161 ≤ 2147483647) → pv_T K 230 161 (pv_fl [some (.ref a0), some (.int (pv_I x1)), some (.int (pv_I xL2_90)), o3_161, some (.int (pv_I xL4_90)), some (.int (pv_I xL5_100)), some (.int (pv_I xL6_112))]) [.int (pv_I xS0_161)] h (Q230 τ ρ h a0 x1) := by
                intro xS0_161 o3_161 rL1_161 rL2_161 rL4_161 rL5_161 rL6_161 rS0_161
                refine pw_iconst d230_161 ?_
                exact J162 (0) (xS0_161) _ (by omega) (by omega) (by omega) (by omega) (by omega) (by omega) (by omega)
              refine pw_iload d230_112 rfl ?_
              refine pw_aload_n d230_114 rfl ?_
              refine pw_callV0 d230_115 k230_216 hT hA0 rfl rfl rfl (ct216 (τ := τ) (ρ := ρ) hT hA0) (fun r115 h115 q115 => ?_)
              obtain ⟨eh115, z115, ez115, lz115, uz115, pz115_0⟩ := q115
              subst eh115
              subst ez115
              refine pw_icmp_ge d230_118 rfl (by omega) (by omega) (fun c118 => ?_) (fun c118 => ?_)
              · refine pw_iinc d230_170 m230 rfl rfl rfl ?_
                refine pw_goto d230_173 rfl ?_
                exact ih100 (xL3_112) ((xL5_100 + 1)) _ (by omega) (by omega) (by omega) (by omega) (by omega) (by omega)
              · refine pw_iload_n d230_121 rfl ?_
                refine pw_iload_n d230_122 rfl ?_
                refine pw_iload d230_123 rfl ?_
                refine pw_ishr d230_125 (fun z125 hz125 ez125 => ?_)
                refine pw_iconst d230_126 ?_
                refine pw_iand d230_127 (fun z127 hz127 ez127 => ?_)
                have bz127 := pv_and1_b hz127 ez127
                refine pw_iconst d230_128 ?_
                refine pw_icmp_ne d230_129 rfl (by omega) (by omega) (fun c129 => ?_) (fun c129 => ?_)
                · exact J161 (xL3_112) _ (by omega) (by omega) (by omega) (by omega) (by omega) (by omega)
                · refine pw_iload_n d230_132 rfl ?_
                  refine pw_iload d230_133 rfl ?_
                  refine pw_ishr d230_135 (fun z135 hz135 ez135 => ?_)
                  refine pw_iconst d230_136 ?_
                  refine pw_iand d230_137 (fun z137 hz137 ez137 => ?_)
                  have bz137 := pv_and1_b hz137 ez137
                  refine pw_iconst d230_138 ?_
                  refine pw_icmp_ne d230_139 rfl (by omega) (by omega) (fun c139 => ?_) (fun c139 => ?_)
                  · exact J161 (xL3_112) _ (by omega) (by omega) (by omega) (by omega) (by omega) (by omega)
                  · refine pw_aload_n d230_142 rfl ?_
                    refine pw_iload d230_143 rfl ?_
                    refine pw_iload d230_145 rfl ?_
                    refine pw_iload_n d230_147 rfl ?_
                    refine pw_callV3 d230_148 k230_245 hT hA0 rfl rfl rfl (ct231 (τ := τ) (ρ := ρ) hT hA0 (by omega) (by omega) (by omega)) (fun r148 h148 q148 => ?_)
                    obtain ⟨eh148, z148, ez148, lz148, uz148⟩ := q148
                    subst eh148
                    subst ez148
                    refine pw_if_eq d230_151 rfl (by omega) (fun c151 => ?_) (fun c151 => ?_)
                    · exact J161 (xL3_112) _ (by omega) (by omega) (by omega) (by omega) (by omega) (by omega)
                    · refine pw_iconst d230_154 ?_
                      refine pw_iload d230_155 rfl ?_
                      refine pw_ishl d230_157 (fun z157 hz157 ez157 => ?_)
                      have bz157 := pv_shl1_b (n := 17) (m := 131072) (y := xL6_112) (by omega) (by omega) (by decide) (by decide) hz157 ez157
                      refine pw_goto d230_158 rfl ?_
                      exact J162 (z157) (xL3_112) _ (by omega) (by omega) (by omega) (by omega) (by omega) (by omega) (by omega)
          refine pw_iload d230_100 rfl ?_
          refine pw_aload_n d230_102 rfl ?_
          refine pw_callV0 d230_103 k230_216 hT hA0 rfl rfl rfl (ct216 (τ := τ) (ρ := ρ) hT hA0) (fun r103 h103 q103 => ?_)
          obtain ⟨eh103, z103, ez103, lz103, uz103, pz103_0⟩ := q103
          subst eh103
          subst ez103
          refine pw_icmp_ge d230_106 rfl (by omega) (by omega) (fun c106 => ?_) (fun c106 => ?_)
          · refine pw_iinc d230_176 m230 rfl rfl rfl ?_
            refine pw_goto d230_179 rfl ?_
            exact ih90 (xL2_90) (xL3_100) ((xL4_90 + 1)) _ _ (by omega) (by omega) (by omega) (by omega) (by omega)
          · refine pw_iconst d230_109 ?_
            refine pw_istore d230_110 m230 rfl rfl ?_
            exact L112 _ (xL3_100) (0) (by omega) (by omega) (by omega) (by omega) (by omega) (by omega) (pv_mu _)
      refine pw_iload d230_90 rfl ?_
      refine pw_bipush d230_92 (by decide) ?_
      refine pw_icmp_ge d230_94 rfl (by omega) (by omega) (fun c94 => ?_) (fun c94 => ?_)
      · refine pw_iload_n d230_182 rfl ?_
        refine pw_iload_n d230_183 rfl ?_
        refine pw_icmp_ne d230_184 rfl (by omega) (by omega) (fun c184 => ?_) (fun c184 => ?_)
        · refine pw_iconst d230_191 ?_
          exact pw_zreturn d230_192 tt230 (by omega) ⟨rfl, 0, rfl, (by omega), (by omega)⟩
        · refine pw_iconst d230_187 ?_
          refine pw_goto d230_188 rfl ?_
          exact pw_zreturn d230_192 tt230 (by omega) ⟨rfl, 1, rfl, (by omega), (by omega)⟩
      · refine pw_iconst d230_97 ?_
        refine pw_istore d230_98 m230 rfl rfl ?_
        exact L100 _ (xL3_90) (0) _ (by omega) (by omega) (by omega) (by omega) (by omega) (pv_mu _)
  have J87 : ∀ (xL2_87 xL3_87 : Int) (o4_87 o5_87 o6_87 : Option Value), ((-2147483648) ≤ x1 ∧ x1 ≤ 2147483647) → ((-2147483648) ≤ xL2_87 ∧ xL2_87 ≤ 2147483647) → (0 ≤ xL3_87 ∧ xL3_87 ≤ 1000000) → pv_T K 230 87 (pv_fl [some (.ref a0), some (.int (pv_I x1)), some (.int (pv_I xL2_87)), some (.int (pv_I xL3_87)), o4_87, o5_87, o6_87]) [] h (Q230 τ ρ h a0 x1) := by
    intro xL2_87 xL3_87 o4_87 o5_87 o6_87 rL1_87 rL2_87 rL3_87
    refine pw_iconst d230_87 ?_
    refine pw_istore d230_88 m230 rfl rfl ?_
    exact L90 _ (xL2_87) (xL3_87) (0) _ _ (by omega) (by omega) (by omega) (by omega) (pv_mu _)
  have L49 : ∀ (nn : Nat) (xL2_49 xL3_49 xL4_49 : Int) (o5_49 o6_49 : Option Value), ((-2147483648) ≤ x1 ∧ x1 ≤ 2147483647) → ((-2147483648) ≤ xL2_49 ∧ xL2_49 ≤ 2147483647) → (0 ≤ xL3_49 ∧ xL3_49 ≤ 1000000) → (0 ≤ xL4_49 ∧ xL4_49 ≤ 18) → 18 - xL4_49 < nn → pv_T K 230 49 (pv_fl [some (.ref a0), some (.int (pv_I x1)), some (.int (pv_I xL2_49)), some (.int (pv_I xL3_49)), some (.int (pv_I xL4_49)), o5_49, o6_49]) [] h (Q230 τ ρ h a0 x1) := by
    intro nn
    induction nn with
    | zero => intro xL2_49 xL3_49 xL4_49 o5_49 o6_49 rL1_49 rL2_49 rL3_49 rL4_49 hm; exfalso; omega
    | succ nn ih49 =>
      intro xL2_49 xL3_49 xL4_49 o5_49 o6_49 rL1_49 rL2_49 rL3_49 rL4_49 hm49
      have J80 : ∀ (xS0_80 : Int) (o3_80 o5_80 o6_80 : Option Value), ((-2147483648) ≤ x1 ∧ x1 ≤ 2147483647) → ((-2147483648) ≤ xL2_49 ∧ xL2_49 ≤ 2147483647) → (0 ≤ xL4_49 ∧ xL4_49 ≤ 17) → (0 ≤ xS0_80 ∧ xS0_80 ≤ 1000000) → pv_T K 230 80 (pv_fl [some (.ref a0), some (.int (pv_I x1)), some (.int (pv_I xL2_49)), o3_80, some (.int (pv_I xL4_49)), o5_80, o6_80]) [.int (pv_I xS0_80)] h (Q230 τ ρ h a0 x1) := by
        intro xS0_80 o3_80 o5_80 o6_80 rL1_80 rL2_80 rL4_80 rS0_80
        refine pw_istore_n d230_80 m230 rfl rfl ?_
        refine pw_iinc d230_81 m230 rfl rfl rfl ?_
        refine pw_goto d230_84 rfl ?_
        exact ih49 (xL2_49) (xS0_80) ((xL4_49 + 1)) _ _ (by omega) (by omega) (by omega) (by omega) (by omega)
      refine pw_iload d230_49 rfl ?_
      refine pw_aload_n d230_51 rfl ?_
      refine pw_callV0 d230_52 k230_216 hT hA0 rfl rfl rfl (ct216 (τ := τ) (ρ := ρ) hT hA0) (fun r52 h52 q52 => ?_)
      obtain ⟨eh52, z52, ez52, lz52, uz52, pz52_0⟩ := q52
      subst eh52
      subst ez52
      refine pw_icmp_ge d230_55 rfl (by omega) (by omega) (fun c55 => ?_) (fun c55 => ?_)
      · exact J87 (xL2_49) (xL3_49) _ _ _ (by omega) (by omega) (by omega)
      · refine pw_iload_n d230_58 rfl ?_
        refine pw_if_ne d230_59 rfl (by omega) (fun c59 => ?_) (fun c59 => ?_)
        · exact J87 (xL2_49) (xL3_49) _ _ _ (by omega) (by omega) (by omega)
        · refine pw_iload_n d230_62 rfl ?_
          refine pw_iload d230_63 rfl ?_
          refine pw_ishr d230_65 (fun z65 hz65 ez65 => ?_)
          refine pw_iconst d230_66 ?_
          refine pw_iand d230_67 (fun z67 hz67 ez67 => ?_)
          have bz67 := pv_and1_b hz67 ez67
          refine pw_iconst d230_68 ?_
          refine pw_icmp_ne d230_69 rfl (by omega) (by omega) (fun c69 => ?_) (fun c69 => ?_)
          · refine pw_iconst d230_79 ?_
            exact J80 (0) _ _ _ (by omega) (by omega) (by omega) (by omega)
          · refine pw_iconst d230_72 ?_
            refine pw_iload d230_73 rfl ?_
            refine pw_ishl d230_75 (fun z75 hz75 ez75 => ?_)
            have bz75 := pv_shl1_b (n := 17) (m := 131072) (y := xL4_49) (by omega) (by omega) (by decide) (by decide) hz75 ez75
            refine pw_goto d230_76 rfl ?_
            exact J80 (z75) _ _ _ (by omega) (by omega) (by omega) (by omega)
  have L7 : ∀ (nn : Nat) (xL2_7 xL3_7 xL4_7 : Int) (o5_7 o6_7 : Option Value), ((-2147483648) ≤ x1 ∧ x1 ≤ 2147483647) → ((-2147483648) ≤ xL2_7 ∧ xL2_7 ≤ 2147483647) → (0 ≤ xL3_7 ∧ xL3_7 ≤ 0) → (0 ≤ xL4_7 ∧ xL4_7 ≤ 18) → 18 - xL4_7 < nn → pv_T K 230 7 (pv_fl [some (.ref a0), some (.int (pv_I x1)), some (.int (pv_I xL2_7)), some (.int (pv_I xL3_7)), some (.int (pv_I xL4_7)), o5_7, o6_7]) [] h (Q230 τ ρ h a0 x1) := by
    intro nn
    induction nn with
    | zero => intro xL2_7 xL3_7 xL4_7 o5_7 o6_7 rL1_7 rL2_7 rL3_7 rL4_7 hm; exfalso; omega
    | succ nn ih7 =>
      intro xL2_7 xL3_7 xL4_7 o5_7 o6_7 rL1_7 rL2_7 rL3_7 rL4_7 hm7
      have J38 : ∀ (xS0_38 : Int) (o2_38 o5_38 o6_38 : Option Value), ((-2147483648) ≤ x1 ∧ x1 ≤ 2147483647) → (0 ≤ xL3_7 ∧ xL3_7 ≤ 0) → (0 ≤ xL4_7 ∧ xL4_7 ≤ 17) → (0 ≤ xS0_38 ∧ xS0_38 ≤ 1000000) → ((-2147483648) ≤ xL2_7 ∧ xL2_7 ≤ 2147483647) → pv_T K 230 38 (pv_fl [some (.ref a0), some (.int (pv_I x1)), o2_38, some (.int (pv_I xL3_7)), some (.int (pv_I xL4_7)), o5_38, o6_38]) [.int (pv_I xS0_38), .int (pv_I xL2_7)] h (Q230 τ ρ h a0 x1) := by
        intro xS0_38 o2_38 o5_38 o6_38 rL1_38 rL3_38 rL4_38 rS0_38 rS1_38
        refine pw_ior d230_38 (fun z38 hz38 ez38 => ?_)
        refine pw_istore_n d230_39 m230 rfl rfl ?_
        refine pw_iinc d230_40 m230 rfl rfl rfl ?_
        refine pw_goto d230_43 rfl ?_
        exact ih7 (z38) (xL3_7) ((xL4_7 + 1)) _ _ (by omega) (by omega) (by omega) (by omega) (by omega)
      refine pw_iload d230_7 rfl ?_
      refine pw_aload_n d230_9 rfl ?_
      refine pw_callV0 d230_10 k230_216 hT hA0 rfl rfl rfl (ct216 (τ := τ) (ρ := ρ) hT hA0) (fun r10 h10 q10 => ?_)
      obtain ⟨eh10, z10, ez10, lz10, uz10, pz10_0⟩ := q10
      subst eh10
      subst ez10
      refine pw_icmp_ge d230_13 rfl (by omega) (by omega) (fun c13 => ?_) (fun c13 => ?_)
      · refine pw_iconst d230_46 ?_
        refine pw_istore d230_47 m230 rfl rfl ?_
        exact L49 _ (xL2_7) (xL3_7) (0) _ _ (by omega) (by omega) (by omega) (by omega) (pv_mu _)
      · refine pw_iload_n d230_16 rfl ?_
        refine pw_aload_n d230_17 rfl ?_
        refine pw_getR d230_18 g230_9 hT hA0 rfl rfl (fun t18 => ?_)
        have t18 : τ (ρ a0 1) = some 40 := t18
        refine pw_iload d230_21 rfl ?_
        refine pw_iload_n d230_23 rfl ?_
        refine pw_callS3 d230_24 k230_156 rfl rfl (ct205w (τ := τ) (ρ := ρ) hT t18 (by omega) (by omega)) (fun r24 h24 q24 => ?_)
        obtain ⟨eh24, z24, ez24, lz24, uz24⟩ := q24
        subst eh24
        subst ez24
        refine pw_if_eq d230_27 rfl (by omega) (fun c27 => ?_) (fun c27 => ?_)
        · refine pw_iconst d230_37 ?_
          exact J38 (0) _ _ _ (by omega) (by omega) (by omega) (by omega) (by omega)
        · refine pw_iconst d230_30 ?_
          refine pw_iload d230_31 rfl ?_
          refine pw_ishl d230_33 (fun z33 hz33 ez33 => ?_)
          have bz33 := pv_shl1_b (n := 17) (m := 131072) (y := xL4_7) (by omega) (by omega) (by decide) (by decide) hz33 ez33
          refine pw_goto d230_34 rfl ?_
          exact J38 (z33) _ _ _ (by omega) (by omega) (by omega) (by omega) (by omega)
  refine pw_iconst d230_0 ?_
  refine pw_istore_n d230_1 m230 rfl rfl ?_
  refine pw_iconst d230_2 ?_
  refine pw_istore_n d230_3 m230 rfl rfl ?_
  refine pw_iconst d230_4 ?_
  refine pw_istore d230_5 m230 rfl rfl ?_
  exact L7 _ (0) (0) (0) _ _ (by omega) (by omega) (by omega) (by omega) (pv_mu _)

abbrev Q229 (τ : Nat → Option Nat) (ρ : Nat → Nat → Nat) (h : pv_H) (a0 : Nat) : Option Value → pv_H → Prop := fun r h' => h = h' ∧ ∃ z : Int, r = some (.int (pv_I z)) ∧ 0 ≤ z ∧ z ≤ 1
set_option maxHeartbeats 4000000 in
set_option maxRecDepth 20000 in
/-- AngleNetModel.isGood()Z -/
theorem ct229 {τ : Nat → Option Nat} {ρ : Nat → Nat → Nat} {K : Nat → Nat} {h : pv_H} {a0 : Nat} (hT : pv_Ty τ ρ h) (hA0 : τ a0 = some 7) : pv_C K 229 [.ref a0] h (Q229 τ ρ h a0) := by
  refine pw_entry 2 ?_
  show pv_T K 229 0 (pv_fl [some (.ref a0), none, none]) [] h (Q229 τ ρ h a0)
  have L4 : ∀ (nn : Nat) (xL1_4 xL2_4 : Int), (0 ≤ xL1_4 ∧ xL1_4 ≤ 1) → (0 ≤ xL2_4 ∧ xL2_4 ≤ 10) → 10 - xL2_4 < nn → pv_T K 229 4 (pv_fl [some (.ref a0), some (.int (pv_I xL1_4)), some (.int (pv_I xL2_4))]) [] h (Q229 τ ρ h a0) := by
    intro nn
    induction nn with
    | zero => intro xL1_4 xL2_4 rL1_4 rL2_4 hm; exfalso; omega
    | succ nn ih4 =>
      intro xL1_4 xL2_4 rL1_4 rL2_4 hm4
      have J31 : ∀ (xS0_31 : Int) (o1_31 : Option Value), (0 ≤ xL2_4 ∧ xL2_4 ≤ 9) → (0 ≤ xS0_31 ∧ xS0_31 ≤ 1) → pv_T K 229 31 (pv_fl [some (.ref a0), o1_31, some (.int (pv_I xL2_4))]) [.int (pv_I xS0_31)] h (Q229 τ ρ h a0) := by
        intro xS0_31 o1_31 rL2_31 rS0_31
        refine pw_istore_n d229_31 m229 rfl rfl ?_
        refine pw_iinc d229_32 m229 rfl rfl rfl ?_
        refine pw_goto d229_35 rfl ?_
        exact ih4 (xS0_31) ((xL2_4 + 1)) (by omega) (by omega) (by omega)
      have J30 : ∀ (o1_30 : Option Value), (0 ≤ xL2_4 ∧ xL2_4 ≤ 9) → pv_T K 229 30 (pv_fl [some (.ref a0), o1_30, some (.int (pv_I xL2_4))]) [] h (Q229 τ ρ h a0) := by
        intro o1_30 rL2_30
        refine pw_iconst d229_30 ?_
        exact J31 (0) _ (by omega) (by omega)
      refine pw_iload_n d229_4 rfl ?_
      refine pw_aload_n d229_5 rfl ?_
      refine pw_getR d229_6 g229_9 hT hA0 rfl rfl (fun t6 => ?_)
      have t6 : τ (ρ a0 1) = some 40 := t6
      refine pw_iconst d229_9 ?_
      refine pw_ialdB d229_10 hT t6 rfl rfl (by omega) (by omega) (fun u10 => ?_)
      have u10 : pv_wok ((0 : Int)) (pv_aI h (ρ a0 1) ((0 : Int)).toNat) := u10
      have vu10 := u10.2.1 (by omega)
      refine pw_icmp_ge d229_11 rfl (by omega) (by omega) (fun c11 => ?_) (fun c11 => ?_)
      · refine pw_iload_n d229_38 rfl ?_
        exact pw_zreturn d229_39 tt229 (by omega) ⟨rfl, xL1_4, rfl, (by omega), (by omega)⟩
      · refine pw_iload_n d229_14 rfl ?_
        refine pw_if_eq d229_15 rfl (by omega) (fun c15 => ?_) (fun c15 => ?_)
        · exact J30 _ (by omega)
        · refine pw_aload_n d229_18 rfl ?_
          refine pw_iload_n d229_19 rfl ?_
          refine pw_callV1 d229_20 k229_249 hT hA0 rfl rfl rfl (ct230 (τ := τ) (ρ := ρ) hT hA0 (by omega)) (fun r20 h20 q20 => ?_)
          obtain ⟨eh20, z20, ez20, lz20, uz20⟩ := q20
          subst eh20
          subst ez20
          refine pw_if_eq d229_23 rfl (by omega) (fun c23 => ?_) (fun c23 => ?_)
          · exact J30 _ (by omega)
          · refine pw_iconst d229_26 ?_
            refine pw_goto d229_27 rfl ?_
            exact J31 (1) _ (by omega) (by omega)
  refine pw_iconst d229_0 ?_
  refine pw_istore_n d229_1 m229 rfl rfl ?_
  refine pw_iconst d229_2 ?_
  refine pw_istore_n d229_3 m229 rfl rfl ?_
  exact L4 _ (1) (0) (by omega) (by omega) (pv_mu _)

abbrev Q236 (τ : Nat → Option Nat) (ρ : Nat → Nat → Nat) (h : pv_H) (a0 : Nat) (x1 : Int) (x2 : Int) (x3 : Int) : Option Value → pv_H → Prop := fun r h' => h = h' ∧ ∃ z : Int, r = some (.int (pv_I z)) ∧ (-1) ≤ z ∧ z ≤ 1
set_option maxHeartbeats 4000000 in
set_option maxRecDepth 20000 in
/-- AngleNetModel.goesBy(III)I -/
theorem ct236 {τ : Nat → Option Nat} {ρ : Nat → Nat → Nat} {K : Nat → Nat} {h : pv_H} {a0 : Nat} {x1 : Int} {x2 : Int} {x3 : Int} (hT : pv_Ty τ ρ h) (hA0 : τ a0 = some 7) (hX1 : 0 ≤ x1 ∧ x1 ≤ 17) (hX2 : (-2147483648) ≤ x2 ∧ x2 ≤ 2147483647) (hX3 : (-2147483648) ≤ x3 ∧ x3 ≤ 2147483647) : pv_C K 236 [.ref a0, .int (pv_I x1), .int (pv_I x2), .int (pv_I x3)] h (Q236 τ ρ h a0 x1 x2 x3) := by
  refine pw_entry 1 ?_
  show pv_T K 236 0 (pv_fl [some (.ref a0), some (.int (pv_I x1)), some (.int (pv_I x2)), some (.int (pv_I x3)), none]) [] h (Q236 τ ρ h a0 x1 x2 x3)
  have L3 : ∀ (nn : Nat) (xL4_3 : Int), (0 ≤ x1 ∧ x1 ≤ 17) → ((-2147483648) ≤ x2 ∧ x2 ≤ 2147483647) → ((-2147483648) ≤ x3 ∧ x3 ≤ 2147483647) → (0 ≤ xL4_3 ∧ xL4_3 ≤ 3) → 3 - xL4_3 < nn → pv_T K 236 3 (pv_fl [some (.ref a0), some (.int (pv_I x1)), some (.int (pv_I x2)), some (.int (pv_I x3)), some (.int (pv_I xL4_3))]) [] h (Q236 τ ρ h a0 x1 x2 x3) := by
    intro nn
    induction nn with
    | zero => intro xL4_3 rL1_3 rL2_3 rL3_3 rL4_3 hm; exfalso; omega
    | succ nn ih3 =>
      intro xL4_3 rL1_3 rL2_3 rL3_3 rL4_3 hm3
      have J65 : ∀ (_ : Unit), (0 ≤ x1 ∧ x1 ≤ 17) → ((-2147483648) ≤ x2 ∧ x2 ≤ 2147483647) → ((-2147483648) ≤ x3 ∧ x3 ≤ 2147483647) → (0 ≤ xL4_3 ∧ xL4_3 ≤ 2) → pv_T K 236 65 (pv_fl [some (.ref a0), some (.int (pv_I x1)), some (.int (pv_I x2)), some (.int (pv_I x3)), some (.int (pv_I xL4_3))]) [] h (Q236 τ ρ h a0 x1 x2 x3) := by
        intro _ rL1_65 rL2_65 rL3_65 rL4_65
        refine pw_iinc d236_65 m236 rfl rfl rfl ?_
        refine pw_goto d236_68 rfl ?_
        exact ih3 ((xL4_3 + 1)) (by omega) (by omega) (by omega) (by omega) (by omega)
      have J37 : ∀ (_ : Unit), (0 ≤ x1 ∧ x1 ≤ 17) → ((-2147483648) ≤ x2 ∧ x2 ≤ 2147483647) → ((-2147483648) ≤ x3 ∧ x3 ≤ 2147483647) → (0 ≤ xL4_3 ∧ xL4_3 ≤ 2) → pv_T K 236 37 (pv_fl [some (.ref a0), some (.int (pv_I x1)), some (.int (pv_I x2)), some (.int (pv_I x3)), some (.int (pv_I xL4_3))]) [] h (Q236 τ ρ h a0 x1 x2 x3) := by
        intro _ rL1_37 rL2_37 rL3_37 rL4_37
        refine pw_aload_n d236_37 rfl ?_
        refine pw_iload_n d236_38 rfl ?_
        refine pw_iload d236_39 rfl ?_
        refine pw_callV2 d236_41 k236_219 hT hA0 rfl rfl rfl (ct212 (τ := τ) (ρ := ρ) hT hA0 (by omega) (by omega)) (fun r41 h41 q41 => ?_)
        obtain ⟨eh41, z41, ez41, lz41, uz41, pz41_0, pz41_1⟩ := q41
        subst eh41
        subst ez41
        refine pw_iload_n d236_44 rfl ?_
        refine pw_icmp_ne d236_45 rfl (by omega) (by omega) (fun c45 => ?_) (fun c45 => ?_)
        · exact J65 () (by omega) (by omega) (by omega) (by omega)
        · refine pw_aload_n d236_48 rfl ?_
          refine pw_iload_n d236_49 rfl ?_
          refine pw_iload d236_50 rfl ?_
          refine pw_iconst d236_52 ?_
          refine pw_iadd d236_53 ?_
          refine pw_iconst d236_54 ?_
          refine pw_irem d236_55 (by omega) (by omega) (by omega) (by omega) ?_
          refine pw_callV2 d236_56 k236_219 hT hA0 rfl rfl rfl (ct212 (τ := τ) (ρ := ρ) hT hA0 (by omega) (by omega)) (fun r56 h56 q56 => ?_)
          obtain ⟨eh56, z56, ez56, lz56, uz56, pz56_0, pz56_1⟩ := q56
          subst eh56
          subst ez56
          refine pw_iload_n d236_59 rfl ?_
          refine pw_icmp_ne d236_60 rfl (by omega) (by omega) (fun c60 => ?_) (fun c60 => ?_)
          · exact J65 () (by omega) (by omega) (by omega) (by omega)
          · refine pw_iconst d236_63 ?_
            exact pw_ireturn d236_64 tt236 ⟨rfl, (-1), rfl, (by omega), (by omega)⟩
      refine pw_iload d236_3 rfl ?_
      refine pw_iconst d236_5 ?_
      refine pw_icmp_ge d236_6 rfl (by omega) (by omega) (fun c6 => ?_) (fun c6 => ?_)
      · refine pw_iconst d236_71 ?_
        exact pw_ireturn d236_72 tt236 ⟨rfl, 0, rfl, (by omega), (by omega)⟩
      · refine pw_aload_n d236_9 rfl ?_
        refine pw_iload_n d236_10 rfl ?_
        refine pw_iload d236_11 rfl ?_
        refine pw_callV2 d236_13 k236_219 hT hA0 rfl rfl rfl (ct212 (τ := τ) (ρ := ρ) hT hA0 (by omega) (by omega)) (fun r13 h13 q13 => ?_)
        obtain ⟨eh13, z13, ez13, lz13, uz13, pz13_0, pz13_1⟩ := q13
        subst eh13
        subst ez13
        refine pw_iload_n d236_16 rfl ?_
        refine pw_icmp_ne d236_17 rfl (by omega) (by omega) (fun c17 => ?_) (fun c17 => ?_)
        · exact J37 () (by omega) (by omega) (by omega) (by omega)
        · refine pw_aload_n d236_20 rfl ?_
          refine pw_iload_n d236_21 rfl ?_
          refine pw_iload d236_22 rfl ?_
          refine pw_iconst d236_24 ?_
          refine pw_iadd d236_25 ?_
          refine pw_iconst d236_26 ?_
          refine pw_irem d236_27 (by omega) (by omega) (by omega) (by omega) ?_
          refine pw_callV2 d236_28 k236_219 hT hA0 rfl rfl rfl (ct212 (τ := τ) (ρ := ρ) hT hA0 (by omega) (by omega)) (fun r28 h28 q28 => ?_)
          obtain ⟨eh28, z28, ez28, lz28, uz28, pz28_0, pz28_1⟩ := q28
          subst eh28
          subst ez28
          refine pw_iload_n d236_31 rfl ?_
          refine pw_icmp_ne d236_32 rfl (by omega) (by omega) (fun c32 => ?_) (fun c32 => ?_)
          · exact J37 () (by omega) (by omega) (by omega) (by omega)
          · refine pw_iconst d236_35 ?_
            exact pw_ireturn d236_36 tt236 ⟨rfl, 1, rfl, (by omega), (by omega)⟩
  refine pw_iconst d236_0 ?_
  refine pw_istore d236_1 m236 rfl rfl ?_
  exact L3 _ (0) (by omega) (by omega) (by omega) (by omega) (pv_mu _)

abbrev Q235 (τ : Nat → Option Nat) (ρ : Nat → Nat → Nat) (h : pv_H) (a0 : Nat) (x1 : Int) (x2 : Int) : Option Value → pv_H → Prop := fun r h' => h = h' ∧ ∃ z : Int, r = some (.int (pv_I z)) ∧ (-1) ≤ z ∧ z ≤ 1
set_option maxHeartbeats 4000000 in
set_option maxRecDepth 20000 in
/-- AngleNetModel.mustTurn(II)I -/
theorem ct235 {τ : Nat → Option Nat} {ρ : Nat → Nat → Nat} {K : Nat → Nat} {h : pv_H} {a0 : Nat} {x1 : Int} {x2 : Int} (hT : pv_Ty τ ρ h) (hA0 : τ a0 = some 7) (hX1 : 0 ≤ x1 ∧ x1 ≤ 17) (hX2 : 0 ≤ x2 ∧ x2 ≤ 17) : pv_C K 235 [.ref a0, .int (pv_I x1), .int (pv_I x2)] h (Q235 τ ρ h a0 x1 x2) := by
  refine pw_entry 2 ?_
  show pv_T K 235 0 (pv_fl [some (.ref a0), some (.int (pv_I x1)), some (.int (pv_I x2)), none, none]) [] h (Q235 τ ρ h a0 x1 x2)
  have L2 : ∀ (nn : Nat) (xL3_2 : Int) (o4_2 : Option Value), (0 ≤ x1 ∧ x1 ≤ 17) → (0 ≤ x2 ∧ x2 ≤ 17) → (0 ≤ xL3_2 ∧ xL3_2 ≤ 3) → 3 - xL3_2 < nn → pv_T K 235 2 (pv_fl [some (.ref a0), some (.int (pv_I x1)), some (.int (pv_I x2)), some (.int (pv_I xL3_2)), o4_2]) [] h (Q235 τ ρ h a0 x1 x2) := by
    intro nn
    induction nn with
    | zero => intro xL3_2 o4_2 rL1_2 rL2_2 rL3_2 hm; exfalso; omega
    | succ nn ih2 =>
      intro xL3_2 o4_2 rL1_2 rL2_2 rL3_2 hm2
      refine pw_iload_n d235_2 rfl ?_
      refine pw_iconst d235_3 ?_
      refine pw_icmp_ge d235_4 rfl (by omega) (by omega) (fun c4 => ?_) (fun c4 => ?_)
      · refine pw_iconst d235_45 ?_
        exact pw_ireturn d235_46 tt235 ⟨rfl, 0, rfl, (by omega), (by omega)⟩
      · refine pw_aload_n d235_7 rfl ?_
        refine pw_iload_n d235_8 rfl ?_
        refine pw_aload_n d235_9 rfl ?_
        refine pw_iload_n d235_10 rfl ?_
        refine pw_iload_n d235_11 rfl ?_
        refine pw_callV2 d235_12 k235_219 hT hA0 rfl rfl rfl (ct212 (τ := τ) (ρ := ρ) hT hA0 (by omega) (by omega)) (fun r12 h12 q12 => ?_)
        obtain ⟨eh12, z12, ez12, lz12, uz12, pz12_0, pz12_1⟩ := q12
        subst eh12
        subst ez12
        refine pw_aload_n d235_15 rfl ?_
        refine pw_iload_n d235_16 rfl ?_
        refine pw_iload_n d235_17 rfl ?_
        refine pw_iconst d235_18 ?_
        refine pw_iadd d235_19 ?_
        refine pw_iconst d235_20 ?_
        refine pw_irem d235_21 (by omega) (by omega) (by omega) (by omega) ?_
        refine pw_callV2 d235_22 k235_219 hT hA0 rfl rfl rfl (ct212 (τ := τ) (ρ := ρ) hT hA0 (by omega) (by omega)) (fun r22 h22 q22 => ?_)
        obtain ⟨eh22, z22, ez22, lz22, uz22, pz22_0, pz22_1⟩ := q22
        subst eh22
        subst ez22
        refine pw_callV3 d235_25 k235_252 hT hA0 rfl rfl rfl (ct236 (τ := τ) (ρ := ρ) hT hA0 (by omega) (by omega) (by omega)) (fun r25 h25 q25 => ?_)
        obtain ⟨eh25, z25, ez25, lz25, uz25⟩ := q25
        subst eh25
        subst ez25
        refine pw_istore d235_28 m235 rfl rfl ?_
        refine pw_iload d235_30 rfl ?_
        refine pw_if_eq d235_32 rfl (by omega) (fun c32 => ?_) (fun c32 => ?_)
        · refine pw_iinc d235_39 m235 rfl rfl rfl ?_
          refine pw_goto d235_42 rfl ?_
          exact ih2 ((xL3_2 + 1)) _ (by omega) (by omega) (by omega) (by omega)
        · refine pw_iload d235_35 rfl ?_
          refine pw_ineg d235_37 ?_
          exact pw_ireturn d235_38 tt235 ⟨rfl, (-z25), rfl, (by omega), (by omega)⟩
  refine pw_iconst d235_0 ?_
  refine pw_istore_n d235_1 m235 rfl rfl ?_
  exact L2 _ (0) _ (by omega) (by omega) (by omega) (pv_mu _)

abbrev Q234 (τ : Nat → Option Nat) (ρ : Nat → Nat → Nat) (h : pv_H) (a0 : Nat) : Option Value → pv_H → Prop := fun r h' => pv_Ty τ ρ h' ∧ pv_Fr τ [3007] h h' ∧ ∃ z : Int, r = some (.int (pv_I z)) ∧ 0 ≤ z ∧ z ≤ 1
set_option maxHeartbeats 4000000 in
set_option maxRecDepth 20000 in
/-- AngleNetModel.isTwoSided()Z -/
theorem ct234 {τ : Nat → Option Nat} {ρ : Nat → Nat → Nat} {K : Nat → Nat} {h : pv_H} {a0 : Nat} (hT : pv_Ty τ ρ h) (hA0 : τ a0 = some 7) : pv_C K 234 [.ref a0] h (Q234 τ ρ h a0) := by
  refine pw_entry 5 ?_
  show pv_T K 234 0 (pv_fl [some (.ref a0), none, none, none, none, none]) [] h (Q234 τ ρ h a0)
  have hF0 : pv_Fr τ [3007] h h := pv_Fr.rf
  have L168 : ∀ (nn : Nat) (h_168 : pv_H) (xL1_168 xL2_168 : Int) (o3_168 o4_168 o5_168 : Option Value), (pv_Ty τ ρ h_168) → (pv_Fr τ [3007] h h_168) → (0 ≤ xL1_168 ∧ xL1_168 ≤ 1) → (0 ≤ xL2_168 ∧ xL2_168 ≤ 18) → 18 - xL2_168 < nn → pv_T K 234 168 (pv_fl [some (.ref a0), some (.int (pv_I xL1_168)), some (.int (pv_I xL2_168)), o3_168, o4_168, o5_168]) [] h_168 (Q234 τ ρ h a0) := by
    intro nn
    induction nn with
    | zero => intro h_168 xL1_168 xL2_168 o3_168 o4_168 o5_168 hT_168 hF_168 rL1_168 rL2_168 hm; exfalso; omega
    | succ nn ih168 =>
      intro h_168 xL1_168 xL2_168 o3_168 o4_168 o5_168 hT_168 hF_168 rL1_168 rL2_168 hm168
      have L178 : ∀ (nn : Nat) (xL1_178 xL3_178 : Int) (o4_178 o5_178 : Option Value), (0 ≤ xL1_178 ∧ xL1_178 ≤ 1) → (0 ≤ xL2_168 ∧ xL2_168 ≤ 17) → (0 ≤ xL3_178 ∧ xL3_178 ≤ 18) → 18 - xL3_178 < nn → pv_T K 234 178 (pv_fl [some (.ref a0), some (.int (pv_I xL1_178)), some (.int (pv_I xL2_168)), some (.int (pv_I xL3_178)), o4_178, o5_178]) [] h_168 (Q234 τ ρ h a0) := by
        intro nn
        induction nn with
        | zero => intro xL1_178 xL3_178 o4_178 o5_178 rL1_178 rL2_178 rL3_178 hm; exfalso; omega
        | succ nn ih178 =>
          intro xL1_178 xL3_178 o4_178 o5_178 rL1_178 rL2_178 rL3_178 hm178
          have J223 : ∀ (xS0_223 : Int) (o1_223 o4_223 o5_223 : Option Value), (1 ≤ xL2_168 ∧ xL2_168 ≤ 17) → (0 ≤ xL3_178 ∧ xL3_178 ≤ 17) → (0 ≤ xS0_223 ∧ xS0_223 ≤ 1) → pv_T K 234 223 (pv_fl [some (.ref a0), o1_223, some (.int (pv_I xL2_168)), some (.int (pv_I xL3_178)), o4_223, o5_223]) [.int (pv_I xS0_223)] h_168 (Q234 τ ρ h a0) := by
            intro xS0_223 o1_223 o4_223 o5_223 rL2_223 rL3_223 rS0_223
            refine pw_istore_n d234_223 m234 rfl rfl ?_
            refine pw_iinc d234_224 m234 rfl rfl rfl ?_
            refine pw_goto d234_227 rfl ?_
            exact ih178 (xS0_223) ((xL3_178 + 1)) _ _ (by omega) (by omega) (by omega) (by omega)
          have J222 : ∀ (o1_222 o4_222 o5_222 : Option Value), (1 ≤ xL2_168 ∧ xL2_168 ≤ 17) → (0 ≤ xL3_178 ∧ xL3_178 ≤ 17) → pv_T K 234 222 (pv_fl [some (.ref a0), o1_222, some (.int (pv_I xL2_168)), some (.int (pv_I xL3_178)), o4_222, o5_222]) [] h_168 (Q234 τ ρ h a0) := by
            intro o1_222 o4_222 o5_222 rL2_222 rL3_222
            refine pw_iconst d234_222 ?_
            exact J223 (0) _ _ _ (by omega) (by omega) (by omega)
          have J218 : ∀ (o1_218 o4_218 o5_218 : Option Value), (1 ≤ xL2_168 ∧ xL2_168 ≤ 17) → (0 ≤ xL3_178 ∧ xL3_178 ≤ 17) → pv_T K 234 218 (pv_fl [some (.ref a0), o1_218, some (.int (pv_I xL2_168)), some (.int (pv_I xL3_178)), o4_218, o5_218]) [] h_168 (Q234 τ ρ h a0) := by
            intro o1_218 o4_218 o5_218 rL2_218 rL3_218
            refine pw_iconst d234_218 ?_
            refine pw_goto d234_219 rfl ?_
            exact J223 (1) _ _ _ (by omega) (by omega) (by omega)
          refine pw_iload_n d234_178 rfl ?_
          refine pw_iload_n d234_179 rfl ?_
          refine pw_icmp_ge d234_180 rfl (by omega) (by omega) (fun c180 => ?_) (fun c180 => ?_)
          · refine pw_iinc d234_230 m234 rfl rfl rfl ?_
            refine pw_goto d234_233 rfl ?_
            exact ih168 h_168 (xL1_178) ((xL2_168 + 1)) _ _ _ hT_168 hF_168 (by omega) (by omega) (by omega)
          · refine pw_iload_n d234_183 rfl ?_
            refine pw_if_eq d234_184 rfl (by omega) (fun c184 => ?_) (fun c184 => ?_)
            · exact J222 _ _ _ (by omega) (by omega)
            · refine pw_aload_n d234_187 rfl ?_
              refine pw_iload_n d234_188 rfl ?_
              refine pw_iload_n d234_189 rfl ?_
              refine pw_callV2 d234_190 k234_256 hT_168 hA0 rfl rfl rfl (ct235 (τ := τ) (ρ := ρ) hT_168 hA0 (by omega) (by omega)) (fun r190 h190 q190 => ?_)
              obtain ⟨eh190, z190, ez190, lz190, uz190⟩ := q190
              subst eh190
              subst ez190
              refine pw_if_eq d234_193 rfl (by omega) (fun c193 => ?_) (fun c193 => ?_)
              · exact J218 _ _ _ (by omega) (by omega)
              · refine pw_aload_n d234_196 rfl ?_
                refine pw_getR d234_197 g234_34 hT_168 hA0 rfl rfl (fun t197 => ?_)
                have t197 : τ (ρ a0 15) = some 46 := t197
                refine pw_iload_n d234_200 rfl ?_
                refine pw_iald d234_201 hT_168 t197 rfl rfl (by omega) (by omega) (fun u201 vu201 => ?_)
                refine pw_aload_n d234_202 rfl ?_
                refine pw_getR d234_203 g234_34 hT_168 hA0 rfl rfl (fun t203 => ?_)
                have t203 : τ (ρ a0 15) = some 46 := t203
                refine pw_iload_n d234_206 rfl ?_
                refine pw_iald d234_207 hT_168 t203 rfl rfl (by omega) (by omega) (fun u207 vu207 => ?_)
                refine pw_aload_n d234_208 rfl ?_
                refine pw_iload_n d234_209 rfl ?_
                refine pw_iload_n d234_210 rfl ?_
                refine pw_callV2 d234_211 k234_256 hT_168 hA0 rfl rfl rfl (ct235 (τ := τ) (ρ := ρ) hT_168 hA0 (by omega) (by omega)) (fun r211 h211 q211 => ?_)
                obtain ⟨eh211, z211, ez211, lz211, uz211⟩ := q211
                subst eh211
                subst ez211
                refine pw_imul d234_214 ?_
                refine pw_any (fun z214 hz214 ez214 => ?_)
                refine pw_icmp_ne d234_215 rfl (by omega) (by omega) (fun c215 => ?_) (fun c215 => ?_)
                · exact J222 _ _ _ (by omega) (by omega)
                · exact J218 _ _ _ (by omega) (by omega)
      refine pw_iload_n d234_168 rfl ?_
      refine pw_aload_n d234_169 rfl ?_
      refine pw_callV0 d234_170 k234_216 hT_168 hA0 rfl rfl rfl (ct216 (τ := τ) (ρ := ρ) hT_168 hA0) (fun r170 h170 q170 => ?_)
      obtain ⟨eh170, z170, ez170, lz170, uz170, pz170_0⟩ := q170
      subst eh170
      subst ez170
      refine pw_icmp_ge d234_173 rfl (by omega) (by omega) (fun c173 => ?_) (fun c173 => ?_)
      · refine pw_iload_n d234_236 rfl ?_
        exact pw_zreturn d234_237 tt234 (by omega) ⟨hT_168, hF_168, xL1_168, rfl, (by omega), (by omega)⟩
      · refine pw_iconst d234_176 ?_
        refine pw_istore_n d234_177 m234 rfl rfl ?_
        exact L178 _ (xL1_168) (0) _ _ (by omega) (by omega) (by omega) (pv_mu _)
  have L27 : ∀ (nn : Nat) (h_27 : pv_H) (xL1_27 xL2_27 : Int) (o3_27 o4_27 o5_27 : Option Value), (pv_Ty τ ρ h_27) → (pv_Fr τ [3007] h h_27) → (1 ≤ xL1_27 ∧ xL1_27 ≤ 1) → (0 ≤ xL2_27 ∧ xL2_27 ≤ 18) → 18 - xL2_27 < nn → pv_T K 234 27 (pv_fl [some (.ref a0), some (.int (pv_I xL1_27)), some (.int (pv_I xL2_27)), o3_27, o4_27, o5_27]) [] h_27 (Q234 τ ρ h a0) := by
    intro nn
    induction nn with
    | zero => intro h_27 xL1_27 xL2_27 o3_27 o4_27 o5_27 hT_27 hF_27 rL1_27 rL2_27 hm; exfalso; omega
    | succ nn ih27 =>
      intro h_27 xL1_27 xL2_27 o3_27 o4_27 o5_27 hT_27 hF_27 rL1_27 rL2_27 hm27
      have L62 : ∀ (nn : Nat) (h_62 : pv_H) (xL3_62 : Int) (o4_62 o5_62 : Option Value), (pv_Ty τ ρ h_62) → (pv_Fr τ [3007] h h_62) → (1 ≤ xL1_27 ∧ xL1_27 ≤ 1) → (0 ≤ xL2_27 ∧ xL2_27 ≤ 17) → (0 ≤ xL3_62 ∧ xL3_62 ≤ 18) → 18 - xL3_62 < nn → pv_T K 234 62 (pv_fl [some (.ref a0), some (.int (pv_I xL1_27)), some (.int (pv_I xL2_27)), some (.int (pv_I xL3_62)), o4_62, o5_62]) [] h_62 (Q234 τ ρ h a0) := by
        intro nn
        induction nn with
        | zero => intro h_62 xL3_62 o4_62 o5_62 hT_62 hF_62 rL1_62 rL2_62 rL3_62 hm; exfalso; omega
        | succ nn ih62 =>
          intro h_62 xL3_62 o4_62 o5_62 hT_62 hF_62 rL1_62 rL2_62 rL3_62 hm62
          have L71 : ∀ (nn : Nat) (h_71 : pv_H) (xL4_71 : Int) (o5_71 : Option Value), (pv_Ty τ ρ h_71) → (pv_Fr τ [3007] h h_71) → (1 ≤ xL1_27 ∧ xL1_27 ≤ 1) → (0 ≤ xL2_27 ∧ xL2_27 ≤ 17) → (0 ≤ xL3_62 ∧ xL3_62 ≤ 17) → (0 ≤ xL4_71 ∧ xL4_71 ≤ 18) → 18 - xL4_71 < nn → pv_T K 234 71 (pv_fl [some (.ref a0), some (.int (pv_I xL1_27)), some (.int (pv_I xL2_27)), some (.int (pv_I xL3_62)), some (.int (pv_I xL4_71)), o5_71]) [] h_71 (Q234 τ ρ h a0) := by
            intro nn
            induction nn with
            | zero => intro h_71 xL4_71 o5_71 hT_71 hF_71 rL1_71 rL2_71 rL3_71 rL4_71 hm; exfalso; omega
            | succ nn ih71 =>
              intro h_71 xL4_71 o5_71 hT_71 hF_71 rL1_71 rL2_71 rL3_71 rL4_71 hm71
              have L83 : ∀ (nn : Nat) (h_83 : pv_H) (xL5_83 : Int), (pv_Ty τ ρ h_83) → (pv_Fr τ [3007] h h_83) → (1 ≤ xL1_27 ∧ xL1_27 ≤ 1) → (0 ≤ xL2_27 ∧ xL2_27 ≤ 17) → (0 ≤ xL3_62 ∧ xL3_62 ≤ 17) → (0 ≤ xL4_71 ∧ xL4_71 ≤ 17) → (0 ≤ xL5_83 ∧ xL5_83 ≤ 18) → 18 - xL5_83 < nn → pv_T K 234 83 (pv_fl [some (.ref a0), some (.int (pv_I xL1_27)), some (.int (pv_I xL2_27)), some (.int (pv_I xL3_62)), some (.int (pv_I xL4_71)), some (.int (pv_I xL5_83))]) [] h_83 (Q234 τ ρ h a0) := by
                intro nn
                induction nn with
                | zero => intro h_83 xL5_83 hT_83 hF_83 rL1_83 rL2_83 rL3_83 rL4_83 rL5_83 hm; exfalso; omega
                | succ nn ih83 =>
                  intro h_83 xL5_83 hT_83 hF_83 rL1_83 rL2_83 rL3_83 rL4_83 rL5_83 hm83
                  have J142 : ∀ (h_142 : pv_H), (pv_Ty τ ρ h_142) → (pv_Fr τ [3007] h h_142) → (1 ≤ xL1_27 ∧ xL1_27 ≤ 1) → (0 ≤ xL2_27 ∧ xL2_27 ≤ 17) → (0 ≤ xL3_62 ∧ xL3_62 ≤ 17) → (0 ≤ xL4_71 ∧ xL4_71 ≤ 17) → (0 ≤ xL5_83 ∧ xL5_83 ≤ 17) → pv_T K 234 142 (pv_fl [some (.ref a0), some (.int (pv_I xL1_27)), some (.int (pv_I xL2_27)), some (.int (pv_I xL3_62)), some (.int (pv_I xL4_71)), some (.int (pv_I xL5_83))]) [] h_142 (Q234 τ ρ h a0) := by
                    intro h_142 hT_142 hF_142 rL1_142 rL2_142 rL3_142 rL4_142 rL5_142
                    refine pw_iinc d234_142 m234 rfl rfl rfl ?_
                    refine pw_goto d234_145 rfl ?_
                    exact ih83 h_142 ((xL5_83 + 1)) hT_142 hF_142 (by omega) (by omega) (by omega) (by omega) (by omega) (by omega)
                  refine pw_iload d234_83 rfl ?_
                  refine pw_aload_n d234_85 rfl ?_
                  refine pw_callV0 d234_86 k234_216 hT_83 hA0 rfl rfl rfl (ct216 (τ := τ) (ρ := ρ) hT_83 hA0) (fun r86 h86 q86 => ?_)
                  obtain ⟨eh86, z86, ez86, lz86, uz86, pz86_0⟩ := q86
                  subst eh86
                  subst ez86
                  refine pw_icmp_ge d234_89 rfl (by omega) (by omega) (fun c89 => ?_) (fun c89 => ?_)
                  · refine pw_iinc d234_148 m234 rfl rfl rfl ?_
                    refine pw_goto d234_151 rfl ?_
                    exact ih71 h_83 ((xL4_71 + 1)) _ hT_83 hF_83 (by omega) (by omega) (by omega) (by omega) (by omega)
                  · refine pw_iload d234_92 rfl ?_
                    refine pw_iload d234_94 rfl ?_
                    refine pw_icmp_eq d234_96 rfl (by omega) (by omega) (fun c96 => ?_) (fun c96 => ?_)
                    · exact J142 h_83 hT_83 hF_83 (by omega) (by omega) (by omega) (by omega) (by omega)
                    · refine pw_aload_n d234_99 rfl ?_
                      refine pw_getR d234_100 g234_34 hT_83 hA0 rfl rfl (fun t100 => ?_)
                      have t100 : τ (ρ a0 15) = some 46 := t100
                      refine pw_iload d234_103 rfl ?_
                      refine pw_iald d234_105 hT_83 t100 rfl rfl (by omega) (by omega) (fun u105 vu105 => ?_)
                      refine pw_if_eq d234_106 rfl (by omega) (fun c106 => ?_) (fun c106 => ?_)
                      · exact J142 h_83 hT_83 hF_83 (by omega) (by omega) (by omega) (by omega) (by omega)
                      · refine pw_aload_n d234_109 rfl ?_
                        refine pw_getR d234_110 g234_34 hT_83 hA0 rfl rfl (fun t110 => ?_)
                        have t110 : τ (ρ a0 15) = some 46 := t110
                        refine pw_iload d234_113 rfl ?_
                        refine pw_iald d234_115 hT_83 t110 rfl rfl (by omega) (by omega) (fun u115 vu115 => ?_)
                        refine pw_if_ne d234_116 rfl (by omega) (fun c116 => ?_) (fun c116 => ?_)
                        · exact J142 h_83 hT_83 hF_83 (by omega) (by omega) (by omega) (by omega) (by omega)
                        · refine pw_aload_n d234_119 rfl ?_
                          refine pw_getR d234_120 g234_34 hT_83 hA0 rfl rfl (fun t120 => ?_)
                          have t120 : τ (ρ a0 15) = some 46 := t120
                          refine pw_iload d234_123 rfl ?_
                          refine pw_aload_n d234_125 rfl ?_
                          refine pw_getR d234_126 g234_34 hT_83 hA0 rfl rfl (fun t126 => ?_)
                          have t126 : τ (ρ a0 15) = some 46 := t126
                          refine pw_iload d234_129 rfl ?_
                          refine pw_iald d234_131 hT_83 t126 rfl rfl (by omega) (by omega) (fun u131 vu131 => ?_)
                          refine pw_aload_n d234_132 rfl ?_
                          refine pw_iload d234_133 rfl ?_
                          refine pw_iload d234_135 rfl ?_
                          refine pw_callV2 d234_137 k234_256 hT_83 hA0 rfl rfl rfl (ct235 (τ := τ) (ρ := ρ) hT_83 hA0 (by omega) (by omega)) (fun r137 h137 q137 => ?_)
                          obtain ⟨eh137, z137, ez137, lz137, uz137⟩ := q137
                          subst eh137
                          subst ez137
                          refine pw_imul d234_140 ?_
                          refine pw_any (fun z140 hz140 ez140 => ?_)
                          refine pw_iast d234_141 hT_83 t126 rfl rfl rfl (by omega) (by omega) (by omega) (by omega) (fun h141 T141 F141 E141 => ?_)
                          have f141 := hF_83.tr (F141.up (by decide))
                          exact J142 h141 T141 f141 (by omega) (by omega) (by omega) (by omega) (by omega)
              refine pw_iload d234_71 rfl ?_
              refine pw_aload_n d234_73 rfl ?_
              refine pw_callV0 d234_74 k234_216 hT_71 hA0 rfl rfl rfl (ct216 (τ := τ) (ρ := ρ) hT_71 hA0) (fun r74 h74 q74 => ?_)
              obtain ⟨eh74, z74, ez74, lz74, uz74, pz74_0⟩ := q74
              subst eh74
              subst ez74
              refine pw_icmp_ge d234_77 rfl (by omega) (by omega) (fun c77 => ?_) (fun c77 => ?_)
              · refine pw_iinc d234_154 m234 rfl rfl rfl ?_
                refine pw_goto d234_157 rfl ?_
                exact ih62 h_71 ((xL3_62 + 1)) _ _ hT_71 hF_71 (by omega) (by omega) (by omega) (by omega)
              · refine pw_iconst d234_80 ?_
                refine pw_istore d234_81 m234 rfl rfl ?_
                exact L83 _ h_71 (0) hT_71 hF_71 (by omega) (by omega) (by omega) (by omega) (by omega) (pv_mu _)
          refine pw_iload_n d234_62 rfl ?_
          refine pw_bipush d234_63 (by decide) ?_
          refine pw_icmp_ge d234_65 rfl (by omega) (by omega) (fun c65 => ?_) (fun c65 => ?_)
          · refine pw_iinc d234_160 m234 rfl rfl rfl ?_
            refine pw_goto d234_163 rfl ?_
            exact ih27 h_62 (xL1_27) ((xL2_27 + 1)) _ _ _ hT_62 hF_62 (by omega) (by omega) (by omega)
          · refine pw_iconst d234_68 ?_
            refine pw_istore d234_69 m234 rfl rfl ?_
            exact L71 _ h_62 (0) _ hT_62 hF_62 (by omega) (by omega) (by omega) (by omega) (pv_mu _)
      have J59 : ∀ (xS0_59 : Int) (o3_59 o4_59 o5_59 : Option Value), (1 ≤ xL1_27 ∧ xL1_27 ≤ 1) → (0 ≤ xL2_27 ∧ xL2_27 ≤ 17) → ((-2147483648) ≤ xS0_59 ∧ xS0_59 ≤ 2147483647) → (0 ≤ xL2_27 ∧ xL2_27 ≤ 17) → (τ (ρ a0 15) = some 46) → pv_T K 234 59 (pv_fl [some (.ref a0), some (.int (pv_I xL1_27)), some (.int (pv_I xL2_27)), o3_59, o4_59, o5_59]) [.int (pv_I xS0_59), .int (pv_I xL2_27), .ref (ρ a0 15)] h_27 (Q234 τ ρ h a0) := by
        intro xS0_59 o3_59 o4_59 o5_59 rL1_59 rL2_59 rS0_59 rS1_59 t_59_ρa015
        refine pw_iast d234_59 hT_27 t_59_ρa015 rfl rfl rfl (by omega) (by omega) (by omega) (by omega) (fun h59 T59 F59 E59 => ?_)
        have f59 := hF_27.tr (F59.up (by decide))
        refine pw_iconst d234_60 ?_
        refine pw_istore_n d234_61 m234 rfl rfl ?_
        exact L62 _ h59 (0) _ _ T59 f59 (by omega) (by omega) (by omega) (pv_mu _)
      refine pw_iload_n d234_27 rfl ?_
      refine pw_aload_n d234_28 rfl ?_
      refine pw_callV0 d234_29 k234_216 hT_27 hA0 rfl rfl rfl (ct216 (τ := τ) (ρ := ρ) hT_27 hA0) (fun r29 h29 q29 => ?_)
      obtain ⟨eh29, z29, ez29, lz29, uz29, pz29_0⟩ := q29
      subst eh29
      subst ez29
      refine pw_icmp_ge d234_32 rfl (by omega) (by omega) (fun c32 => ?_) (fun c32 => ?_)
      · refine pw_iconst d234_166 ?_
        refine pw_istore_n d234_167 m234 rfl rfl ?_
        exact L168 _ h_27 (xL1_27) (0) _ _ _ hT_27 hF_27 (by omega) (by omega) (pv_mu _)
      · refine pw_aload_n d234_35 rfl ?_
        refine pw_getR d234_36 g234_34 hT_27 hA0 rfl rfl (fun t36 => ?_)
        have t36 : τ (ρ a0 15) = some 46 := t36
        refine pw_iload_n d234_39 rfl ?_
        refine pw_aload_n d234_40 rfl ?_
        refine pw_getR d234_41 g234_34 hT_27 hA0 rfl rfl (fun t41 => ?_)
        have t41 : τ (ρ a0 15) = some 46 := t41
        refine pw_iload_n d234_44 rfl ?_
        refine pw_iald d234_45 hT_27 t41 rfl rfl (by omega) (by omega) (fun u45 vu45 => ?_)
        refine pw_if_ne d234_46 rfl (by omega) (fun c46 => ?_) (fun c46 => ?_)
        · refine pw_aload_n d234_53 rfl ?_
          refine pw_getR d234_54 g234_34 hT_27 hA0 rfl rfl (fun t54 => ?_)
          have t54 : τ (ρ a0 15) = some 46 := t54
          refine pw_iload_n d234_57 rfl ?_
          refine pw_iald d234_58 hT_27 t54 rfl rfl (by omega) (by omega) (fun u58 vu58 => ?_)
          exact J59 ((pv_aI h_27 (ρ a0 15) (xL2_27).toNat)) _ _ _ (by omega) (by omega) (by omega) (by omega) t54
        · refine pw_iconst d234_49 ?_
          refine pw_goto d234_50 rfl ?_
          exact J59 (1) _ _ _ (by omega) (by omega) (by omega) (by omega) t41
  have L2 : ∀ (nn : Nat) (h_2 : pv_H) (xL1_2 : Int) (o2_2 o3_2 o4_2 o5_2 : Option Value), (pv_Ty τ ρ h_2) → (pv_Fr τ [3007] h h_2) → (0 ≤ xL1_2 ∧ xL1_2 ≤ 18) → 18 - xL1_2 < nn → pv_T K 234 2 (pv_fl [some (.ref a0), some (.int (pv_I xL1_2)), o2_2, o3_2, o4_2, o5_2]) [] h_2 (Q234 τ ρ h a0) := by
    intro nn
    induction nn with
    | zero => intro h_2 xL1_2 o2_2 o3_2 o4_2 o5_2 hT_2 hF_2 rL1_2 hm; exfalso; omega
    | succ nn ih2 =>
      intro h_2 xL1_2 o2_2 o3_2 o4_2 o5_2 hT_2 hF_2 rL1_2 hm2
      refine pw_iload_n d234_2 rfl ?_
      refine pw_aload_n d234_3 rfl ?_
      refine pw_callV0 d234_4 k234_216 hT_2 hA0 rfl rfl rfl (ct216 (τ := τ) (ρ := ρ) hT_2 hA0) (fun r4 h4 q4 => ?_)
      obtain ⟨eh4, z4, ez4, lz4, uz4, pz4_0⟩ := q4
      subst eh4
      subst ez4
      refine pw_icmp_ge d234_7 rfl (by omega) (by omega) (fun c7 => ?_) (fun c7 => ?_)
      · refine pw_iconst d234_23 ?_
        refine pw_istore_n d234_24 m234 rfl rfl ?_
        refine pw_iconst d234_25 ?_
        refine pw_istore_n d234_26 m234 rfl rfl ?_
        exact L27 _ h_2 (1) (0) _ _ _ hT_2 hF_2 (by omega) (by omega) (pv_mu _)
      · refine pw_aload_n d234_10 rfl ?_
        refine pw_getR d234_11 g234_34 hT_2 hA0 rfl rfl (fun t11 => ?_)
        have t11 : τ (ρ a0 15) = some 46 := t11
        refine pw_iload_n d234_14 rfl ?_
        refine pw_iconst d234_15 ?_
        refine pw_iast d234_16 hT_2 t11 rfl rfl rfl (by omega) (by omega) (by omega) (by omega) (fun h16 T16 F16 E16 => ?_)
        have f16 := hF_2.tr (F16.up (by decide))
        refine pw_iinc d234_17 m234 rfl rfl rfl ?_
        refine pw_goto d234_20 rfl ?_
        exact ih2 h16 ((xL1_2 + 1)) _ _ _ _ T16 f16 (by omega) (by omega)
  refine pw_iconst d234_0 ?_
  refine pw_istore_n d234_1 m234 rfl rfl ?_
  exact L2 _ h (0) _ _ _ _ hT hF0 (by omega) (pv_mu _)

abbrev Q225 (τ : Nat → Option Nat) (ρ : Nat → Nat → Nat) (h : pv_H) (a0 : Nat) : Option Value → pv_H → Prop := fun r h' => h = h' ∧ ∃ z : Int, r = some (.int (pv_I z)) ∧ (-2147483648) ≤ z ∧ z ≤ 2147483647
set_option maxHeartbeats 4000000 in
set_option maxRecDepth 20000 in
/-- AngleNetModel.euler()I -/
theorem ct225 {τ : Nat → Option Nat} {ρ : Nat → Nat → Nat} {K : Nat → Nat} {h : pv_H} {a0 : Nat} (hT : pv_Ty τ ρ h) (hA0 : τ a0 = some 7) : pv_C K 225 [.ref a0] h (Q225 τ ρ h a0) := by
  refine pw_entry 0 ?_
  show pv_T K 225 0 (pv_fl [some (.ref a0)]) [] h (Q225 τ ρ h a0)
  refine pw_aload_n d225_0 rfl ?_
  refine pw_callV0 d225_1 k225_259 hT hA0 rfl rfl rfl (ct226 (τ := τ) (ρ := ρ) hT hA0) (fun r1 h1 q1 => ?_)
  obtain ⟨eh1, z1, ez1, lz1, uz1⟩ := q1
  subst eh1
  subst ez1
  refine pw_callS1 d225_4 k225_262 rfl rfl (ct227 (τ := τ) (ρ := ρ) (by omega)) (fun r4 h4 q4 => ?_)
  obtain ⟨eh4, z4, ez4, lz4, uz4⟩ := q4
  subst eh4
  subst ez4
  refine pw_aload_n d225_7 rfl ?_
  refine pw_callV0 d225_8 k225_265 hT hA0 rfl rfl rfl (ct228 (τ := τ) (ρ := ρ) hT hA0) (fun r8 h8 q8 => ?_)
  obtain ⟨eh8, z8, ez8, lz8, uz8⟩ := q8
  subst eh8
  subst ez8
  refine pw_isub d225_11 ?_
  refine pw_aload_n d225_12 rfl ?_
  refine pw_callV0 d225_13 k225_216 hT hA0 rfl rfl rfl (ct216 (τ := τ) (ρ := ρ) hT hA0) (fun r13 h13 q13 => ?_)
  obtain ⟨eh13, z13, ez13, lz13, uz13, pz13_0⟩ := q13
  subst eh13
  subst ez13
  refine pw_iadd d225_16 ?_
  refine pw_any (fun z17 hz17 ez17 => ?_)
  exact pw_ireturn d225_17 tt225 ⟨rfl, z17, rfl, (by omega), (by omega)⟩

abbrev Q239 (τ : Nat → Option Nat) (ρ : Nat → Nat → Nat) (h : pv_H) (a0 : Nat) : Option Value → pv_H → Prop := fun r h' => pv_Ty τ ρ h' ∧ pv_Fr τ [3007] h h' ∧ ∃ z : Int, r = some (.int (pv_I z)) ∧ (-2147483648) ≤ z ∧ z ≤ 2147483647
set_option maxHeartbeats 4000000 in
set_option maxRecDepth 20000 in
/-- AngleNetModel.handles()I -/
theorem ct239 {τ : Nat → Option Nat} {ρ : Nat → Nat → Nat} {K : Nat → Nat} {h : pv_H} {a0 : Nat} (hT : pv_Ty τ ρ h) (hA0 : τ a0 = some 7) : pv_C K 239 [.ref a0] h (Q239 τ ρ h a0) := by
  refine pw_entry 1 ?_
  show pv_T K 239 0 (pv_fl [some (.ref a0), none]) [] h (Q239 τ ρ h a0)
  have hF0 : pv_Fr τ [3007] h h := pv_Fr.rf
  have J32 : ∀ (h_32 : pv_H) (xS0_32 : Int) (o1_32 : Option Value), (pv_Ty τ ρ h_32) → (pv_Fr τ [3007] h h_32) → (0 ≤ xS0_32 ∧ xS0_32 ≤ 1) → pv_T K 239 32 (pv_fl [some (.ref a0), o1_32]) [.int (pv_I xS0_32)] h_32 (Q239 τ ρ h a0) := by
    intro h_32 xS0_32 o1_32 hT_32 hF_32 rS0_32
    refine pw_istore_n d239_32 m239 rfl rfl ?_
    refine pw_iload_n d239_33 rfl ?_
    refine pw_if_eq d239_34 rfl (by omega) (fun c34 => ?_) (fun c34 => ?_)
    · refine pw_iconst d239_58 ?_
      exact pw_ireturn d239_59 tt239 ⟨hT_32, hF_32, (-1), rfl, (by omega), (by omega)⟩
    · refine pw_iconst d239_37 ?_
      refine pw_aload_n d239_38 rfl ?_
      refine pw_callV0 d239_39 k239_277 hT_32 hA0 rfl rfl rfl (ct225 (τ := τ) (ρ := ρ) hT_32 hA0) (fun r39 h39 q39 => ?_)
      obtain ⟨eh39, z39, ez39, lz39, uz39⟩ := q39
      subst eh39
      subst ez39
      refine pw_isub d239_42 ?_
      refine pw_aload_n d239_43 rfl ?_
      refine pw_aload_n d239_44 rfl ?_
      refine pw_callV0 d239_45 k239_280 hT_32 hA0 rfl rfl rfl (ct238 (τ := τ) (ρ := ρ) hT_32 hA0) (fun r45 h45 q45 => ?_)
      obtain ⟨eh45, z45, ez45, lz45, uz45⟩ := q45
      subst eh45
      subst ez45
      refine pw_iconst d239_48 ?_
      refine pw_callV2 d239_49 k239_274 hT_32 hA0 rfl rfl rfl (ct232 (τ := τ) (ρ := ρ) hT_32 hA0 (by omega) (by omega)) (fun r49 h49 q49 => ?_)
      obtain ⟨eh49, z49, ez49, lz49, uz49⟩ := q49
      subst eh49
      subst ez49
      refine pw_isub d239_52 ?_
      refine pw_iconst d239_53 ?_
      refine pw_idivU d239_54 (by omega) (by omega) (fun z54 hz54 ez54 => ?_)
      refine pw_goto d239_55 rfl ?_
      exact pw_ireturn d239_59 tt239 ⟨hT_32, hF_32, z54, rfl, (by omega), (by omega)⟩
  have J31 : ∀ (h_31 : pv_H) (o1_31 : Option Value), (pv_Ty τ ρ h_31) → (pv_Fr τ [3007] h h_31) → pv_T K 239 31 (pv_fl [some (.ref a0), o1_31]) [] h_31 (Q239 τ ρ h a0) := by
    intro h_31 o1_31 hT_31 hF_31
    refine pw_iconst d239_31 ?_
    exact J32 h_31 (0) _ hT_31 hF_31 (by omega)
  refine pw_aload_n d239_0 rfl ?_
  refine pw_callV0 d239_1 k239_268 hT hA0 rfl rfl rfl (ct229 (τ := τ) (ρ := ρ) hT hA0) (fun r1 h1 q1 => ?_)
  obtain ⟨eh1, z1, ez1, lz1, uz1⟩ := q1
  subst eh1
  subst ez1
  refine pw_if_eq d239_4 rfl (by omega) (fun c4 => ?_) (fun c4 => ?_)
  · exact J31 h _ hT hF0
  · refine pw_aload_n d239_7 rfl ?_
    refine pw_callV0 d239_8 k239_271 hT hA0 rfl rfl rfl (ct234 (τ := τ) (ρ := ρ) hT hA0) (fun r8 h8 q8 => ?_)
    obtain ⟨T8, F8, z8, ez8, lz8, uz8⟩ := q8
    subst ez8
    have f8 := hF0.tr (F8.up (by decide))
    refine pw_if_eq d239_11 rfl (by omega) (fun c11 => ?_) (fun c11 => ?_)
    · exact J31 h8 _ T8 f8
    · refine pw_aload_n d239_14 rfl ?_
      refine pw_aload_n d239_15 rfl ?_
      refine pw_callV0 d239_16 k239_259 T8 hA0 rfl rfl rfl (ct226 (τ := τ) (ρ := ρ) T8 hA0) (fun r16 h16 q16 => ?_)
      obtain ⟨eh16, z16, ez16, lz16, uz16⟩ := q16
      subst eh16
      subst ez16
      refine pw_iconst d239_19 ?_
      refine pw_callV2 d239_20 k239_274 T8 hA0 rfl rfl rfl (ct232 (τ := τ) (ρ := ρ) T8 hA0 (by omega) (by omega)) (fun r20 h20 q20 => ?_)
      obtain ⟨eh20, z20, ez20, lz20, uz20⟩ := q20
      subst eh20
      subst ez20
      refine pw_iconst d239_23 ?_
      refine pw_icmp_ne d239_24 rfl (by omega) (by omega) (fun c24 => ?_) (fun c24 => ?_)
      · exact J31 h8 _ T8 f8
      · refine pw_iconst d239_27 ?_
        refine pw_goto d239_28 rfl ?_
        exact J32 h8 (1) _ T8 f8 (by omega)

abbrev Q223 (τ : Nat → Option Nat) (ρ : Nat → Nat → Nat) (h : pv_H) (a0 : Nat) (x1 : Int) : Option Value → pv_H → Prop := fun r h' => pv_Ty τ ρ h' ∧ pv_Fr τ [3007] h h' ∧ ∃ z : Int, r = some (.int (pv_I z)) ∧ (-2147483648) ≤ z ∧ z ≤ 2147483647
set_option maxHeartbeats 4000000 in
set_option maxRecDepth 20000 in
/-- AngleNetModel.surface(I)I -/
theorem ct223 {τ : Nat → Option Nat} {ρ : Nat → Nat → Nat} {K : Nat → Nat} {h : pv_H} {a0 : Nat} {x1 : Int} (hT : pv_Ty τ ρ h) (hA0 : τ a0 = some 7) (hX1 : (-2147483648) ≤ x1 ∧ x1 ≤ 2147483647) : pv_C K 223 [.ref a0, .int (pv_I x1)] h (Q223 τ ρ h a0 x1) := by
  refine pw_entry 0 ?_
  show pv_T K 223 0 (pv_fl [some (.ref a0), some (.int (pv_I x1))]) [] h (Q223 τ ρ h a0 x1)
  have hF0 : pv_Fr τ [3007] h h := pv_Fr.rf
  refine pw_aload_n d223_0 rfl ?_
  refine pw_callV0 d223_1 k223_283 hT hA0 rfl rfl rfl (ct224 (τ := τ) (ρ := ρ) hT hA0) (fun r1 h1 q1 => ?_)
  obtain ⟨eh1, z1, ez1, lz1, uz1⟩ := q1
  subst eh1
  subst ez1
  refine pw_if_ne d223_4 rfl (by omega) (fun c4 => ?_) (fun c4 => ?_)
  · refine pw_iload_n d223_10 rfl ?_
    by_cases c11 : x1 < 0 ∨ 6 < x1
    · refine pw_tabOut d223_11 (by omega) c11 rfl ?_
      refine pw_bipush d223_124 (by decide) ?_
      exact pw_ireturn d223_126 tt223 ⟨hT, hF0, (-2), rfl, (by omega), (by omega)⟩
    by_cases c11_0 : x1 = 0
    · refine pw_tabIn (x := x1) d223_11 (by omega) c11 (by rw [c11_0]; rfl) rfl ?_
      refine pw_aload_n d223_52 rfl ?_
      refine pw_callV0 d223_53 k223_277 hT hA0 rfl rfl rfl (ct225 (τ := τ) (ρ := ρ) hT hA0) (fun r53 h53 q53 => ?_)
      obtain ⟨eh53, z53, ez53, lz53, uz53⟩ := q53
      subst eh53
      subst ez53
      exact pw_ireturn d223_56 tt223 ⟨hT, hF0, z53, rfl, (by omega), (by omega)⟩
    by_cases c11_1 : x1 = 1
    · refine pw_tabIn (x := x1) d223_11 (by omega) c11 (by rw [c11_1]; rfl) rfl ?_
      refine pw_aload_n d223_57 rfl ?_
      refine pw_callV0 d223_58 k223_268 hT hA0 rfl rfl rfl (ct229 (τ := τ) (ρ := ρ) hT hA0) (fun r58 h58 q58 => ?_)
      obtain ⟨eh58, z58, ez58, lz58, uz58⟩ := q58
      subst eh58
      subst ez58
      refine pw_if_eq d223_61 rfl (by omega) (fun c61 => ?_) (fun c61 => ?_)
      · refine pw_iconst d223_68 ?_
        exact pw_ireturn d223_69 tt223 ⟨hT, hF0, 0, rfl, (by omega), (by omega)⟩
      · refine pw_iconst d223_64 ?_
        refine pw_goto d223_65 rfl ?_
        exact pw_ireturn d223_69 tt223 ⟨hT, hF0, 1, rfl, (by omega), (by omega)⟩
    by_cases c11_2 : x1 = 2
    · refine pw_tabIn (x := x1) d223_11 (by omega) c11 (by rw [c11_2]; rfl) rfl ?_
      refine pw_aload_n d223_70 rfl ?_
      refine pw_aload_n d223_71 rfl ?_
      refine pw_callV0 d223_72 k223_259 hT hA0 rfl rfl rfl (ct226 (τ := τ) (ρ := ρ) hT hA0) (fun r72 h72 q72 => ?_)
      obtain ⟨eh72, z72, ez72, lz72, uz72⟩ := q72
      subst eh72
      subst ez72
      refine pw_iconst d223_75 ?_
      refine pw_callV2 d223_76 k223_274 hT hA0 rfl rfl rfl (ct232 (τ := τ) (ρ := ρ) hT hA0 (by omega) (by omega)) (fun r76 h76 q76 => ?_)
      obtain ⟨eh76, z76, ez76, lz76, uz76⟩ := q76
      subst eh76
      subst ez76
      exact pw_ireturn d223_79 tt223 ⟨hT, hF0, z76, rfl, (by omega), (by omega)⟩
    by_cases c11_3 : x1 = 3
    · refine pw_tabIn (x := x1) d223_11 (by omega) c11 (by rw [c11_3]; rfl) rfl ?_
      refine pw_aload_n d223_80 rfl ?_
      refine pw_callV0 d223_81 k223_271 hT hA0 rfl rfl rfl (ct234 (τ := τ) (ρ := ρ) hT hA0) (fun r81 h81 q81 => ?_)
      obtain ⟨T81, F81, z81, ez81, lz81, uz81⟩ := q81
      subst ez81
      have f81 := hF0.tr (F81.up (by decide))
      refine pw_if_eq d223_84 rfl (by omega) (fun c84 => ?_) (fun c84 => ?_)
      · refine pw_iconst d223_91 ?_
        exact pw_ireturn d223_92 tt223 ⟨T81, f81, 0, rfl, (by omega), (by omega)⟩
      · refine pw_iconst d223_87 ?_
        refine pw_goto d223_88 rfl ?_
        exact pw_ireturn d223_92 tt223 ⟨T81, f81, 1, rfl, (by omega), (by omega)⟩
    by_cases c11_4 : x1 = 4
    · refine pw_tabIn (x := x1) d223_11 (by omega) c11 (by rw [c11_4]; rfl) rfl ?_
      refine pw_aload_n d223_93 rfl ?_
      refine pw_callV0 d223_94 k223_286 hT hA0 rfl rfl rfl (ct237 (τ := τ) (ρ := ρ) hT hA0) (fun r94 h94 q94 => ?_)
      obtain ⟨eh94, z94, ez94, lz94, uz94⟩ := q94
      subst eh94
      subst ez94
      exact pw_ireturn d223_97 tt223 ⟨hT, hF0, z94, rfl, (by omega), (by omega)⟩
    by_cases c11_5 : x1 = 5
    · refine pw_tabIn (x := x1) d223_11 (by omega) c11 (by rw [c11_5]; rfl) rfl ?_
      refine pw_aload_n d223_98 rfl ?_
      refine pw_callV0 d223_99 k223_268 hT hA0 rfl rfl rfl (ct229 (τ := τ) (ρ := ρ) hT hA0) (fun r99 h99 q99 => ?_)
      obtain ⟨eh99, z99, ez99, lz99, uz99⟩ := q99
      subst eh99
      subst ez99
      refine pw_if_eq d223_102 rfl (by omega) (fun c102 => ?_) (fun c102 => ?_)
      · refine pw_iconst d223_117 ?_
        exact pw_ireturn d223_118 tt223 ⟨hT, hF0, (-1), rfl, (by omega), (by omega)⟩
      · refine pw_aload_n d223_105 rfl ?_
        refine pw_aload_n d223_106 rfl ?_
        refine pw_callV0 d223_107 k223_280 hT hA0 rfl rfl rfl (ct238 (τ := τ) (ρ := ρ) hT hA0) (fun r107 h107 q107 => ?_)
        obtain ⟨eh107, z107, ez107, lz107, uz107⟩ := q107
        subst eh107
        subst ez107
        refine pw_iconst d223_110 ?_
        refine pw_callV2 d223_111 k223_274 hT hA0 rfl rfl rfl (ct232 (τ := τ) (ρ := ρ) hT hA0 (by omega) (by omega)) (fun r111 h111 q111 => ?_)
        obtain ⟨eh111, z111, ez111, lz111, uz111⟩ := q111
        subst eh111
        subst ez111
        refine pw_goto d223_114 rfl ?_
        exact pw_ireturn d223_118 tt223 ⟨hT, hF0, z111, rfl, (by omega), (by omega)⟩
    by_cases c11_6 : x1 = 6
    · refine pw_tabIn (x := x1) d223_11 (by omega) c11 (by rw [c11_6]; rfl) rfl ?_
      refine pw_aload_n d223_119 rfl ?_
      refine pw_callV0 d223_120 k223_289 hT hA0 rfl rfl rfl (ct239 (τ := τ) (ρ := ρ) hT hA0) (fun r120 h120 q120 => ?_)
      obtain ⟨T120, F120, z120, ez120, lz120, uz120⟩ := q120
      subst ez120
      have f120 := hF0.tr (F120.up (by decide))
      exact pw_ireturn d223_123 tt223 ⟨T120, f120, z120, rfl, (by omega), (by omega)⟩
    exfalso; omega
  · refine pw_bipush d223_7 (by decide) ?_
    exact pw_ireturn d223_9 tt223 ⟨hT, hF0, (-2), rfl, (by omega), (by omega)⟩

abbrev Q243 (τ : Nat → Option Nat) (ρ : Nat → Nat → Nat) (h : pv_H) (a0 : Nat) (x1 : Int) (x2 : Int) (x3 : Int) : Option Value → pv_H → Prop := fun r h' => h = h' ∧ ∃ z : Int, r = some (.int (pv_I z)) ∧ (-2147483648) ≤ z ∧ z ≤ 2147483647
set_option maxHeartbeats 4000000 in
set_option maxRecDepth 20000 in
/-- AngleNetModel.beyond(III)I -/
theorem ct243 {τ : Nat → Option Nat} {ρ : Nat → Nat → Nat} {K : Nat → Nat} {h : pv_H} {a0 : Nat} {x1 : Int} {x2 : Int} {x3 : Int} (hT : pv_Ty τ ρ h) (hA0 : τ a0 = some 7) (hX1 : 0 ≤ x1 ∧ x1 ≤ 17) (hX2 : (-2147483648) ≤ x2 ∧ x2 ≤ 2147483647) (hX3 : (-2147483648) ≤ x3 ∧ x3 ≤ 2147483647) : pv_C K 243 [.ref a0, .int (pv_I x1), .int (pv_I x2), .int (pv_I x3)] h (Q243 τ ρ h a0 x1 x2 x3) := by
  refine pw_entry 0 ?_
  show pv_T K 243 0 (pv_fl [some (.ref a0), some (.int (pv_I x1)), some (.int (pv_I x2)), some (.int (pv_I x3))]) [] h (Q243 τ ρ h a0 x1 x2 x3)
  refine pw_aload_n d243_0 rfl ?_
  refine pw_iload_n d243_1 rfl ?_
  refine pw_iconst d243_2 ?_
  refine pw_callV2 d243_3 k243_219 hT hA0 rfl rfl rfl (ct212 (τ := τ) (ρ := ρ) hT hA0 (by omega) (by omega)) (fun r3 h3 q3 => ?_)
  obtain ⟨eh3, z3, ez3, lz3, uz3, pz3_0, pz3_1⟩ := q3
  subst eh3
  subst ez3
  refine pw_aload_n d243_6 rfl ?_
  refine pw_iload_n d243_7 rfl ?_
  refine pw_iconst d243_8 ?_
  refine pw_callV2 d243_9 k243_219 hT hA0 rfl rfl rfl (ct212 (τ := τ) (ρ := ρ) hT hA0 (by omega) (by omega)) (fun r9 h9 q9 => ?_)
  obtain ⟨eh9, z9, ez9, lz9, uz9, pz9_0, pz9_1⟩ := q9
  subst eh9
  subst ez9
  refine pw_iadd d243_12 ?_
  refine pw_aload_n d243_13 rfl ?_
  refine pw_iload_n d243_14 rfl ?_
  refine pw_iconst d243_15 ?_
  refine pw_callV2 d243_16 k243_219 hT hA0 rfl rfl rfl (ct212 (τ := τ) (ρ := ρ) hT hA0 (by omega) (by omega)) (fun r16 h16 q16 => ?_)
  obtain ⟨eh16, z16, ez16, lz16, uz16, pz16_0, pz16_1⟩ := q16
  subst eh16
  subst ez16
  refine pw_iadd d243_19 ?_
  refine pw_iload_n d243_20 rfl ?_
  refine pw_isub d243_21 ?_
  refine pw_iload_n d243_22 rfl ?_
  refine pw_isub d243_23 ?_
  refine pw_any (fun z24 hz24 ez24 => ?_)
  exact pw_ireturn d243_24 tt243 ⟨rfl, z24, rfl, (by omega), (by omega)⟩

abbrev Q242 (τ : Nat → Option Nat) (ρ : Nat → Nat → Nat) (h : pv_H) (a0 : Nat) (x1 : Int) (x2 : Int) (x3 : Int) : Option Value → pv_H → Prop := fun r h' => h = h' ∧ ∃ z : Int, r = some (.int (pv_I z)) ∧ (-1) ≤ z ∧ z ≤ 17
set_option maxHeartbeats 4000000 in
set_option maxRecDepth 20000 in
/-- AngleNetModel.otherThird(III)I -/
theorem ct242 {τ : Nat → Option Nat} {ρ : Nat → Nat → Nat} {K : Nat → Nat} {h : pv_H} {a0 : Nat} {x1 : Int} {x2 : Int} {x3 : Int} (hT : pv_Ty τ ρ h) (hA0 : τ a0 = some 7) (hX1 : (-2147483648) ≤ x1 ∧ x1 ≤ 2147483647) (hX2 : (-2147483648) ≤ x2 ∧ x2 ≤ 2147483647) (hX3 : (-2147483648) ≤ x3 ∧ x3 ≤ 2147483647) : pv_C K 242 [.ref a0, .int (pv_I x1), .int (pv_I x2), .int (pv_I x3)] h (Q242 τ ρ h a0 x1 x2 x3) := by
  refine pw_entry 2 ?_
  show pv_T K 242 0 (pv_fl [some (.ref a0), some (.int (pv_I x1)), some (.int (pv_I x2)), some (.int (pv_I x3)), none, none]) [] h (Q242 τ ρ h a0 x1 x2 x3)
  have L6 : ∀ (nn : Nat) (xL4_6 xL5_6 : Int), ((-2147483648) ≤ x1 ∧ x1 ≤ 2147483647) → ((-2147483648) ≤ x2 ∧ x2 ≤ 2147483647) → ((-2147483648) ≤ x3 ∧ x3 ≤ 2147483647) → ((-1) ≤ xL4_6 ∧ xL4_6 ≤ 17) → (0 ≤ xL5_6 ∧ xL5_6 ≤ 18) → 18 - xL5_6 < nn → pv_T K 242 6 (pv_fl [some (.ref a0), some (.int (pv_I x1)), some (.int (pv_I x2)), some (.int (pv_I x3)), some (.int (pv_I xL4_6)), some (.int (pv_I xL5_6))]) [] h (Q242 τ ρ h a0 x1 x2 x3) := by
    intro nn
    induction nn with
    | zero => intro xL4_6 xL5_6 rL1_6 rL2_6 rL3_6 rL4_6 rL5_6 hm; exfalso; omega
    | succ nn ih6 =>
      intro xL4_6 xL5_6 rL1_6 rL2_6 rL3_6 rL4_6 rL5_6 hm6
      have J84 : ∀ (xL4_84 : Int), ((-2147483648) ≤ x1 ∧ x1 ≤ 2147483647) → ((-2147483648) ≤ x2 ∧ x2 ≤ 2147483647) → ((-2147483648) ≤ x3 ∧ x3 ≤ 2147483647) → ((-1) ≤ xL4_84 ∧ xL4_84 ≤ 17) → (0 ≤ xL5_6 ∧ xL5_6 ≤ 17) → pv_T K 242 84 (pv_fl [some (.ref a0), some (.int (pv_I x1)), some (.int (pv_I x2)), some (.int (pv_I x3)), some (.int (pv_I xL4_84)), some (.int (pv_I xL5_6))]) [] h (Q242 τ ρ h a0 x1 x2 x3) := by
        intro xL4_84 rL1_84 rL2_84 rL3_84 rL4_84 rL5_84
        refine pw_iinc d242_84 m242 rfl rfl rfl ?_
        refine pw_goto d242_87 rfl ?_
        exact ih6 (xL4_84) ((xL5_6 + 1)) (by omega) (by omega) (by omega) (by omega) (by omega) (by omega)
      have J82 : ∀ (xS0_82 : Int) (o4_82 : Option Value), ((-2147483648) ≤ x1 ∧ x1 ≤ 2147483647) → ((-2147483648) ≤ x2 ∧ x2 ≤ 2147483647) → ((-2147483648) ≤ x3 ∧ x3 ≤ 2147483647) → (0 ≤ xL5_6 ∧ xL5_6 ≤ 17) → (0 ≤ xS0_82 ∧ xS0_82 ≤ 17) → pv_T K 242 82 (pv_fl [some (.ref a0), some (.int (pv_I x1)), some (.int (pv_I x2)), some (.int (pv_I x3)), o4_82, some (.int (pv_I xL5_6))]) [.int (pv_I xS0_82)] h (Q242 τ ρ h a0 x1 x2 x3) := by
        intro xS0_82 o4_82 rL1_82 rL2_82 rL3_82 rL5_82 rS0_82
        refine pw_istore d242_82 m242 rfl rfl ?_
        exact J84 (xS0_82) (by omega) (by omega) (by omega) (by omega) (by omega)
      have J75 : ∀ (o4_75 : Option Value), ((-2147483648) ≤ x1 ∧ x1 ≤ 2147483647) → ((-2147483648) ≤ x2 ∧ x2 ≤ 2147483647) → ((-2147483648) ≤ x3 ∧ x3 ≤ 2147483647) → (0 ≤ xL5_6 ∧ xL5_6 ≤ 17) → pv_T K 242 75 (pv_fl [some (.ref a0), some (.int (pv_I x1)), some (.int (pv_I x2)), some (.int (pv_I x3)), o4_75, some (.int (pv_I xL5_6))]) [] h (Q242 τ ρ h a0 x1 x2 x3) := by
        intro o4_75 rL1_75 rL2_75 rL3_75 rL5_75
        refine pw_iload d242_75 rfl ?_
        refine pw_goto d242_77 rfl ?_
        exact J82 (xL5_6) _ (by omega) (by omega) (by omega) (by omega) (by omega)
      refine pw_iload d242_6 rfl ?_
      refine pw_aload_n d242_8 rfl ?_
      refine pw_callV0 d242_9 k242_216 hT hA0 rfl rfl rfl (ct216 (τ := τ) (ρ := ρ) hT hA0) (fun r9 h9 q9 => ?_)
      obtain ⟨eh9, z9, ez9, lz9, uz9, pz9_0⟩ := q9
      subst eh9
      subst ez9
      refine pw_icmp_ge d242_12 rfl (by omega) (by omega) (fun c12 => ?_) (fun c12 => ?_)
      · refine pw_iload d242_90 rfl ?_
        exact pw_ireturn d242_92 tt242 ⟨rfl, xL4_6, rfl, (by omega), (by omega)⟩
      · refine pw_iload d242_15 rfl ?_
        refine pw_iload_n d242_17 rfl ?_
        refine pw_icmp_eq d242_18 rfl (by omega) (by omega) (fun c18 => ?_) (fun c18 => ?_)
        · exact J84 (xL4_6) (by omega) (by omega) (by omega) (by omega) (by omega)
        · refine pw_aload_n d242_21 rfl ?_
          refine pw_getR d242_22 g242_9 hT hA0 rfl rfl (fun t22 => ?_)
          have t22 : τ (ρ a0 1) = some 40 := t22
          refine pw_iload d242_25 rfl ?_
          refine pw_iload_n d242_27 rfl ?_
          refine pw_callS3 d242_28 k242_156 rfl rfl (ct205w (τ := τ) (ρ := ρ) hT t22 (by omega) (by omega)) (fun r28 h28 q28 => ?_)
          obtain ⟨eh28, z28, ez28, lz28, uz28⟩ := q28
          subst eh28
          subst ez28
          refine pw_if_eq d242_31 rfl (by omega) (fun c31 => ?_) (fun c31 => ?_)
          · exact J84 (xL4_6) (by omega) (by omega) (by omega) (by omega) (by omega)
          · refine pw_aload_n d242_34 rfl ?_
            refine pw_getR d242_35 g242_9 hT hA0 rfl rfl (fun t35 => ?_)
            have t35 : τ (ρ a0 1) = some 40 := t35
            refine pw_iload d242_38 rfl ?_
            refine pw_iload_n d242_40 rfl ?_
            refine pw_callS3 d242_41 k242_156 rfl rfl (ct205w (τ := τ) (ρ := ρ) hT t35 (by omega) (by omega)) (fun r41 h41 q41 => ?_)
            obtain ⟨eh41, z41, ez41, lz41, uz41⟩ := q41
            subst eh41
            subst ez41
            refine pw_if_ne d242_44 rfl (by omega) (fun c44 => ?_) (fun c44 => ?_)
            · refine pw_iload d242_50 rfl ?_
              refine pw_iconst d242_52 ?_
              refine pw_icmp_eq d242_53 rfl (by omega) (by omega) (fun c53 => ?_) (fun c53 => ?_)
              · exact J75 _ (by omega) (by omega) (by omega) (by omega)
              · refine pw_aload_n d242_56 rfl ?_
                refine pw_iload d242_57 rfl ?_
                refine pw_iload_n d242_59 rfl ?_
                refine pw_iload_n d242_60 rfl ?_
                refine pw_callV3 d242_61 k242_292 hT hA0 rfl rfl rfl (ct243 (τ := τ) (ρ := ρ) hT hA0 (by omega) (by omega) (by omega)) (fun r61 h61 q61 => ?_)
                obtain ⟨eh61, z61, ez61, lz61, uz61⟩ := q61
                subst eh61
                subst ez61
                refine pw_aload_n d242_64 rfl ?_
                refine pw_iload d242_65 rfl ?_
                refine pw_iload_n d242_67 rfl ?_
                refine pw_iload_n d242_68 rfl ?_
                refine pw_callV3 d242_69 k242_292 hT hA0 rfl rfl rfl (ct243 (τ := τ) (ρ := ρ) hT hA0 (by omega) (by omega) (by omega)) (fun r69 h69 q69 => ?_)
                obtain ⟨eh69, z69, ez69, lz69, uz69⟩ := q69
                subst eh69
                subst ez69
                refine pw_icmp_ge d242_72 rfl (by omega) (by omega) (fun c72 => ?_) (fun c72 => ?_)
                · refine pw_iload d242_80 rfl ?_
                  exact J82 (xL4_6) _ (by omega) (by omega) (by omega) (by omega) (by omega)
                · exact J75 _ (by omega) (by omega) (by omega) (by omega)
            · refine pw_goto d242_47 rfl ?_
              exact J84 (xL4_6) (by omega) (by omega) (by omega) (by omega) (by omega)
  refine pw_iconst d242_0 ?_
  refine pw_istore d242_1 m242 rfl rfl ?_
  refine pw_iconst d242_3 ?_
  refine pw_istore d242_4 m242 rfl rfl ?_
  exact L6 _ ((-1)) (0) (by omega) (by omega) (by omega) (by omega) (by omega) (pv_mu _)

abbrev Q241 (τ : Nat → Option Nat) (ρ : Nat → Nat → Nat) (h : pv_H) (a0 : Nat) (x1 : Int) : Option Value → pv_H → Prop := fun r h' => h = h' ∧ ∃ z : Int, r = some (.int (pv_I z)) ∧ (-1) ≤ z ∧ z ≤ 9
set_option maxHeartbeats 4000000 in
set_option maxRecDepth 20000 in
/-- AngleNetModel.firstBeside(I)I -/
theorem ct241 {τ : Nat → Option Nat} {ρ : Nat → Nat → Nat} {K : Nat → Nat} {h : pv_H} {a0 : Nat} {x1 : Int} (hT : pv_Ty τ ρ h) (hA0 : τ a0 = some 7) (hX1 : (-2147483648) ≤ x1 ∧ x1 ≤ 2147483647) : pv_C K 241 [.ref a0, .int (pv_I x1)] h (Q241 τ ρ h a0 x1) := by
  refine pw_entry 2 ?_
  show pv_T K 241 0 (pv_fl [some (.ref a0), some (.int (pv_I x1)), none, none]) [] h (Q241 τ ρ h a0 x1)
  have L38 : ∀ (nn : Nat) (xL2_38 xL3_38 : Int), ((-2147483648) ≤ x1 ∧ x1 ≤ 2147483647) → ((-1) ≤ xL2_38 ∧ xL2_38 ≤ 9) → (0 ≤ xL3_38 ∧ xL3_38 ≤ 10) → 10 - xL3_38 < nn → pv_T K 241 38 (pv_fl [some (.ref a0), some (.int (pv_I x1)), some (.int (pv_I xL2_38)), some (.int (pv_I xL3_38))]) [] h (Q241 τ ρ h a0 x1) := by
    intro nn
    induction nn with
    | zero => intro xL2_38 xL3_38 rL1_38 rL2_38 rL3_38 hm; exfalso; omega
    | succ nn ih38 =>
      intro xL2_38 xL3_38 rL1_38 rL2_38 rL3_38 hm38
      have J65 : ∀ (_ : Unit), ((-2147483648) ≤ x1 ∧ x1 ≤ 2147483647) → ((-1) ≤ xL2_38 ∧ xL2_38 ≤ 9) → (0 ≤ xL3_38 ∧ xL3_38 ≤ 9) → pv_T K 241 65 (pv_fl [some (.ref a0), some (.int (pv_I x1)), some (.int (pv_I xL2_38)), some (.int (pv_I xL3_38))]) [] h (Q241 τ ρ h a0 x1) := by
        intro _ rL1_65 rL2_65 rL3_65
        refine pw_iinc d241_65 m241 rfl rfl rfl ?_
        refine pw_goto d241_68 rfl ?_
        exact ih38 (xL2_38) ((xL3_38 + 1)) (by omega) (by omega) (by omega) (by omega)
      refine pw_iload_n d241_38 rfl ?_
      refine pw_aload_n d241_39 rfl ?_
      refine pw_getR d241_40 g241_9 hT hA0 rfl rfl (fun t40 => ?_)
      have t40 : τ (ρ a0 1) = some 40 := t40
      refine pw_iconst d241_43 ?_
      refine pw_ialdB d241_44 hT t40 rfl rfl (by omega) (by omega) (fun u44 => ?_)
      have u44 : pv_wok ((0 : Int)) (pv_aI h (ρ a0 1) ((0 : Int)).toNat) := u44
      have vu44 := u44.2.1 (by omega)
      refine pw_icmp_ge d241_45 rfl (by omega) (by omega) (fun c45 => ?_) (fun c45 => ?_)
      · refine pw_iload_n d241_71 rfl ?_
        exact pw_ireturn d241_72 tt241 ⟨rfl, xL2_38, rfl, (by omega), (by omega)⟩
      · refine pw_iload_n d241_48 rfl ?_
        refine pw_iload_n d241_49 rfl ?_
        refine pw_icmp_eq d241_50 rfl (by omega) (by omega) (fun c50 => ?_) (fun c50 => ?_)
        · exact J65 () (by omega) (by omega) (by omega)
        · refine pw_aload_n d241_53 rfl ?_
          refine pw_iload_n d241_54 rfl ?_
          refine pw_iload_n d241_55 rfl ?_
          refine pw_callV2 d241_56 k241_214 hT hA0 rfl rfl rfl (ct218 (τ := τ) (ρ := ρ) hT hA0 (by omega) (by omega)) (fun r56 h56 q56 => ?_)
          obtain ⟨eh56, z56, ez56, lz56, uz56⟩ := q56
          subst eh56
          subst ez56
          refine pw_iconst d241_59 ?_
          refine pw_icmp_ne d241_60 rfl (by omega) (by omega) (fun c60 => ?_) (fun c60 => ?_)
          · exact J65 () (by omega) (by omega) (by omega)
          · refine pw_iload_n d241_63 rfl ?_
            exact pw_ireturn d241_64 tt241 ⟨rfl, xL3_38, rfl, (by omega), (by omega)⟩
  have L11 : ∀ (nn : Nat) (xL2_11 xL3_11 : Int), ((-2147483648) ≤ x1 ∧ x1 ≤ 2147483647) → ((-1) ≤ xL2_11 ∧ xL2_11 ≤ 9) → ((-1) ≤ xL3_11 ∧ xL3_11 ≤ 9) → xL3_11 - (-1) < nn → pv_T K 241 11 (pv_fl [some (.ref a0), some (.int (pv_I x1)), some (.int (pv_I xL2_11)), some (.int (pv_I xL3_11))]) [] h (Q241 τ ρ h a0 x1) := by
    intro nn
    induction nn with
    | zero => intro xL2_11 xL3_11 rL1_11 rL2_11 rL3_11 hm; exfalso; omega
    | succ nn ih11 =>
      intro xL2_11 xL3_11 rL1_11 rL2_11 rL3_11 hm11
      have J29 : ∀ (xS0_29 : Int) (o2_29 : Option Value), ((-2147483648) ≤ x1 ∧ x1 ≤ 2147483647) → (0 ≤ xL3_11 ∧ xL3_11 ≤ 9) → ((-1) ≤ xS0_29 ∧ xS0_29 ≤ 9) → pv_T K 241 29 (pv_fl [some (.ref a0), some (.int (pv_I x1)), o2_29, some (.int (pv_I xL3_11))]) [.int (pv_I xS0_29)] h (Q241 τ ρ h a0 x1) := by
        intro xS0_29 o2_29 rL1_29 rL3_29 rS0_29
        refine pw_istore_n d241_29 m241 rfl rfl ?_
        refine pw_iinc d241_30 m241 rfl rfl rfl ?_
        refine pw_goto d241_33 rfl ?_
        exact ih11 (xS0_29) ((xL3_11 + (-1))) (by omega) (by omega) (by omega) (by omega)
      refine pw_iload_n d241_11 rfl ?_
      refine pw_if_lt d241_12 rfl (by omega) (fun c12 => ?_) (fun c12 => ?_)
      · refine pw_iconst d241_36 ?_
        refine pw_istore_n d241_37 m241 rfl rfl ?_
        exact L38 _ (xL2_11) (0) (by omega) (by omega) (by omega) (pv_mu _)
      · refine pw_aload_n d241_15 rfl ?_
        refine pw_iload_n d241_16 rfl ?_
        refine pw_iload_n d241_17 rfl ?_
        refine pw_callV2 d241_18 k241_221 hT hA0 rfl rfl rfl (ct217 (τ := τ) (ρ := ρ) hT hA0 (by omega) (by omega)) (fun r18 h18 q18 => ?_)
        obtain ⟨eh18, z18, ez18, lz18, uz18⟩ := q18
        subst eh18
        subst ez18
        refine pw_if_eq d241_21 rfl (by omega) (fun c21 => ?_) (fun c21 => ?_)
        · refine pw_iload_n d241_28 rfl ?_
          exact J29 (xL2_11) _ (by omega) (by omega) (by omega)
        · refine pw_iload_n d241_24 rfl ?_
          refine pw_goto d241_25 rfl ?_
          exact J29 (xL3_11) _ (by omega) (by omega) (by omega)
  refine pw_iconst d241_0 ?_
  refine pw_istore_n d241_1 m241 rfl rfl ?_
  refine pw_aload_n d241_2 rfl ?_
  refine pw_getR d241_3 g241_9 hT hA0 rfl rfl (fun t3 => ?_)
  have t3 : τ (ρ a0 1) = some 40 := t3
  refine pw_iconst d241_6 ?_
  refine pw_ialdB d241_7 hT t3 rfl rfl (by omega) (by omega) (fun u7 => ?_)
  have u7 : pv_wok ((0 : Int)) (pv_aI h (ρ a0 1) ((0 : Int)).toNat) := u7
  have vu7 := u7.2.1 (by omega)
  refine pw_iconst d241_8 ?_
  refine pw_isub d241_9 ?_
  refine pw_istore_n d241_10 m241 rfl rfl ?_
  exact L11 _ ((-1)) (((pv_aI h (ρ a0 1) ((0 : Int)).toNat) - 1)) (by omega) (by omega) (by omega) (pv_mu _)

abbrev Q240 (τ : Nat → Option Nat) (ρ : Nat → Nat → Nat) (h : pv_H) (a0 : Nat) (x1 : Int) (x2 : Int) : Option Value → pv_H → Prop := fun r h' => h = h' ∧ ∃ z : Int, r = some (.int (pv_I z)) ∧ (-2147483648) ≤ z ∧ z ≤ 2147483647
set_option maxHeartbeats 4000000 in
set_option maxRecDepth 20000 in
/-- AngleNetModel.round(II)I -/
theorem ct240 {τ : Nat → Option Nat} {ρ : Nat → Nat → Nat} {K : Nat → Nat} {h : pv_H} {a0 : Nat} {x1 : Int} {x2 : Int} (hT : pv_Ty τ ρ h) (hA0 : τ a0 = some 7) (hX1 : (-2147483648) ≤ x1 ∧ x1 ≤ 2147483647) (hX2 : (-2147483648) ≤ x2 ∧ x2 ≤ 2147483647) : pv_C K 240 [.ref a0, .int (pv_I x1), .int (pv_I x2)] h (Q240 τ ρ h a0 x1 x2) := by
  refine pw_entry 4 ?_
  show pv_T K 240 0 (pv_fl [some (.ref a0), some (.int (pv_I x1)), some (.int (pv_I x2)), none, none, none, none]) [] h (Q240 τ ρ h a0 x1 x2)
  have L44 : ∀ (nn : Nat) (xL3_44 xL4_44 xL5_44 xL6_44 : Int), (0 ≤ x1 ∧ x1 ≤ 9) → (0 ≤ x2 ∧ x2 ≤ 2147483647) → (0 ≤ xL3_44 ∧ xL3_44 ≤ 9) → ((-2147483648) ≤ xL4_44 ∧ xL4_44 ≤ 2147483647) → ((-1) ≤ xL5_44 ∧ xL5_44 ≤ 17) → (0 ≤ xL6_44 ∧ xL6_44 ≤ 2147483647) → 2147483647 - xL6_44 < nn → pv_T K 240 44 (pv_fl [some (.ref a0), some (.int (pv_I x1)), some (.int (pv_I x2)), some (.int (pv_I xL3_44)), some (.int (pv_I xL4_44)), some (.int (pv_I xL5_44)), some (.int (pv_I xL6_44))]) [] h (Q240 τ ρ h a0 x1 x2) := by
    intro nn
    induction nn with
    | zero => intro xL3_44 xL4_44 xL5_44 xL6_44 rL1_44 rL2_44 rL3_44 rL4_44 rL5_44 rL6_44 hm; exfalso; omega
    | succ nn ih44 =>
      intro xL3_44 xL4_44 xL5_44 xL6_44 rL1_44 rL2_44 rL3_44 rL4_44 rL5_44 rL6_44 hm44
      refine pw_iload d240_44 rfl ?_
      refine pw_iload_n d240_46 rfl ?_
      refine pw_icmp_ge d240_47 rfl (by omega) (by omega) (fun c47 => ?_) (fun c47 => ?_)
      · refine pw_iload d240_94 rfl ?_
        exact pw_ireturn d240_96 tt240 ⟨rfl, xL4_44, rfl, (by omega), (by omega)⟩
      · refine pw_aload_n d240_50 rfl ?_
        refine pw_iload_n d240_51 rfl ?_
        refine pw_iload d240_52 rfl ?_
        refine pw_iload d240_54 rfl ?_
        refine pw_callV3 d240_56 k240_298 hT hA0 rfl rfl rfl (ct242 (τ := τ) (ρ := ρ) hT hA0 (by omega) (by omega) (by omega)) (fun r56 h56 q56 => ?_)
        obtain ⟨eh56, z56, ez56, lz56, uz56⟩ := q56
        subst eh56
        subst ez56
        refine pw_istore d240_59 m240 rfl rfl ?_
        refine pw_iload d240_61 rfl ?_
        refine pw_iconst d240_63 ?_
        refine pw_icmp_ne d240_64 rfl (by omega) (by omega) (fun c64 => ?_) (fun c64 => ?_)
        · refine pw_aload_n d240_69 rfl ?_
          refine pw_iload d240_70 rfl ?_
          refine pw_iload_n d240_72 rfl ?_
          refine pw_iload d240_73 rfl ?_
          refine pw_callV3 d240_75 k240_292 hT hA0 rfl rfl rfl (ct243 (τ := τ) (ρ := ρ) hT hA0 (by omega) (by omega) (by omega)) (fun r75 h75 q75 => ?_)
          obtain ⟨eh75, z75, ez75, lz75, uz75⟩ := q75
          subst eh75
          subst ez75
          refine pw_istore d240_78 m240 rfl rfl ?_
          refine pw_iload d240_80 rfl ?_
          refine pw_iload_n d240_82 rfl ?_
          refine pw_icmp_ne d240_83 rfl (by omega) (by omega) (fun c83 => ?_) (fun c83 => ?_)
          · refine pw_iinc d240_88 m240 rfl rfl rfl ?_
            refine pw_goto d240_91 rfl ?_
            exact ih44 (xL3_44) (z75) (z56) ((xL6_44 + 1)) (by omega) (by omega) (by omega) (by omega) (by omega) (by omega) (by omega)
          · refine pw_iconst d240_86 ?_
            exact pw_ireturn d240_87 tt240 ⟨rfl, (-1), rfl, (by omega), (by omega)⟩
        · refine pw_iconst d240_67 ?_
          exact pw_ireturn d240_68 tt240 ⟨rfl, (-1), rfl, (by omega), (by omega)⟩
  refine pw_aload_n d240_0 rfl ?_
  refine pw_iload_n d240_1 rfl ?_
  refine pw_callV1 d240_2 k240_77 hT hA0 rfl rfl rfl (ct214 (τ := τ) (ρ := ρ) hT hA0 (by omega)) (fun r2 h2 q2 => ?_)
  obtain ⟨eh2, z2, ez2, lz2, uz2, pz2_0⟩ := q2
  subst eh2
  subst ez2
  refine pw_if_ne d240_5 rfl (by omega) (fun c5 => ?_) (fun c5 => ?_)
  · refine pw_aload_n d240_11 rfl ?_
    refine pw_iload_n d240_12 rfl ?_
    refine pw_callV1 d240_13 k240_295 hT hA0 rfl rfl rfl (ct241 (τ := τ) (ρ := ρ) hT hA0 (by omega)) (fun r13 h13 q13 => ?_)
    obtain ⟨eh13, z13, ez13, lz13, uz13⟩ := q13
    subst eh13
    subst ez13
    refine pw_istore_n d240_16 m240 rfl rfl ?_
    refine pw_iload_n d240_17 rfl ?_
    refine pw_iconst d240_18 ?_
    refine pw_icmp_eq d240_19 rfl (by omega) (by omega) (fun c19 => ?_) (fun c19 => ?_)
    · refine pw_iconst d240_33 ?_
      exact pw_ireturn d240_34 tt240 ⟨rfl, (-1), rfl, (by omega), (by omega)⟩
    · refine pw_iload_n d240_22 rfl ?_
      refine pw_if_lt d240_23 rfl (by omega) (fun c23 => ?_) (fun c23 => ?_)
      · refine pw_iconst d240_33 ?_
        exact pw_ireturn d240_34 tt240 ⟨rfl, (-1), rfl, (by omega), (by omega)⟩
      · refine pw_aload_n d240_26 rfl ?_
        refine pw_callV0 d240_27 k240_268 hT hA0 rfl rfl rfl (ct229 (τ := τ) (ρ := ρ) hT hA0) (fun r27 h27 q27 => ?_)
        obtain ⟨eh27, z27, ez27, lz27, uz27⟩ := q27
        subst eh27
        subst ez27
        refine pw_if_ne d240_30 rfl (by omega) (fun c30 => ?_) (fun c30 => ?_)
        · refine pw_iload_n d240_35 rfl ?_
          refine pw_istore d240_36 m240 rfl rfl ?_
          refine pw_iconst d240_38 ?_
          refine pw_istore d240_39 m240 rfl rfl ?_
          refine pw_iconst d240_41 ?_
          refine pw_istore d240_42 m240 rfl rfl ?_
          exact L44 _ (z13) (z13) ((-1)) (0) (by omega) (by omega) (by omega) (by omega) (by omega) (by omega) (pv_mu _)
        · refine pw_iconst d240_33 ?_
          exact pw_ireturn d240_34 tt240 ⟨rfl, (-1), rfl, (by omega), (by omega)⟩
  · refine pw_bipush d240_8 (by decide) ?_
    exact pw_ireturn d240_10 tt240 ⟨rfl, (-2), rfl, (by omega), (by omega)⟩
