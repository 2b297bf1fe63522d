abbrev Q184 (τ : Nat → Option Nat) (ρ : Nat → Nat → Nat) (h : pv_H) (x0 : Int) (x1 : Int) (x2 : Int) : Option Value → pv_H → Prop := fun r h' => h = h' ∧ ∃ z : Int, r = some (.int (pv_I z)) ∧ 0 ≤ z ∧ z ≤ 1 ∧ ((z = 1 ∧ x1 ≤ x0 ∧ x0 ≤ x2) ∨ (z = 0 ∧ (x0 < x1 ∨ x2 < x0)))
set_option maxHeartbeats 4000000 in
set_option maxRecDepth 20000 in
/-- AngleNetModel.in(JJJ)Z -/
theorem ct184 {τ : Nat → Option Nat} {ρ : Nat → Nat → Nat} {K : Nat → Nat} {h : pv_H} {x0 : Int} {x1 : Int} {x2 : Int} (hX0 : (-9223372036854775808) ≤ x0 ∧ x0 ≤ 9223372036854775807) (hX1 : (-9223372036854775808) ≤ x1 ∧ x1 ≤ 9223372036854775807) (hX2 : (-9223372036854775808) ≤ x2 ∧ x2 ≤ 9223372036854775807) : pv_C K 184 [.long (pv_J x0), .long (pv_J x1), .long (pv_J x2)] h (Q184 τ ρ h x0 x1 x2) := by
  refine pw_entry 0 ?_
  show pv_T K 184 0 (pv_fl [some (.long (pv_J x0)), none, some (.long (pv_J x1)), none, some (.long (pv_J x2)), none]) [] h (Q184 τ ρ h x0 x1 x2)
  refine pw_lload_n d184_0 rfl ?_
  refine pw_lload_n d184_1 rfl ?_
  refine pw_lcmp d184_2 (by omega) (by omega) (fun z2 ez2 => ?_)
  refine pw_if_lt d184_3 rfl (by omega) (fun c3 => ?_) (fun c3 => ?_)
  · refine pw_iconst d184_17 ?_
    exact pw_zreturn d184_18 tt184 (by omega) ⟨rfl, 0, rfl, (by omega), (by omega), (by omega)⟩
  · refine pw_lload_n d184_6 rfl ?_
    refine pw_lload d184_7 rfl ?_
    refine pw_lcmp d184_9 (by omega) (by omega) (fun z9 ez9 => ?_)
    refine pw_if_gt d184_10 rfl (by omega) (fun c10 => ?_) (fun c10 => ?_)
    · refine pw_iconst d184_17 ?_
      exact pw_zreturn d184_18 tt184 (by omega) ⟨rfl, 0, rfl, (by omega), (by omega), (by omega)⟩
    · refine pw_iconst d184_13 ?_
      refine pw_goto d184_14 rfl ?_
      exact pw_zreturn d184_18 tt184 (by omega) ⟨rfl, 1, rfl, (by omega), (by omega), (by omega)⟩

abbrev Q224 (τ : Nat → Option Nat) (ρ : Nat → Nat → Nat) (h : pv_H) (a0 : Nat) : Option Value → pv_H → Prop := fun r h' => h = h' ∧ ∃ z : Int, r = some (.int (pv_I z)) ∧ 0 ≤ z ∧ z ≤ 0
set_option maxHeartbeats 4000000 in
set_option maxRecDepth 20000 in
/-- AngleNetModel.isNet()Z -/
theorem ct224 {τ : Nat → Option Nat} {ρ : Nat → Nat → Nat} {K : Nat → Nat} {h : pv_H} {a0 : Nat} (hT : pv_Ty τ ρ h) (hA0 : τ a0 = some 7) (hP0 : pv_aI h (ρ a0 1) (0 : Int).toNat = 0) : pv_C K 224 [.ref a0] h (Q224 τ ρ h a0) := by
  refine pw_entry 0 ?_
  show pv_T K 224 0 (pv_fl [some (.ref a0)]) [] h (Q224 τ ρ h a0)
  have hR0_1 : τ (ρ a0 1) = some 40 := hT.rf (t' := 40) hA0 rfl rfl
  refine pw_aload_n d224_0 rfl ?_
  refine pw_getR d224_1 g224_9 hT hA0 rfl rfl (fun t1 => ?_)
  have t1 : τ (ρ a0 1) = some 40 := t1
  refine pw_iconst d224_4 ?_
  refine pw_ialdB d224_5 hT t1 rfl rfl (by omega) (by omega) (fun u5 => ?_)
  have u5 : pv_wok ((0 : Int)) (pv_aI h (ρ a0 1) ((0 : Int)).toNat) := u5
  have vu5 := u5.2.1 (by omega)
  refine pw_if_le d224_6 rfl (by omega) (fun c6 => ?_) (fun c6 => ?_)
  · refine pw_iconst d224_13 ?_
    exact pw_zreturn d224_14 tt224 (by omega) ⟨rfl, 0, rfl, (by omega), (by omega)⟩
  · exfalso; omega

abbrev Q214 (τ : Nat → Option Nat) (ρ : Nat → Nat → Nat) (h : pv_H) (a0 : Nat) (x1 : Int) : Option Value → pv_H → Prop := fun r h' => h = h' ∧ ∃ z : Int, r = some (.int (pv_I z)) ∧ 0 ≤ z ∧ z ≤ 0
set_option maxHeartbeats 4000000 in
set_option maxRecDepth 20000 in
/-- AngleNetModel.isPost(I)Z -/
theorem ct214 {τ : Nat → Option Nat} {ρ : Nat → Nat → Nat} {K : Nat → Nat} {h : pv_H} {a0 : Nat} {x1 : Int} (hT : pv_Ty τ ρ h) (hA0 : τ a0 = some 7) (hX1 : (-2147483648) ≤ x1 ∧ x1 ≤ 2147483647) (hP0 : pv_aI h (ρ a0 1) (0 : Int).toNat = 0) : pv_C K 214 [.ref a0, .int (pv_I x1)] h (Q214 τ ρ h a0 x1) := by
  refine pw_entry 0 ?_
  show pv_T K 214 0 (pv_fl [some (.ref a0), some (.int (pv_I x1))]) [] h (Q214 τ ρ h a0 x1)
  have hR0_1 : τ (ρ a0 1) = some 40 := hT.rf (t' := 40) hA0 rfl rfl
  refine pw_iload_n d214_0 rfl ?_
  refine pw_i2l d214_1 (by omega) ?_
  refine pw_lconst (z := 0) d214_2 (by decide) ?_
  refine pw_aload_n d214_3 rfl ?_
  refine pw_getR d214_4 g214_9 hT hA0 rfl rfl (fun t4 => ?_)
  have t4 : τ (ρ a0 1) = some 40 := t4
  refine pw_iconst d214_7 ?_
  refine pw_ialdB d214_8 hT t4 rfl rfl (by omega) (by omega) (fun u8 => ?_)
  have u8 : pv_wok ((0 : Int)) (pv_aI h (ρ a0 1) ((0 : Int)).toNat) := u8
  have vu8 := u8.2.1 (by omega)
  refine pw_iconst d214_9 ?_
  refine pw_isub d214_10 ?_
  refine pw_i2l d214_11 (by omega) ?_
  refine pw_callS3 d214_12 k214_73 rfl rfl (ct184 (τ := τ) (ρ := ρ) (by omega) (by omega) (by omega)) (fun r12 h12 q12 => ?_)
  obtain ⟨eh12, z12, ez12, lz12, uz12, pz12_0⟩ := q12
  subst eh12
  subst ez12
  exact pw_zreturn d214_15 tt214 (by omega) ⟨rfl, z12, rfl, (by omega), (by omega)⟩

abbrev Q211 (τ : Nat → Option Nat) (ρ : Nat → Nat → Nat) (h : pv_H) (a0 : Nat) (x1 : Int) : Option Value → pv_H → Prop := fun r h' => h = h' ∧ ∃ z : Int, r = some (.int (pv_I z)) ∧ 0 ≤ z ∧ z ≤ 0
set_option maxHeartbeats 4000000 in
set_option maxRecDepth 20000 in
/-- AngleNetModel.isThird(I)Z -/
theorem ct211 {τ : Nat → Option Nat} {ρ : Nat → Nat → Nat} {K : Nat → Nat} {h : pv_H} {a0 : Nat} {x1 : Int} (hT : pv_Ty τ ρ h) (hA0 : τ a0 = some 7) (hX1 : (-2147483648) ≤ x1 ∧ x1 ≤ 2147483647) (hP0 : pv_aI h (ρ a0 1) (1 : Int).toNat = 0) : pv_C K 211 [.ref a0, .int (pv_I x1)] h (Q211 τ ρ h a0 x1) := by
  refine pw_entry 0 ?_
  show pv_T K 211 0 (pv_fl [some (.ref a0), some (.int (pv_I x1))]) [] h (Q211 τ ρ h a0 x1)
  have hR0_1 : τ (ρ a0 1) = some 40 := hT.rf (t' := 40) hA0 rfl rfl
  refine pw_iload_n d211_0 rfl ?_
  refine pw_i2l d211_1 (by omega) ?_
  refine pw_lconst (z := 0) d211_2 (by decide) ?_
  refine pw_aload_n d211_3 rfl ?_
  refine pw_getR d211_4 g211_9 hT hA0 rfl rfl (fun t4 => ?_)
  have t4 : τ (ρ a0 1) = some 40 := t4
  refine pw_iconst d211_7 ?_
  refine pw_ialdB d211_8 hT t4 rfl rfl (by omega) (by omega) (fun u8 => ?_)
  have u8 : pv_wok ((1 : Int)) (pv_aI h (ρ a0 1) ((1 : Int)).toNat) := u8
  have vu8 := u8.2.2.1 (by omega)
  refine pw_iconst d211_9 ?_
  refine pw_isub d211_10 ?_
  refine pw_i2l d211_11 (by omega) ?_
  refine pw_callS3 d211_12 k211_73 rfl rfl (ct184 (τ := τ) (ρ := ρ) (by omega) (by omega) (by omega)) (fun r12 h12 q12 => ?_)
  obtain ⟨eh12, z12, ez12, lz12, uz12, pz12_0⟩ := q12
  subst eh12
  subst ez12
  exact pw_zreturn d211_15 tt211 (by omega) ⟨rfl, z12, rfl, (by omega), (by omega)⟩

abbrev Q216 (τ : Nat → Option Nat) (ρ : Nat → Nat → Nat) (h : pv_H) (a0 : Nat) : Option Value → pv_H → Prop := fun r h' => h = h' ∧ ∃ z : Int, r = some (.int (pv_I z)) ∧ 0 ≤ z ∧ z ≤ 0
set_option maxHeartbeats 4000000 in
set_option maxRecDepth 20000 in
/-- AngleNetModel.thirds()I -/
theorem ct216 {τ : Nat → Option Nat} {ρ : Nat → Nat → Nat} {K : Nat → Nat} {h : pv_H} {a0 : Nat} (hT : pv_Ty τ ρ h) (hA0 : τ a0 = some 7) (hP0 : pv_aI h (ρ a0 1) (1 : Int).toNat = 0) : pv_C K 216 [.ref a0] h (Q216 τ ρ h a0) := by
  refine pw_entry 0 ?_
  show pv_T K 216 0 (pv_fl [some (.ref a0)]) [] h (Q216 τ ρ h a0)
  have hR0_1 : τ (ρ a0 1) = some 40 := hT.rf (t' := 40) hA0 rfl rfl
  refine pw_aload_n d216_0 rfl ?_
  refine pw_getR d216_1 g216_9 hT hA0 rfl rfl (fun t1 => ?_)
  have t1 : τ (ρ a0 1) = some 40 := t1
  refine pw_iconst d216_4 ?_
  refine pw_ialdB d216_5 hT t1 rfl rfl (by omega) (by omega) (fun u5 => ?_)
  have u5 : pv_wok ((1 : Int)) (pv_aI h (ρ a0 1) ((1 : Int)).toNat) := u5
  have vu5 := u5.2.2.1 (by omega)
  exact pw_ireturn d216_6 tt216 ⟨rfl, (pv_aI h (ρ a0 1) ((1 : Int)).toNat), rfl, (by omega), (by omega)⟩

abbrev Q220 (τ : Nat → Option Nat) (ρ : Nat → Nat → Nat) (h : pv_H) (a0 : Nat) (x1 : Int) (x2 : Int) : Option Value → pv_H → Prop := fun r h' => h = h' ∧ ∃ z : Int, r = some (.int (pv_I z)) ∧ 0 ≤ z ∧ z ≤ 0
set_option maxHeartbeats 4000000 in
set_option maxRecDepth 20000 in
/-- AngleNetModel.areTwo(II)Z -/
theorem ct220 {τ : Nat → Option Nat} {ρ : Nat → Nat → Nat} {K : Nat → Nat} {h : pv_H} {a0 : Nat} {x1 : Int} {x2 : Int} (hT : pv_Ty τ ρ h) (hA0 : τ a0 = some 7) (hX1 : (-2147483648) ≤ x1 ∧ x1 ≤ 2147483647) (hX2 : (-2147483648) ≤ x2 ∧ x2 ≤ 2147483647) (hP0 : pv_aI h (ρ a0 1) (0 : Int).toNat = 0) : pv_C K 220 [.ref a0, .int (pv_I x1), .int (pv_I x2)] h (Q220 τ ρ h a0 x1 x2) := by
  refine pw_entry 0 ?_
  show pv_T K 220 0 (pv_fl [some (.ref a0), some (.int (pv_I x1)), some (.int (pv_I x2))]) [] h (Q220 τ ρ h a0 x1 x2)
  have hR0_1 : τ (ρ a0 1) = some 40 := hT.rf (t' := 40) hA0 rfl rfl
  refine pw_aload_n d220_0 rfl ?_
  refine pw_iload_n d220_1 rfl ?_
  refine pw_callV1 d220_2 k220_77 hT hA0 rfl rfl rfl (ct214 (τ := τ) (ρ := ρ) hT hA0 (by omega) (by first | assumption | omega)) (fun r2 h2 q2 => ?_)
  obtain ⟨eh2, z2, ez2, lz2, uz2⟩ := q2
  subst eh2
  subst ez2
  refine pw_if_eq d220_5 rfl (by omega) (fun c5 => ?_) (fun c5 => ?_)
  · refine pw_iconst d220_25 ?_
    exact pw_zreturn d220_26 tt220 (by omega) ⟨rfl, 0, rfl, (by omega), (by omega)⟩
  · exfalso; omega

abbrev Q261 (τ : Nat → Option Nat) (ρ : Nat → Nat → Nat) (h : pv_H) (a0 : Nat) (x1 : Int) : Option Value → pv_H → Prop := fun r h' => h = h' ∧ ∃ z : Int, r = some (.int (pv_I z)) ∧ 0 ≤ z ∧ z ≤ 0
set_option maxHeartbeats 4000000 in
set_option maxRecDepth 20000 in
/-- AngleNetModel.hasPlace(I)Z -/
theorem ct261 {τ : Nat → Option Nat} {ρ : Nat → Nat → Nat} {K : Nat → Nat} {h : pv_H} {a0 : Nat} {x1 : Int} (hT : pv_Ty τ ρ h) (hA0 : τ a0 = some 7) (hX1 : (-2147483648) ≤ x1 ∧ x1 ≤ 2147483647) (hP0 : pv_aI h (ρ a0 1) (0 : Int).toNat = 0) : pv_C K 261 [.ref a0, .int (pv_I x1)] h (Q261 τ ρ h a0 x1) := by
  refine pw_entry 0 ?_
  show pv_T K 261 0 (pv_fl [some (.ref a0), some (.int (pv_I x1))]) [] h (Q261 τ ρ h a0 x1)
  have hR0_1 : τ (ρ a0 1) = some 40 := hT.rf (t' := 40) hA0 rfl rfl
  refine pw_aload_n d261_0 rfl ?_
  refine pw_iload_n d261_1 rfl ?_
  refine pw_callV1 d261_2 k261_77 hT hA0 rfl rfl rfl (ct214 (τ := τ) (ρ := ρ) hT hA0 (by omega) (by first | assumption | omega)) (fun r2 h2 q2 => ?_)
  obtain ⟨eh2, z2, ez2, lz2, uz2⟩ := q2
  subst eh2
  subst ez2
  refine pw_if_eq d261_5 rfl (by omega) (fun c5 => ?_) (fun c5 => ?_)
  · refine pw_iconst d261_22 ?_
    exact pw_zreturn d261_23 tt261 (by omega) ⟨rfl, 0, rfl, (by omega), (by omega)⟩
  · exfalso; omega

abbrev Q260 (τ : Nat → Option Nat) (ρ : Nat → Nat → Nat) (h : pv_H) (a0 : Nat) (x1 : Int) (x2 : Int) (x3 : Int) : Option Value → pv_H → Prop := fun r h' => h = h' ∧ ∃ z : Int, r = some (.int (pv_I z)) ∧ 0 ≤ z ∧ z ≤ 0
set_option maxHeartbeats 4000000 in
set_option maxRecDepth 20000 in
/-- AngleNetModel.arePlaced(III)Z -/
theorem ct260 {τ : Nat → Option Nat} {ρ : Nat → Nat → Nat} {K : Nat → Nat} {h : pv_H} {a0 : Nat} {x1 : Int} {x2 : Int} {x3 : Int} (hT : pv_Ty τ ρ h) (hA0 : τ a0 = some 7) (hX1 : (-2147483648) ≤ x1 ∧ x1 ≤ 2147483647) (hX2 : (-2147483648) ≤ x2 ∧ x2 ≤ 2147483647) (hX3 : (-2147483648) ≤ x3 ∧ x3 ≤ 2147483647) (hP0 : pv_aI h (ρ a0 1) (0 : Int).toNat = 0) : pv_C K 260 [.ref a0, .int (pv_I x1), .int (pv_I x2), .int (pv_I x3)] h (Q260 τ ρ h a0 x1 x2 x3) := by
  refine pw_entry 0 ?_
  show pv_T K 260 0 (pv_fl [some (.ref a0), some (.int (pv_I x1)), some (.int (pv_I x2)), some (.int (pv_I x3))]) [] h (Q260 τ ρ h a0 x1 x2 x3)
  have hR0_1 : τ (ρ a0 1) = some 40 := hT.rf (t' := 40) hA0 rfl rfl
  refine pw_aload_n d260_0 rfl ?_
  refine pw_iload_n d260_1 rfl ?_
  refine pw_callV1 d260_2 k260_334 hT hA0 rfl rfl rfl (ct261 (τ := τ) (ρ := ρ) hT hA0 (by omega) (by first | assumption | omega)) (fun r2 h2 q2 => ?_)
  obtain ⟨eh2, z2, ez2, lz2, uz2⟩ := q2
  subst eh2
  subst ez2
  refine pw_if_eq d260_5 rfl (by omega) (fun c5 => ?_) (fun c5 => ?_)
  · refine pw_iconst d260_43 ?_
    exact pw_zreturn d260_44 tt260 (by omega) ⟨rfl, 0, rfl, (by omega), (by omega)⟩
  · exfalso; omega

abbrev Q222 (τ : Nat → Option Nat) (ρ : Nat → Nat → Nat) (h : pv_H) (a0 : Nat) (x1 : Int) : Option Value → pv_H → Prop := fun r h' => h = h' ∧ ∃ z : Int, r = some (.int (pv_I z)) ∧ (-1) ≤ z ∧ z ≤ (-1)
set_option maxHeartbeats 4000000 in
set_option maxRecDepth 20000 in
/-- AngleNetModel.sideAt(I)I -/
theorem ct222 {τ : Nat → Option Nat} {ρ : Nat → Nat → Nat} {K : Nat → Nat} {h : pv_H} {a0 : Nat} {x1 : Int} (hT : pv_Ty τ ρ h) (hA0 : τ a0 = some 7) (hX1 : (-2147483648) ≤ x1 ∧ x1 ≤ 2147483647) (hP0 : pv_aI h (ρ a0 1) (0 : Int).toNat = 0) : pv_C K 222 [.ref a0, .int (pv_I x1)] h (Q222 τ ρ h a0 x1) := by
  refine pw_entry 3 ?_
  show pv_T K 222 0 (pv_fl [some (.ref a0), some (.int (pv_I x1)), none, none, none]) [] h (Q222 τ ρ h a0 x1)
  have hR0_1 : τ (ρ a0 1) = some 40 := hT.rf (t' := 40) hA0 rfl rfl
  have L4 : ∀ (nn : Nat) (xL2_4 xL3_4 : Int) (o4_4 : Option Value), ((-2147483648) ≤ x1 ∧ x1 ≤ 2147483647) → (0 ≤ xL2_4 ∧ xL2_4 ≤ 0) → (0 ≤ xL3_4 ∧ xL3_4 ≤ 0) → (0 : Int) < nn → pv_T K 222 4 (pv_fl [some (.ref a0), some (.int (pv_I x1)), some (.int (pv_I xL2_4)), some (.int (pv_I xL3_4)), o4_4]) [] h (Q222 τ ρ h a0 x1) := by
    intro nn
    induction nn with
    | zero => intro xL2_4 xL3_4 o4_4 rL1_4 rL2_4 rL3_4 hm; exfalso; omega
    | succ nn ih4 =>
      intro xL2_4 xL3_4 o4_4 rL1_4 rL2_4 rL3_4 hm4
      refine pw_iload_n d222_4 rfl ?_
      refine pw_aload_n d222_5 rfl ?_
      refine pw_getR d222_6 g222_9 hT hA0 rfl rfl (fun t6 => ?_)
      have t6 : τ (ρ a0 1) = some 40 := t6
      refine pw_iconst d222_9 ?_
      refine pw_ialdB d222_10 hT t6 rfl rfl (by omega) (by omega) (fun u10 => ?_)
      have u10 : pv_wok ((0 : Int)) (pv_aI h (ρ a0 1) ((0 : Int)).toNat) := u10
      have vu10 := u10.2.1 (by omega)
      refine pw_icmp_ge d222_11 rfl (by omega) (by omega) (fun c11 => ?_) (fun c11 => ?_)
      · refine pw_iconst d222_71 ?_
        exact pw_ireturn d222_72 tt222 ⟨rfl, (-1), rfl, (by omega), (by omega)⟩
      · exfalso; omega
  refine pw_iconst d222_0 ?_
  refine pw_istore_n d222_1 m222 rfl rfl ?_
  refine pw_iconst d222_2 ?_
  refine pw_istore_n d222_3 m222 rfl rfl ?_
  exact L4 _ (0) (0) _ (by omega) (by omega) (by omega) (pv_mu _)

abbrev Q228 (τ : Nat → Option Nat) (ρ : Nat → Nat → Nat) (h : pv_H) (a0 : Nat) : Option Value → pv_H → Prop := fun r h' => h = h' ∧ ∃ z : Int, r = some (.int (pv_I z)) ∧ 0 ≤ z ∧ z ≤ 0
set_option maxHeartbeats 4000000 in
set_option maxRecDepth 20000 in
/-- AngleNetModel.sidesMany()I -/
theorem ct228 {τ : Nat → Option Nat} {ρ : Nat → Nat → Nat} {K : Nat → Nat} {h : pv_H} {a0 : Nat} (hT : pv_Ty τ ρ h) (hA0 : τ a0 = some 7) (hP0 : pv_aI h (ρ a0 1) (0 : Int).toNat = 0) : pv_C K 228 [.ref a0] h (Q228 τ ρ h a0) := by
  refine pw_entry 3 ?_
  show pv_T K 228 0 (pv_fl [some (.ref a0), none, none, none]) [] h (Q228 τ ρ h a0)
  have hR0_1 : τ (ρ a0 1) = some 40 := hT.rf (t' := 40) hA0 rfl rfl
  have L4 : ∀ (nn : Nat) (xL1_4 xL2_4 : Int) (o3_4 : Option Value), (0 ≤ xL1_4 ∧ xL1_4 ≤ 0) → (0 ≤ xL2_4 ∧ xL2_4 ≤ 0) → (0 : Int) < nn → pv_T K 228 4 (pv_fl [some (.ref a0), some (.int (pv_I xL1_4)), some (.int (pv_I xL2_4)), o3_4]) [] h (Q228 τ ρ h a0) := by
    intro nn
    induction nn with
    | zero => intro xL1_4 xL2_4 o3_4 rL1_4 rL2_4 hm; exfalso; omega
    | succ nn ih4 =>
      intro xL1_4 xL2_4 o3_4 rL1_4 rL2_4 hm4
      refine pw_iload_n d228_4 rfl ?_
      refine pw_aload_n d228_5 rfl ?_
      refine pw_getR d228_6 g228_9 hT hA0 rfl rfl (fun t6 => ?_)
      have t6 : τ (ρ a0 1) = some 40 := t6
      refine pw_iconst d228_9 ?_
      refine pw_ialdB d228_10 hT t6 rfl rfl (by omega) (by omega) (fun u10 => ?_)
      have u10 : pv_wok ((0 : Int)) (pv_aI h (ρ a0 1) ((0 : Int)).toNat) := u10
      have vu10 := u10.2.1 (by omega)
      refine pw_icmp_ge d228_11 rfl (by omega) (by omega) (fun c11 => ?_) (fun c11 => ?_)
      · refine pw_iload_n d228_50 rfl ?_
        exact pw_ireturn d228_51 tt228 ⟨rfl, xL1_4, rfl, (by omega), (by omega)⟩
      · exfalso; omega
  refine pw_iconst d228_0 ?_
  refine pw_istore_n d228_1 m228 rfl rfl ?_
  refine pw_iconst d228_2 ?_
  refine pw_istore_n d228_3 m228 rfl rfl ?_
  exact L4 _ (0) (0) _ (by omega) (by omega) (pv_mu _)

abbrev Q315 (τ : Nat → Option Nat) (ρ : Nat → Nat → Nat) (h : pv_H) (a0 : Nat) : Option Value → pv_H → Prop := fun r h' => h = h' ∧ ∃ z : Int, r = some (.int (pv_I z)) ∧ 0 ≤ z ∧ z ≤ 0
set_option maxHeartbeats 4000000 in
set_option maxRecDepth 20000 in
/-- AngleNetModel.placed()I -/
theorem ct315 {τ : Nat → Option Nat} {ρ : Nat → Nat → Nat} {K : Nat → Nat} {h : pv_H} {a0 : Nat} (hT : pv_Ty τ ρ h) (hA0 : τ a0 = some 7) (hP0 : pv_aI h (ρ a0 1) (0 : Int).toNat = 0) : pv_C K 315 [.ref a0] h (Q315 τ ρ h a0) := by
  refine pw_entry 2 ?_
  show pv_T K 315 0 (pv_fl [some (.ref a0), none, none]) [] h (Q315 τ ρ h a0)
  have hR0_1 : τ (ρ a0 1) = some 40 := hT.rf (t' := 40) hA0 rfl rfl
  have L4 : ∀ (nn : Nat) (xL1_4 xL2_4 : Int), (0 ≤ xL1_4 ∧ xL1_4 ≤ 0) → (0 ≤ xL2_4 ∧ xL2_4 ≤ 0) → (0 : Int) < nn → pv_T K 315 4 (pv_fl [some (.ref a0), some (.int (pv_I xL1_4)), some (.int (pv_I xL2_4))]) [] h (Q315 τ ρ h a0) := by
    intro nn
    induction nn with
    | zero => intro xL1_4 xL2_4 rL1_4 rL2_4 hm; exfalso; omega
    | succ nn ih4 =>
      intro xL1_4 xL2_4 rL1_4 rL2_4 hm4
      refine pw_iload_n d315_4 rfl ?_
      refine pw_aload_n d315_5 rfl ?_
      refine pw_getR d315_6 g315_9 hT hA0 rfl rfl (fun t6 => ?_)
      have t6 : τ (ρ a0 1) = some 40 := t6
      refine pw_iconst d315_9 ?_
      refine pw_ialdB d315_10 hT t6 rfl rfl (by omega) (by omega) (fun u10 => ?_)
      have u10 : pv_wok ((0 : Int)) (pv_aI h (ρ a0 1) ((0 : Int)).toNat) := u10
      have vu10 := u10.2.1 (by omega)
      refine pw_icmp_ge d315_11 rfl (by omega) (by omega) (fun c11 => ?_) (fun c11 => ?_)
      · refine pw_iload_n d315_38 rfl ?_
        exact pw_ireturn d315_39 tt315 ⟨rfl, xL1_4, rfl, (by omega), (by omega)⟩
      · exfalso; omega
  refine pw_iconst d315_0 ?_
  refine pw_istore_n d315_1 m315 rfl rfl ?_
  refine pw_iconst d315_2 ?_
  refine pw_istore_n d315_3 m315 rfl rfl ?_
  exact L4 _ (0) (0) (by omega) (by omega) (pv_mu _)

abbrev Q226 (τ : Nat → Option Nat) (ρ : Nat → Nat → Nat) (h : pv_H) (a0 : Nat) : Option Value → pv_H → Prop := fun r h' => h = h' ∧ ∃ z : Int, r = some (.int (pv_I z)) ∧ 0 ≤ z ∧ z ≤ 0
set_option maxHeartbeats 4000000 in
set_option maxRecDepth 20000 in
/-- AngleNetModel.used()I -/
theorem ct226 {τ : Nat → Option Nat} {ρ : Nat → Nat → Nat} {K : Nat → Nat} {h : pv_H} {a0 : Nat} (hT : pv_Ty τ ρ h) (hA0 : τ a0 = some 7) (hP0 : pv_aI h (ρ a0 1) (1 : Int).toNat = 0) : pv_C K 226 [.ref a0] h (Q226 τ ρ h a0) := by
  refine pw_entry 2 ?_
  show pv_T K 226 0 (pv_fl [some (.ref a0), none, none]) [] h (Q226 τ ρ h a0)
  have hR0_1 : τ (ρ a0 1) = some 40 := hT.rf (t' := 40) hA0 rfl rfl
  have L4 : ∀ (nn : Nat) (xL1_4 xL2_4 : Int), (0 ≤ xL1_4 ∧ xL1_4 ≤ 0) → (0 ≤ xL2_4 ∧ xL2_4 ≤ 0) → (0 : Int) < nn → pv_T K 226 4 (pv_fl [some (.ref a0), some (.int (pv_I xL1_4)), some (.int (pv_I xL2_4))]) [] h (Q226 τ ρ h a0) := by
    intro nn
    induction nn with
    | zero => intro xL1_4 xL2_4 rL1_4 rL2_4 hm; exfalso; omega
    | succ nn ih4 =>
      intro xL1_4 xL2_4 rL1_4 rL2_4 hm4
      refine pw_iload_n d226_4 rfl ?_
      refine pw_aload_n d226_5 rfl ?_
      refine pw_callV0 d226_6 k226_216 hT hA0 rfl rfl rfl (ct216 (τ := τ) (ρ := ρ) hT hA0 (by first | assumption | omega)) (fun r6 h6 q6 => ?_)
      obtain ⟨eh6, z6, ez6, lz6, uz6⟩ := q6
      subst eh6
      subst ez6
      refine pw_icmp_ge d226_9 rfl (by omega) (by omega) (fun c9 => ?_) (fun c9 => ?_)
      · refine pw_iload_n d226_47 rfl ?_
        exact pw_ireturn d226_48 tt226 ⟨rfl, xL1_4, rfl, (by omega), (by omega)⟩
      · exfalso; omega
  refine pw_iconst d226_0 ?_
  refine pw_istore_n d226_1 m226 rfl rfl ?_
  refine pw_iconst d226_2 ?_
  refine pw_istore_n d226_3 m226 rfl rfl ?_
  exact L4 _ (0) (0) (by omega) (by omega) (pv_mu _)

abbrev Q299 (τ : Nat → Option Nat) (ρ : Nat → Nat → Nat) (h : pv_H) (a0 : Nat) (x1 : Int) (x2 : Int) : Option Value → pv_H → Prop := fun r h' => h = h' ∧ ∃ z : Int, r = some (.int (pv_I z)) ∧ 0 ≤ z ∧ z ≤ 0
set_option maxHeartbeats 4000000 in
set_option maxRecDepth 20000 in
/-- AngleNetModel.isFlow(II)Z -/
theorem ct299 {τ : Nat → Option Nat} {ρ : Nat → Nat → Nat} {K : Nat → Nat} {h : pv_H} {a0 : Nat} {x1 : Int} {x2 : Int} (hT : pv_Ty τ ρ h) (hA0 : τ a0 = some 7) (hX1 : (-2147483648) ≤ x1 ∧ x1 ≤ 2147483647) (hX2 : (-2147483648) ≤ x2 ∧ x2 ≤ 2147483647) (hP0 : pv_aI h (ρ a0 1) (0 : Int).toNat = 0) (hP1 : pv_aI h (ρ a0 1) (1 : Int).toNat = 0) : pv_C K 299 [.ref a0, .int (pv_I x1), .int (pv_I x2)] h (Q299 τ ρ h a0 x1 x2) := by
  refine pw_entry 1 ?_
  show pv_T K 299 0 (pv_fl [some (.ref a0), some (.int (pv_I x1)), some (.int (pv_I x2)), none]) [] h (Q299 τ ρ h a0 x1 x2)
  have hR0_1 : τ (ρ a0 1) = some 40 := hT.rf (t' := 40) hA0 rfl rfl
  refine pw_aload_n d299_0 rfl ?_
  refine pw_callV0 d299_1 k299_259 hT hA0 rfl rfl rfl (ct226 (τ := τ) (ρ := ρ) hT hA0 (by first | assumption | omega)) (fun r1 h1 q1 => ?_)
  obtain ⟨eh1, z1, ez1, lz1, uz1⟩ := q1
  subst eh1
  subst ez1
  refine pw_istore_n d299_4 m299 rfl rfl ?_
  refine pw_aload_n d299_5 rfl ?_
  refine pw_iload_n d299_6 rfl ?_
  refine pw_iload_n d299_7 rfl ?_
  refine pw_callV2 d299_8 k299_235 hT hA0 rfl rfl rfl (ct220 (τ := τ) (ρ := ρ) hT hA0 (by omega) (by omega) (by first | assumption | omega)) (fun r8 h8 q8 => ?_)
  obtain ⟨eh8, z8, ez8, lz8, uz8⟩ := q8
  subst eh8
  subst ez8
  refine pw_if_eq d299_11 rfl (by omega) (fun c11 => ?_) (fun c11 => ?_)
  · refine pw_iconst d299_46 ?_
    exact pw_zreturn d299_47 tt299 (by omega) ⟨rfl, 0, rfl, (by omega), (by omega)⟩
  · exfalso; omega

abbrev Q310 (τ : Nat → Option Nat) (ρ : Nat → Nat → Nat) (h : pv_H) (x0 : Int) : Option Value → pv_H → Prop := fun r h' => h = h' ∧ ∃ z : Int, r = some (.int (pv_I z)) ∧ 0 ≤ z ∧ z ≤ 1 ∧ ((z = 1 ∧ 0 ≤ x0 ∧ x0 ≤ 3) ∨ (z = 0 ∧ (x0 < 0 ∨ 3 < x0)))
set_option maxHeartbeats 4000000 in
set_option maxRecDepth 20000 in
/-- AngleNetModel.isSlot(I)Z -/
theorem ct310 {τ : Nat → Option Nat} {ρ : Nat → Nat → Nat} {K : Nat → Nat} {h : pv_H} {x0 : Int} (hX0 : (-2147483648) ≤ x0 ∧ x0 ≤ 2147483647) : pv_C K 310 [.int (pv_I x0)] h (Q310 τ ρ h x0) := by
  refine pw_entry 0 ?_
  show pv_T K 310 0 (pv_fl [some (.int (pv_I x0))]) [] h (Q310 τ ρ h x0)
  refine pw_iload_n d310_0 rfl ?_
  refine pw_i2l d310_1 (by omega) ?_
  refine pw_lconst (z := 0) d310_2 (by decide) ?_
  refine pw_ldc2 (v := pv_J 3) d310_3 n310_3 ?_
  refine pw_callS3 d310_6 k310_73 rfl rfl (ct184 (τ := τ) (ρ := ρ) (by omega) (by omega) (by omega)) (fun r6 h6 q6 => ?_)
  obtain ⟨eh6, z6, ez6, lz6, uz6, pz6_0⟩ := q6
  subst eh6
  subst ez6
  exact pw_zreturn d310_9 tt310 (by omega) ⟨rfl, z6, rfl, (by omega), (by omega), (by omega)⟩

abbrev Q191 (τ : Nat → Option Nat) (ρ : Nat → Nat → Nat) (h : pv_H) (a0 : Nat) (x1 : Int) : Option Value → pv_H → Prop := fun r h' => h = h' ∧ ∃ z : Int, r = some (.int (pv_I z)) ∧ (-1) ≤ z ∧ z ≤ (-1)
set_option maxHeartbeats 4000000 in
set_option maxRecDepth 20000 in
/-- AngleNetModel.see(I)I -/
theorem ct191 {τ : Nat → Option Nat} {ρ : Nat → Nat → Nat} {K : Nat → Nat} {h : pv_H} {a0 : Nat} {x1 : Int} (hT : pv_Ty τ ρ h) (hA0 : τ a0 = some 7) (hX1 : 0 ≤ x1 ∧ x1 ≤ 1601) (hP0 : pv_fI h a0 7 = 0) : pv_C K 191 [.ref a0, .int (pv_I x1)] h (Q191 τ ρ h a0 x1) := by
  refine pw_entry 0 ?_
  show pv_T K 191 0 (pv_fl [some (.ref a0), some (.int (pv_I x1))]) [] h (Q191 τ ρ h a0 x1)
  refine pw_iload_n d191_0 rfl ?_
  refine pw_aload_n d191_1 rfl ?_
  refine pw_getI d191_2 g191_84 hT hA0 rfl rfl (fun u2 vu2 => ?_)
  refine pw_icmp_ge d191_5 rfl (by omega) (by omega) (fun c5 => ?_) (fun c5 => ?_)
  · refine pw_iconst d191_21 ?_
    exact pw_ireturn d191_22 tt191 ⟨rfl, (-1), rfl, (by omega), (by omega)⟩
  · exfalso; omega

abbrev Q192 (τ : Nat → Option Nat) (ρ : Nat → Nat → Nat) (h : pv_H) (a0 : Nat) : Option Value → pv_H → Prop := fun r h' => h = h' ∧ ∃ z : Int, r = some (.int (pv_I z)) ∧ 1 ≤ z ∧ z ≤ 1
set_option maxHeartbeats 4000000 in
set_option maxRecDepth 20000 in
/-- AngleNetModel.good()Z -/
theorem ct192 {τ : Nat → Option Nat} {ρ : Nat → Nat → Nat} {K : Nat → Nat} {h : pv_H} {a0 : Nat} (hT : pv_Ty τ ρ h) (hA0 : τ a0 = some 7) (hP0 : pv_fI h a0 12 = 0) : pv_C K 192 [.ref a0] h (Q192 τ ρ h a0) := by
  refine pw_entry 0 ?_
  show pv_T K 192 0 (pv_fl [some (.ref a0)]) [] h (Q192 τ ρ h a0)
  refine pw_aload_n d192_0 rfl ?_
  refine pw_getI d192_1 g192_118 hT hA0 rfl rfl (fun u1 vu1 => ?_)
  refine pw_if_ne d192_4 rfl (by omega) (fun c4 => ?_) (fun c4 => ?_)
  · exfalso; omega
  · refine pw_iconst d192_7 ?_
    refine pw_goto d192_8 rfl ?_
    exact pw_zreturn d192_12 tt192 (by omega) ⟨rfl, 1, rfl, (by omega), (by omega)⟩

abbrev Q190 (τ : Nat → Option Nat) (ρ : Nat → Nat → Nat) (h : pv_H) (a0 : Nat) : Option Value → pv_H → Prop := fun r h' => pv_Ty τ ρ h' ∧ pv_Fr τ [457, 458] h h' ∧ r = none ∧ (pv_fI h' a0 10 = 0)
set_option maxHeartbeats 4000000 in
set_option maxRecDepth 20000 in
/-- AngleNetModel.advance()V -/
theorem ct190 {τ : Nat → Option Nat} {ρ : Nat → Nat → Nat} {K : Nat → Nat} {h : pv_H} {a0 : Nat} (hT : pv_Ty τ ρ h) (hA0 : τ a0 = some 7) (hP0 : pv_fI h a0 7 = 0) (hP1 : pv_fI h a0 8 = 0) : pv_C K 190 [.ref a0] h (Q190 τ ρ h a0) := by
  refine pw_entry 1 ?_
  show pv_T K 190 0 (pv_fl [some (.ref a0), none]) [] h (Q190 τ ρ h a0)
  have hF0 : pv_Fr τ [457, 458] h h := pv_Fr.rf
  have L0 : ∀ (nn : Nat) (o1_0 : Option Value), (0 : Int) < nn → pv_T K 190 0 (pv_fl [some (.ref a0), o1_0]) [] h (Q190 τ ρ h a0) := by
    intro nn
    induction nn with
    | zero => intro o1_0 hm; exfalso; omega
    | succ nn ih0 =>
      intro o1_0 hm0
      refine pw_aload_n d190_0 rfl ?_
      refine pw_aload_n d190_1 rfl ?_
      refine pw_getI d190_2 g190_87 hT hA0 rfl rfl (fun u2 vu2 => ?_)
      refine pw_callV1 d190_5 k190_90 hT hA0 rfl rfl rfl (ct191 (τ := τ) (ρ := ρ) hT hA0 (by omega) (by first | assumption | omega)) (fun r5 h5 q5 => ?_)
      obtain ⟨eh5, z5, ez5, lz5, uz5⟩ := q5
      subst eh5
      subst ez5
      refine pw_bipush d190_8 (by decide) ?_
      refine pw_icmp_eq d190_10 rfl (by omega) (by omega) (fun c10 => ?_) (fun c10 => ?_)
      · exfalso; omega
      · refine pw_aload_n d190_13 rfl ?_
        refine pw_aload_n d190_14 rfl ?_
        refine pw_getI d190_15 g190_87 hT hA0 rfl rfl (fun u15 vu15 => ?_)
        refine pw_callV1 d190_18 k190_90 hT hA0 rfl rfl rfl (ct191 (τ := τ) (ρ := ρ) hT hA0 (by omega) (by first | assumption | omega)) (fun r18 h18 q18 => ?_)
        obtain ⟨eh18, z18, ez18, lz18, uz18⟩ := q18
        subst eh18
        subst ez18
        refine pw_bipush d190_21 (by decide) ?_
        refine pw_icmp_ne d190_23 rfl (by omega) (by omega) (fun c23 => ?_) (fun c23 => ?_)
        · refine pw_aload_n d190_39 rfl ?_
          refine pw_aload_n d190_40 rfl ?_
          refine pw_getI d190_41 g190_87 hT hA0 rfl rfl (fun u41 vu41 => ?_)
          refine pw_putI d190_44 g190_94 w7_9 hT hA0 rfl rfl rfl (by omega) (by omega) (fun h44 T44 F44 E44 => ?_)
          have f44 := hF0.tr (F44.up (by decide))
          have q44 := ((F44 a0 7 hA0).1 7 (by decide)).1
          have q44b := ((F44 a0 7 hA0).1 8 (by decide)).1
          refine pw_aload_n d190_47 rfl ?_
          refine pw_aload_n d190_48 rfl ?_
          refine pw_getI d190_49 g190_87 T44 hA0 rfl rfl (fun u49 vu49 => ?_)
          refine pw_callV1 d190_52 k190_90 T44 hA0 rfl rfl rfl (ct191 (τ := τ) (ρ := ρ) T44 hA0 (by omega) (by first | assumption | omega)) (fun r52 h52 q52 => ?_)
          obtain ⟨eh52, z52, ez52, lz52, uz52⟩ := q52
          subst eh52
          subst ez52
          refine pw_istore_n d190_55 m190 rfl rfl ?_
          refine pw_iload_n d190_56 rfl ?_
          refine pw_iconst d190_57 ?_
          refine pw_icmp_ne d190_58 rfl (by omega) (by omega) (fun c58 => ?_) (fun c58 => ?_)
          · exfalso; omega
          · refine pw_aload_n d190_61 rfl ?_
            refine pw_iconst d190_62 ?_
            refine pw_putI d190_63 g190_97 w7_10 T44 hA0 rfl rfl rfl (by omega) (by omega) (fun h63 T63 F63 E63 => ?_)
            have f63 := f44.tr (F63.up (by decide))
            have q63 := ((F63 a0 7 hA0).1 7 (by decide)).1
            have q63b := ((F63 a0 7 hA0).1 8 (by decide)).1
            have q63c := ((F63 a0 7 hA0).1 9 (by decide)).1
            refine pw_goto d190_66 rfl ?_
            exact pw_return d190_239 tt190 ⟨T63, f63, rfl, (by omega)⟩
        · exfalso; omega
  exact L0 _ _ (pv_mu _)

abbrev Q189 (τ : Nat → Option Nat) (ρ : Nat → Nat → Nat) (h : pv_H) (a0 : Nat) : Option Value → pv_H → Prop := fun r h' => pv_Ty τ ρ h' ∧ pv_Fr τ [453, 455, 456, 457, 458, 460, 461, 2623, 2943] h h' ∧ ∃ z : Int, r = some (.int (pv_I z)) ∧ (-2147483648) ≤ z ∧ z ≤ 2147483647 ∧ (z = 0)
set_option maxHeartbeats 4000000 in
set_option maxRecDepth 20000 in
/-- AngleNetModel.net()I -/
theorem ct189 {τ : Nat → Option Nat} {ρ : Nat → Nat → Nat} {K : Nat → Nat} {h : pv_H} {a0 : Nat} (hT : pv_Ty τ ρ h) (hA0 : τ a0 = some 7) (hP0 : pv_fI h a0 5 = 0) : pv_C K 189 [.ref a0] h (Q189 τ ρ h a0) := by
  refine pw_entry 1 ?_
  show pv_T K 189 0 (pv_fl [some (.ref a0), none]) [] h (Q189 τ ρ h a0)
  have hR0_14 : τ (ρ a0 14) = some 45 := hT.rf (t' := 45) hA0 rfl rfl
  have hR0_1 : τ (ρ a0 1) = some 40 := hT.rf (t' := 40) hA0 rfl rfl
  have hF0 : pv_Fr τ [453, 455, 456, 457, 458, 460, 461, 2623, 2943] h h := pv_Fr.rf
  have L142 : ∀ (nn : Nat) (h_142 : pv_H) (xL1_142 : Int), (pv_Ty τ ρ h_142) → (pv_Fr τ [453, 455, 456, 457, 458, 460, 461, 2623, 2943] h h_142) → (0 ≤ xL1_142 ∧ xL1_142 ≤ 1599) → (pv_aI h_142 (ρ a0 14) (2 : Int).toNat = 0) → (2 < xL1_142 → pv_aI h_142 (ρ a0 1) (2 : Int).toNat = 0) → 1599 - xL1_142 < nn → pv_T K 189 142 (pv_fl [some (.ref a0), some (.int (pv_I xL1_142))]) [] h_142 (Q189 τ ρ h a0) := by
    intro nn
    induction nn with
    | zero => intro h_142 xL1_142 hT_142 hF_142 rL1_142 i0_142 i1_142 hm; exfalso; omega
    | succ nn ih142 =>
      intro h_142 xL1_142 hT_142 hF_142 rL1_142 i0_142 i1_142 hm142
      refine pw_iload_n d189_142 rfl ?_
      refine pw_sipush d189_143 (by decide) ?_
      refine pw_icmp_ge d189_146 rfl (by omega) (by omega) (fun c146 => ?_) (fun c146 => ?_)
      · refine pw_aload_n d189_167 rfl ?_
        refine pw_getR d189_168 g189_9 hT_142 hA0 rfl rfl (fun t168 => ?_)
        have t168 : τ (ρ a0 1) = some 40 := t168
        refine pw_iconst d189_171 ?_
        refine pw_ialdB d189_172 hT_142 t168 rfl rfl (by omega) (by omega) (fun u172 => ?_)
        have u172 : pv_wok ((2 : Int)) (pv_aI h_142 (ρ a0 1) ((2 : Int)).toNat) := u172
        have vu172 := u172.1
        exact pw_ireturn d189_173 tt189 ⟨hT_142, hF_142, (pv_aI h_142 (ρ a0 1) ((2 : Int)).toNat), rfl, (by omega), (by omega), (by omega)⟩
      · refine pw_aload_n d189_149 rfl ?_
        refine pw_getR d189_150 g189_9 hT_142 hA0 rfl rfl (fun t150 => ?_)
        have t150 : τ (ρ a0 1) = some 40 := t150
        refine pw_iload_n d189_153 rfl ?_
        refine pw_aload_n d189_154 rfl ?_
        refine pw_getR d189_155 g189_31 hT_142 hA0 rfl rfl (fun t155 => ?_)
        have t155 : τ (ρ a0 14) = some 45 := t155
        refine pw_iload_n d189_158 rfl ?_
        refine pw_ialdB d189_159 hT_142 t155 rfl rfl (by omega) (by omega) (fun u159 => ?_)
        have u159 : pv_wok (xL1_142) (pv_aI h_142 (ρ a0 14) (xL1_142).toNat) := u159
        have vu159 := u159.1
        refine pw_iastB d189_160 hT_142 t150 rfl rfl rfl (by omega) (by omega) (by omega) (by show pv_wok xL1_142 _; exact u159) (fun h160 T160 F160 E160 => ?_)
        have f160 := hF_142.tr (F160.up (by decide))
        have q160 := ((F160 a0 7 hA0).1 7 (by decide)).1
        have q160b := ((F160 a0 7 hA0).1 8 (by decide)).1
        have q160c := ((F160 a0 7 hA0).1 10 (by decide)).1
        have q160d := ((F160 a0 7 hA0).1 12 (by decide)).1
        refine pw_iinc d189_161 m189 rfl rfl rfl ?_
        refine pw_goto d189_164 rfl ?_
        exact ih142 h160 ((xL1_142 + 1)) T160 f160 (by omega) (by first | assumption | (rw [((F160 (ρ a0 14) 45 hR0_14).2 (by decide) _).1]; exact i0_142)) (by first | omega | (intro hh; rw [E160]; split; (rename_i h9; rw [← h9.2]; exact i0_142); (rename_i h9; exact i1_142 (by omega)))) (by omega)
  have J140 : ∀ (h_140 : pv_H) (o1_140 : Option Value), (pv_Ty τ ρ h_140) → (pv_Fr τ [453, 455, 456, 457, 458, 460, 461, 2623, 2943] h h_140) → (pv_aI h_140 (ρ a0 14) (2 : Int).toNat = 0) → pv_T K 189 140 (pv_fl [some (.ref a0), o1_140]) [] h_140 (Q189 τ ρ h a0) := by
    intro h_140 o1_140 hT_140 hF_140 i0_140
    refine pw_iconst d189_140 ?_
    refine pw_istore_n d189_141 m189 rfl rfl ?_
    exact L142 _ h_140 (0) hT_140 hF_140 (by omega) (by first | assumption | (rw [((F160 (ρ a0 14) 45 hR0_14).2 (by decide) _).1]; exact i0_142)) (by first | omega | (intro hh; rw [E160]; split; (rename_i h9; rw [← h9.2]; exact i0_142); (rename_i h9; exact i1_142 (by omega)))) (pv_mu _)
  have J107 : ∀ (h_107 : pv_H) (o1_107 : Option Value), (pv_Ty τ ρ h_107) → (pv_Fr τ [453, 455, 456, 457, 458, 460, 461, 2623, 2943] h h_107) → (pv_fI h_107 a0 12 = 0) → (pv_aI h_107 (ρ a0 14) (2 : Int).toNat = 0) → pv_T K 189 107 (pv_fl [some (.ref a0), o1_107]) [] h_107 (Q189 τ ρ h a0) := by
    intro h_107 o1_107 hT_107 hF_107 i0_107 i1_107
    refine pw_aload_n d189_107 rfl ?_
    refine pw_callV0 d189_108 k189_121 hT_107 hA0 rfl rfl rfl (ct192 (τ := τ) (ρ := ρ) hT_107 hA0 (by first | assumption | omega)) (fun r108 h108 q108 => ?_)
    obtain ⟨eh108, z108, ez108, lz108, uz108⟩ := q108
    subst eh108
    subst ez108
    refine pw_if_ne d189_111 rfl (by omega) (fun c111 => ?_) (fun c111 => ?_)
    · refine pw_aload_n d189_117 rfl ?_
      refine pw_getR d189_118 g189_31 hT_107 hA0 rfl rfl (fun t118 => ?_)
      have t118 : τ (ρ a0 14) = some 45 := t118
      refine pw_iconst d189_121 ?_
      refine pw_ialdB d189_122 hT_107 t118 rfl rfl (by omega) (by omega) (fun u122 => ?_)
      have u122 : pv_wok ((0 : Int)) (pv_aI h_107 (ρ a0 14) ((0 : Int)).toNat) := u122
      have vu122 := u122.2.1 (by omega)
      refine pw_if_ne d189_123 rfl (by omega) (fun c123 => ?_) (fun c123 => ?_)
      · exact J140 h_107 _ hT_107 hF_107 (by first | assumption | (rw [E139]; split <;> omega))
      · refine pw_aload_n d189_126 rfl ?_
        refine pw_getR d189_127 g189_31 hT_107 hA0 rfl rfl (fun t127 => ?_)
        have t127 : τ (ρ a0 14) = some 45 := t127
        refine pw_iconst d189_130 ?_
        refine pw_iconst d189_131 ?_
        refine pw_iastB d189_132 hT_107 t127 rfl rfl rfl (by omega) (by omega) (by omega) (by show pv_wok _ _; unfold pv_wok; omega) (fun h132 T132 F132 E132 => ?_)
        have f132 := hF_107.tr (F132.up (by decide))
        have q132 := ((F132 a0 7 hA0).1 7 (by decide)).1
        have q132b := ((F132 a0 7 hA0).1 8 (by decide)).1
        have q132c := ((F132 a0 7 hA0).1 10 (by decide)).1
        have q132d := ((F132 a0 7 hA0).1 12 (by decide)).1
        have y133 : pv_aI h132 (ρ a0 14) (2 : Int).toNat = 0 := by rw [E132]; split <;> omega
        refine pw_aload_n d189_133 rfl ?_
        refine pw_getR d189_134 g189_31 T132 hA0 rfl rfl (fun t134 => ?_)
        have t134 : τ (ρ a0 14) = some 45 := t134
        refine pw_iconst d189_137 ?_
        refine pw_iconst d189_138 ?_
        refine pw_iastB d189_139 T132 t134 rfl rfl rfl (by omega) (by omega) (by omega) (by show pv_wok _ _; unfold pv_wok; omega) (fun h139 T139 F139 E139 => ?_)
        have f139 := f132.tr (F139.up (by decide))
        have q139 := ((F139 a0 7 hA0).1 7 (by decide)).1
        have q139b := ((F139 a0 7 hA0).1 8 (by decide)).1
        have q139c := ((F139 a0 7 hA0).1 10 (by decide)).1
        have q139d := ((F139 a0 7 hA0).1 12 (by decide)).1
        exact J140 h139 _ T139 f139 (by first | assumption | (rw [E139]; split <;> omega))
    · exfalso; omega
  have L86 : ∀ (nn : Nat) (h_86 : pv_H) (o1_86 : Option Value), (pv_Ty τ ρ h_86) → (pv_Fr τ [453, 455, 456, 457, 458, 460, 461, 2623, 2943] h h_86) → (pv_fI h_86 a0 10 = 0) → (pv_fI h_86 a0 12 = 0) → (pv_aI h_86 (ρ a0 14) (2 : Int).toNat = 0) → (0 : Int) < nn → pv_T K 189 86 (pv_fl [some (.ref a0), o1_86]) [] h_86 (Q189 τ ρ h a0) := by
    intro nn
    induction nn with
    | zero => intro h_86 o1_86 hT_86 hF_86 i0_86 i1_86 i2_86 hm; exfalso; omega
    | succ nn ih86 =>
      intro h_86 o1_86 hT_86 hF_86 i0_86 i1_86 i2_86 hm86
      refine pw_aload_n d189_86 rfl ?_
      refine pw_callV0 d189_87 k189_121 hT_86 hA0 rfl rfl rfl (ct192 (τ := τ) (ρ := ρ) hT_86 hA0 (by first | assumption | omega)) (fun r87 h87 q87 => ?_)
      obtain ⟨eh87, z87, ez87, lz87, uz87⟩ := q87
      subst eh87
      subst ez87
      refine pw_if_eq d189_90 rfl (by omega) (fun c90 => ?_) (fun c90 => ?_)
      · exfalso; omega
      · refine pw_aload_n d189_93 rfl ?_
        refine pw_getI d189_94 g189_97 hT_86 hA0 rfl rfl (fun u94 vu94 => ?_)
        refine pw_if_eq d189_97 rfl (by omega) (fun c97 => ?_) (fun c97 => ?_)
        · exact J107 h_86 _ hT_86 hF_86 (by omega) (by omega)
        · exfalso; omega
  have L30 : ∀ (nn : Nat) (h_30 : pv_H) (xL1_30 : Int), (pv_Ty τ ρ h_30) → (pv_Fr τ [453, 455, 456, 457, 458, 460, 461, 2623, 2943] h h_30) → (0 ≤ xL1_30 ∧ xL1_30 ≤ 1600) → (pv_fI h_30 a0 7 = 0) → (pv_fI h_30 a0 8 = 0) → (pv_fI h_30 a0 12 = 0) → (2 < xL1_30 → pv_aI h_30 (ρ a0 14) (2 : Int).toNat = 0) → 1600 - xL1_30 < nn → pv_T K 189 30 (pv_fl [some (.ref a0), some (.int (pv_I xL1_30))]) [] h_30 (Q189 τ ρ h a0) := by
    intro nn
    induction nn with
    | zero => intro h_30 xL1_30 hT_30 hF_30 rL1_30 i0_30 i1_30 i2_30 i3_30 hm; exfalso; omega
    | succ nn ih30 =>
      intro h_30 xL1_30 hT_30 hF_30 rL1_30 i0_30 i1_30 i2_30 i3_30 hm30
      have J59 : ∀ (xS0_59 : Int), (0 ≤ xL1_30 ∧ xL1_30 ≤ 1599) → ((-1) ≤ xS0_59 ∧ xS0_59 ≤ 0) → (0 ≤ xL1_30 ∧ xL1_30 ≤ 1599) → (xS0_59 = 0 ∨ (80 ≤ xL1_30 ∧ xL1_30 < 120 ∧ xS0_59 = -1)) → (xL1_30 < 1507) → pv_T K 189 59 (pv_fl [some (.ref a0), some (.int (pv_I xL1_30))]) [.int (pv_I xS0_59), .int (pv_I xL1_30), .ref (ρ a0 14)] h_30 (Q189 τ ρ h a0) := by
        intro xS0_59 rL1_59 rS0_59 rS1_59 i0_59 i1_59
        refine pw_iastB d189_59 hT_30 hR0_14 rfl rfl rfl (by omega) (by omega) (by omega) (by show pv_wok _ _; unfold pv_wok; omega) (fun h59 T59 F59 E59 => ?_)
        have f59 := hF_30.tr (F59.up (by decide))
        have q59 := ((F59 a0 7 hA0).1 7 (by decide)).1
        have q59b := ((F59 a0 7 hA0).1 8 (by decide)).1
        have q59c := ((F59 a0 7 hA0).1 10 (by decide)).1
        have q59d := ((F59 a0 7 hA0).1 12 (by decide)).1
        have y60 : (2 : Int) < xL1_30 + 1 → pv_aI h59 (ρ a0 14) (2 : Int).toNat = 0 := by intro hh; rw [E59]; split <;> omega
        refine pw_iinc d189_60 m189 rfl rfl rfl ?_
        refine pw_goto d189_63 rfl ?_
        exact ih30 h59 ((xL1_30 + 1)) T59 f59 (by omega) (by omega) (by omega) (by omega) (by omega) (by omega)
      have J58 : ∀ (_ : Unit), (0 ≤ xL1_30 ∧ xL1_30 ≤ 1599) → (0 ≤ xL1_30 ∧ xL1_30 ≤ 1599) → (xL1_30 < 1507 ∧ (xL1_30 < 80 ∨ 120 ≤ xL1_30)) → pv_T K 189 58 (pv_fl [some (.ref a0), some (.int (pv_I xL1_30))]) [.int (pv_I xL1_30), .ref (ρ a0 14)] h_30 (Q189 τ ρ h a0) := by
        intro _ rL1_58 rS0_58 i0_58
        refine pw_iconst d189_58 ?_
        exact J59 (0) (by omega) (by omega) (by omega) (by omega) (by omega)
      refine pw_iload_n d189_30 rfl ?_
      refine pw_sipush d189_31 (by decide) ?_
      refine pw_icmp_ge d189_34 rfl (by omega) (by omega) (fun c34 => ?_) (fun c34 => ?_)
      · refine pw_aload_n d189_66 rfl ?_
        refine pw_getR d189_67 g189_31 hT_30 hA0 rfl rfl (fun t67 => ?_)
        have t67 : τ (ρ a0 14) = some 45 := t67
        refine pw_iconst d189_70 ?_
        refine pw_iconst d189_71 ?_
        refine pw_iastB d189_72 hT_30 t67 rfl rfl rfl (by omega) (by omega) (by omega) (by show pv_wok _ _; unfold pv_wok; omega) (fun h72 T72 F72 E72 => ?_)
        have f72 := hF_30.tr (F72.up (by decide))
        have q72 := ((F72 a0 7 hA0).1 7 (by decide)).1
        have q72b := ((F72 a0 7 hA0).1 8 (by decide)).1
        have q72c := ((F72 a0 7 hA0).1 10 (by decide)).1
        have q72d := ((F72 a0 7 hA0).1 12 (by decide)).1
        have y73 : pv_aI h72 (ρ a0 14) (2 : Int).toNat = 0 := by rw [E72]; split <;> omega
        refine pw_aload_n d189_73 rfl ?_
        refine pw_getR d189_74 g189_31 T72 hA0 rfl rfl (fun t74 => ?_)
        have t74 : τ (ρ a0 14) = some 45 := t74
        refine pw_iconst d189_77 ?_
        refine pw_sipush d189_78 (by decide) ?_
        refine pw_iastB d189_81 T72 t74 rfl rfl rfl (by omega) (by omega) (by omega) (by show pv_wok _ _; unfold pv_wok; omega) (fun h81 T81 F81 E81 => ?_)
        have f81 := f72.tr (F81.up (by decide))
        have q81 := ((F81 a0 7 hA0).1 7 (by decide)).1
        have q81b := ((F81 a0 7 hA0).1 8 (by decide)).1
        have q81c := ((F81 a0 7 hA0).1 10 (by decide)).1
        have q81d := ((F81 a0 7 hA0).1 12 (by decide)).1
        have y82 : pv_aI h81 (ρ a0 14) (2 : Int).toNat = 0 := by rw [E81]; split <;> omega
        refine pw_aload_n d189_82 rfl ?_
        refine pw_callV0 d189_83 k189_139 T81 hA0 rfl rfl rfl (ct190 (τ := τ) (ρ := ρ) T81 hA0 (by first | assumption | omega) (by first | assumption | omega)) (fun r83 h83 q83 => ?_)
        obtain ⟨T83, F83, ez83, pz83_0⟩ := q83
        subst ez83
        have f83 := f81.tr (F83.up (by decide))
        have q83b := ((F83 a0 7 hA0).1 7 (by decide)).1
        have q83c := ((F83 a0 7 hA0).1 8 (by decide)).1
        have q83d := ((F83 a0 7 hA0).1 12 (by decide)).1
        exact L86 _ h83 _ T83 f83 (by omega) (by omega) (by rw [((F83 (ρ a0 14) 45 hR0_14).2 (by decide) _).1]; exact y82) (pv_mu _)
      · refine pw_aload_n d189_37 rfl ?_
        refine pw_getR d189_38 g189_31 hT_30 hA0 rfl rfl (fun t38 => ?_)
        have t38 : τ (ρ a0 14) = some 45 := t38
        refine pw_iload_n d189_41 rfl ?_
        refine pw_iload_n d189_42 rfl ?_
        refine pw_bipush d189_43 (by decide) ?_
        refine pw_icmp_lt d189_45 rfl (by omega) (by omega) (fun c45 => ?_) (fun c45 => ?_)
        · exact J58 () (by omega) (by omega) (by omega)
        · refine pw_iload_n d189_48 rfl ?_
          refine pw_bipush d189_49 (by decide) ?_
          refine pw_icmp_ge d189_51 rfl (by omega) (by omega) (fun c51 => ?_) (fun c51 => ?_)
          · exact J58 () (by omega) (by omega) (by omega)
          · refine pw_iconst d189_54 ?_
            refine pw_goto d189_55 rfl ?_
            exact J59 ((-1)) (by omega) (by omega) (by omega) (by omega) (by omega)
  refine pw_aload_n d189_0 rfl ?_
  refine pw_aload_n d189_1 rfl ?_
  refine pw_getI d189_2 g189_81 hT hA0 rfl rfl (fun u2 vu2 => ?_)
  refine pw_putI d189_5 g189_84 w7_7 hT hA0 rfl rfl rfl (by omega) (by omega) (fun h5 T5 F5 E5 => ?_)
  have f5 := hF0.tr (F5.up (by decide))
  have q5 := ((F5 a0 7 hA0).1 5 (by decide)).1
  have q5b := ((F5 a0 7 hA0).1 8 (by decide)).1
  have q5c := ((F5 a0 7 hA0).1 10 (by decide)).1
  have q5d := ((F5 a0 7 hA0).1 12 (by decide)).1
  refine pw_aload_n d189_8 rfl ?_
  refine pw_iconst d189_9 ?_
  refine pw_putI d189_10 g189_81 w7_5 T5 hA0 rfl rfl rfl (by omega) (by omega) (fun h10 T10 F10 E10 => ?_)
  have f10 := f5.tr (F10.up (by decide))
  have q10 := ((F10 a0 7 hA0).1 7 (by decide)).1
  have q10b := ((F10 a0 7 hA0).1 8 (by decide)).1
  have q10c := ((F10 a0 7 hA0).1 10 (by decide)).1
  have q10d := ((F10 a0 7 hA0).1 12 (by decide)).1
  refine pw_aload_n d189_13 rfl ?_
  refine pw_iconst d189_14 ?_
  refine pw_putI d189_15 g189_87 w7_8 T10 hA0 rfl rfl rfl (by omega) (by omega) (fun h15 T15 F15 E15 => ?_)
  have f15 := f10.tr (F15.up (by decide))
  have q15 := ((F15 a0 7 hA0).1 5 (by decide)).1
  have q15b := ((F15 a0 7 hA0).1 7 (by decide)).1
  have q15c := ((F15 a0 7 hA0).1 10 (by decide)).1
  have q15d := ((F15 a0 7 hA0).1 12 (by decide)).1
  refine pw_aload_n d189_18 rfl ?_
  refine pw_iconst d189_19 ?_
  refine pw_putI d189_20 g189_118 w7_12 T15 hA0 rfl rfl rfl (by omega) (by omega) (fun h20 T20 F20 E20 => ?_)
  have f20 := f15.tr (F20.up (by decide))
  have q20 := ((F20 a0 7 hA0).1 5 (by decide)).1
  have q20b := ((F20 a0 7 hA0).1 7 (by decide)).1
  have q20c := ((F20 a0 7 hA0).1 8 (by decide)).1
  have q20d := ((F20 a0 7 hA0).1 10 (by decide)).1
  refine pw_aload_n d189_23 rfl ?_
  refine pw_iconst d189_24 ?_
  refine pw_putI d189_25 g189_27 w7_13 T20 hA0 rfl rfl rfl (by omega) (by omega) (fun h25 T25 F25 E25 => ?_)
  have f25 := f20.tr (F25.up (by decide))
  have q25 := ((F25 a0 7 hA0).1 5 (by decide)).1
  have q25b := ((F25 a0 7 hA0).1 7 (by decide)).1
  have q25c := ((F25 a0 7 hA0).1 8 (by decide)).1
  have q25d := ((F25 a0 7 hA0).1 10 (by decide)).1
  have q25e := ((F25 a0 7 hA0).1 12 (by decide)).1
  refine pw_iconst d189_28 ?_
  refine pw_istore_n d189_29 m189 rfl rfl ?_
  exact L30 _ h25 (0) T25 f25 (by omega) (by omega) (by omega) (by omega) (by omega) (pv_mu _)

abbrev Q186 (τ : Nat → Option Nat) (ρ : Nat → Nat → Nat) (h : pv_H) (a0 : Nat) (x1 : Int) (x2 : Int) (x3 : Int) (x4 : Int) (x5 : Int) : Option Value → pv_H → Prop := fun r h' => pv_Ty τ ρ h' ∧ pv_Fr τ [453, 2815, 2879] h h' ∧ ∃ z : Int, r = some (.int (pv_I z)) ∧ 20 ≤ z ∧ z ≤ 20 ∧ (z = 20)
set_option maxHeartbeats 4000000 in
set_option maxRecDepth 20000 in
/-- AngleNetModel.feed(IIIII)I -/
theorem ct186 {τ : Nat → Option Nat} {ρ : Nat → Nat → Nat} {K : Nat → Nat} {h : pv_H} {a0 : Nat} {x1 : Int} {x2 : Int} {x3 : Int} {x4 : Int} {x5 : Int} (hT : pv_Ty τ ρ h) (hA0 : τ a0 = some 7) (hX1 : (-2147483648) ≤ x1 ∧ x1 ≤ 2147483647) (hX2 : (-2147483648) ≤ x2 ∧ x2 ≤ 2147483647) (hX3 : (-2147483648) ≤ x3 ∧ x3 ≤ 2147483647) (hX4 : (-2147483648) ≤ x4 ∧ x4 ≤ 2147483647) (hX5 : (-2147483648) ≤ x5 ∧ x5 ≤ 2147483647) (hP0 : pv_fI h a0 5 = 0) : pv_C K 186 [.ref a0, .int (pv_I x1), .int (pv_I x2), .int (pv_I x3), .int (pv_I x4), .int (pv_I x5)] h (Q186 τ ρ h a0 x1 x2 x3 x4 x5) := by
  refine pw_entry 1 ?_
  show pv_T K 186 0 (pv_fl [some (.ref a0), some (.int (pv_I x1)), some (.int (pv_I x2)), some (.int (pv_I x3)), some (.int (pv_I x4)), some (.int (pv_I x5)), none]) [] h (Q186 τ ρ h a0 x1 x2 x3 x4 x5)
  have hF0 : pv_Fr τ [453, 2815, 2879] h h := pv_Fr.rf
  have L55 : ∀ (nn : Nat) (h_55 : pv_H) (xL6_55 : Int) (o1_55 o2_55 o3_55 o4_55 o5_55 : Option Value), (pv_Ty τ ρ h_55) → (pv_Fr τ [453, 2815, 2879] h h_55) → (0 ≤ xL6_55 ∧ xL6_55 ≤ 20) → (pv_fI h_55 a0 5 = 0) → 20 - xL6_55 < nn → pv_T K 186 55 (pv_fl [some (.ref a0), o1_55, o2_55, o3_55, o4_55, o5_55, some (.int (pv_I xL6_55))]) [] h_55 (Q186 τ ρ h a0 x1 x2 x3 x4 x5) := by
    intro nn
    induction nn with
    | zero => intro h_55 xL6_55 o1_55 o2_55 o3_55 o4_55 o5_55 hT_55 hF_55 rL6_55 i0_55 hm; exfalso; omega
    | succ nn ih55 =>
      intro h_55 xL6_55 o1_55 o2_55 o3_55 o4_55 o5_55 hT_55 hF_55 rL6_55 i0_55 hm55
      refine pw_iload d186_55 rfl ?_
      refine pw_bipush d186_57 (by decide) ?_
      refine pw_icmp_ge d186_59 rfl (by omega) (by omega) (fun c59 => ?_) (fun c59 => ?_)
      · refine pw_aload_n d186_101 rfl ?_
        refine pw_dup d186_102 rfl ?_
        refine pw_getI d186_103 g186_81 hT_55 hA0 rfl rfl (fun u103 vu103 => ?_)
        refine pw_bipush d186_106 (by decide) ?_
        refine pw_iadd d186_108 ?_
        refine pw_putI d186_109 g186_81 w7_5 hT_55 hA0 rfl rfl rfl (by omega) (by omega) (fun h109 T109 F109 E109 => ?_)
        have f109 := hF_55.tr (F109.up (by decide))
        refine pw_aload_n d186_112 rfl ?_
        refine pw_getI d186_113 g186_81 T109 hA0 rfl rfl (fun u113 vu113 => ?_)
        exact pw_ireturn d186_116 tt186 ⟨T109, f109, (pv_fI h109 a0 5), rfl, (by omega), (by omega), (by omega)⟩
      · refine pw_aload_n d186_62 rfl ?_
        refine pw_getR d186_63 g186_20 hT_55 hA0 rfl rfl (fun t63 => ?_)
        have t63 : τ (ρ a0 4) = some 43 := t63
        refine pw_aload_n d186_66 rfl ?_
        refine pw_getI d186_67 g186_81 hT_55 hA0 rfl rfl (fun u67 vu67 => ?_)
        refine pw_iload d186_70 rfl ?_
        refine pw_iadd d186_72 ?_
        refine pw_aload_n d186_73 rfl ?_
        refine pw_getR d186_74 g186_24 hT_55 hA0 rfl rfl (fun t74 => ?_)
        have t74 : τ (ρ a0 6) = some 44 := t74
        refine pw_iload d186_77 rfl ?_
        refine pw_iconst d186_79 ?_
        refine pw_idiv d186_80 (by omega) (by omega) (by omega) (by omega) ?_
        refine pw_iald d186_81 hT_55 t74 rfl rfl (by omega) (by omega) (fun u81 vu81 => ?_)
        refine pw_bipush d186_82 (by decide) ?_
        refine pw_bipush d186_84 (by decide) ?_
        refine pw_iload d186_86 rfl ?_
        refine pw_iconst d186_88 ?_
        refine pw_irem d186_89 (by omega) (by omega) (by omega) (by omega) ?_
        refine pw_imul d186_90 ?_
        refine pw_isub d186_91 ?_
        refine pw_ishr d186_92 (fun z92 hz92 ez92 => ?_)
        refine pw_i2b d186_93 (fun z93 hz93 gz93 ez93 => ?_)
        refine pw_bastB d186_94 hT_55 t63 rfl rfl rfl (by omega) (by omega) (fun h94 T94 F94 E94 => ?_)
        have f94 := hF_55.tr (F94.up (by decide))
        have q94 := ((F94 a0 7 hA0).1 5 (by decide)).1
        refine pw_iinc d186_95 m186 rfl rfl rfl ?_
        refine pw_goto d186_98 rfl ?_
        exact ih55 h94 ((xL6_55 + 1)) _ _ _ _ _ T94 f94 (by omega) (by omega) (by omega)
  refine pw_aload_n d186_0 rfl ?_
  refine pw_getI d186_1 g186_81 hT hA0 rfl rfl (fun u1 vu1 => ?_)
  refine pw_bipush d186_4 (by decide) ?_
  refine pw_iadd d186_6 ?_
  refine pw_sipush d186_7 (by decide) ?_
  refine pw_icmp_le d186_10 rfl (by omega) (by omega) (fun c10 => ?_) (fun c10 => ?_)
  · refine pw_aload_n d186_15 rfl ?_
    refine pw_getR d186_16 g186_24 hT hA0 rfl rfl (fun t16 => ?_)
    have t16 : τ (ρ a0 6) = some 44 := t16
    refine pw_iconst d186_19 ?_
    refine pw_iload_n d186_20 rfl ?_
    refine pw_iast d186_21 hT t16 rfl rfl rfl (by omega) (by omega) (by omega) (by omega) (fun h21 T21 F21 E21 => ?_)
    have f21 := hF0.tr (F21.up (by decide))
    have q21 := ((F21 a0 7 hA0).1 5 (by decide)).1
    refine pw_aload_n d186_22 rfl ?_
    refine pw_getR d186_23 g186_24 T21 hA0 rfl rfl (fun t23 => ?_)
    have t23 : τ (ρ a0 6) = some 44 := t23
    refine pw_iconst d186_26 ?_
    refine pw_iload_n d186_27 rfl ?_
    refine pw_iast d186_28 T21 t23 rfl rfl rfl (by omega) (by omega) (by omega) (by omega) (fun h28 T28 F28 E28 => ?_)
    have f28 := f21.tr (F28.up (by decide))
    have q28 := ((F28 a0 7 hA0).1 5 (by decide)).1
    refine pw_aload_n d186_29 rfl ?_
    refine pw_getR d186_30 g186_24 T28 hA0 rfl rfl (fun t30 => ?_)
    have t30 : τ (ρ a0 6) = some 44 := t30
    refine pw_iconst d186_33 ?_
    refine pw_iload_n d186_34 rfl ?_
    refine pw_iast d186_35 T28 t30 rfl rfl rfl (by omega) (by omega) (by omega) (by omega) (fun h35 T35 F35 E35 => ?_)
    have f35 := f28.tr (F35.up (by decide))
    have q35 := ((F35 a0 7 hA0).1 5 (by decide)).1
    refine pw_aload_n d186_36 rfl ?_
    refine pw_getR d186_37 g186_24 T35 hA0 rfl rfl (fun t37 => ?_)
    have t37 : τ (ρ a0 6) = some 44 := t37
    refine pw_iconst d186_40 ?_
    refine pw_iload d186_41 rfl ?_
    refine pw_iast d186_43 T35 t37 rfl rfl rfl (by omega) (by omega) (by omega) (by omega) (fun h43 T43 F43 E43 => ?_)
    have f43 := f35.tr (F43.up (by decide))
    have q43 := ((F43 a0 7 hA0).1 5 (by decide)).1
    refine pw_aload_n d186_44 rfl ?_
    refine pw_getR d186_45 g186_24 T43 hA0 rfl rfl (fun t45 => ?_)
    have t45 : τ (ρ a0 6) = some 44 := t45
    refine pw_iconst d186_48 ?_
    refine pw_iload d186_49 rfl ?_
    refine pw_iast d186_51 T43 t45 rfl rfl rfl (by omega) (by omega) (by omega) (by omega) (fun h51 T51 F51 E51 => ?_)
    have f51 := f43.tr (F51.up (by decide))
    have q51 := ((F51 a0 7 hA0).1 5 (by decide)).1
    refine pw_iconst d186_52 ?_
    refine pw_istore d186_53 m186 rfl rfl ?_
    exact L55 _ h51 (0) _ _ _ _ _ T51 f51 (by omega) (by omega) (pv_mu _)
  · exfalso; omega

abbrev Q187 (τ : Nat → Option Nat) (ρ : Nat → Nat → Nat) (h : pv_H) (a0 : Nat) (x1 : Int) : Option Value → pv_H → Prop := fun r h' => pv_Ty τ ρ h' ∧ pv_Fr τ [453] h h' ∧ ∃ z : Int, r = some (.int (pv_I z)) ∧ (-1) ≤ z ∧ z ≤ 0 ∧ (z = if x1 = 0 then 0 else -1)
set_option maxHeartbeats 4000000 in
set_option maxRecDepth 20000 in
/-- AngleNetModel.end(I)I -/
theorem ct187 {τ : Nat → Option Nat} {ρ : Nat → Nat → Nat} {K : Nat → Nat} {h : pv_H} {a0 : Nat} {x1 : Int} (hT : pv_Ty τ ρ h) (hA0 : τ a0 = some 7) (hX1 : (-2147483648) ≤ x1 ∧ x1 ≤ 2147483647) (hP0 : pv_fI h a0 5 = 0) : pv_C K 187 [.ref a0, .int (pv_I x1)] h (Q187 τ ρ h a0 x1) := by
  refine pw_entry 0 ?_
  show pv_T K 187 0 (pv_fl [some (.ref a0), some (.int (pv_I x1))]) [] h (Q187 τ ρ h a0 x1)
  have hF0 : pv_Fr τ [453] h h := pv_Fr.rf
  refine pw_iload_n d187_0 rfl ?_
  refine pw_i2l d187_1 (by omega) ?_
  refine pw_lconst (z := 0) d187_2 (by decide) ?_
  refine pw_aload_n d187_3 rfl ?_
  refine pw_getI d187_4 g187_81 hT hA0 rfl rfl (fun u4 vu4 => ?_)
  refine pw_i2l d187_7 (by omega) ?_
  refine pw_callS3 d187_8 k187_73 rfl rfl (ct184 (τ := τ) (ρ := ρ) (by omega) (by omega) (by omega)) (fun r8 h8 q8 => ?_)
  obtain ⟨eh8, z8, ez8, lz8, uz8, pz8_0⟩ := q8
  subst eh8
  subst ez8
  refine pw_if_ne d187_11 rfl (by omega) (fun c11 => ?_) (fun c11 => ?_)
  · refine pw_aload_n d187_16 rfl ?_
    refine pw_iload_n d187_17 rfl ?_
    refine pw_putI d187_18 g187_81 w7_5 hT hA0 rfl rfl rfl (by omega) (by omega) (fun h18 T18 F18 E18 => ?_)
    have f18 := hF0.tr (F18.up (by decide))
    refine pw_iload_n d187_21 rfl ?_
    exact pw_ireturn d187_22 tt187 ⟨T18, f18, x1, rfl, (by omega), (by omega), (by omega)⟩
  · refine pw_iconst d187_14 ?_
    exact pw_ireturn d187_15 tt187 ⟨hT, hF0, (-1), rfl, (by omega), (by omega), (by omega)⟩

abbrev Q188 (τ : Nat → Option Nat) (ρ : Nat → Nat → Nat) (h : pv_H) (a0 : Nat) (x1 : Int) : Option Value → pv_H → Prop := fun r h' => h = h' ∧ ∃ z : Int, r = some (.int (pv_I z)) ∧ (-1) ≤ z ∧ z ≤ 1600 ∧ (z = if x1 = 0 then 0 else -1)
set_option maxHeartbeats 4000000 in
set_option maxRecDepth 20000 in
/-- AngleNetModel.fault(I)I -/
theorem ct188 {τ : Nat → Option Nat} {ρ : Nat → Nat → Nat} {K : Nat → Nat} {h : pv_H} {a0 : Nat} {x1 : Int} (hT : pv_Ty τ ρ h) (hA0 : τ a0 = some 7) (hX1 : (-2147483648) ≤ x1 ∧ x1 ≤ 2147483647) (hP0 : pv_fI h a0 12 = 0) (hP1 : pv_fI h a0 13 = -1) : pv_C K 188 [.ref a0, .int (pv_I x1)] h (Q188 τ ρ h a0 x1) := by
  refine pw_entry 0 ?_
  show pv_T K 188 0 (pv_fl [some (.ref a0), some (.int (pv_I x1))]) [] h (Q188 τ ρ h a0 x1)
  refine pw_iload_n d188_0 rfl ?_
  refine pw_if_ne d188_1 rfl (by omega) (fun c1 => ?_) (fun c1 => ?_)
  · refine pw_iload_n d188_11 rfl ?_
    refine pw_iconst d188_12 ?_
    refine pw_icmp_ne d188_13 rfl (by omega) (by omega) (fun c13 => ?_) (fun c13 => ?_)
    · refine pw_iconst d188_23 ?_
      exact pw_ireturn d188_24 tt188 ⟨rfl, (-1), rfl, (by omega), (by omega), (by omega)⟩
    · refine pw_aload_n d188_16 rfl ?_
      refine pw_getI d188_17 g188_27 hT hA0 rfl rfl (fun u17 vu17 => ?_)
      refine pw_goto d188_20 rfl ?_
      exact pw_ireturn d188_24 tt188 ⟨rfl, (pv_fI h a0 13), rfl, (by omega), (by omega), (by omega)⟩
  · refine pw_aload_n d188_4 rfl ?_
    refine pw_getI d188_5 g188_118 hT hA0 rfl rfl (fun u5 vu5 => ?_)
    refine pw_goto d188_8 rfl ?_
    exact pw_ireturn d188_24 tt188 ⟨rfl, (pv_fI h a0 12), rfl, (by omega), (by omega), (by omega)⟩

abbrev Q210 (τ : Nat → Option Nat) (ρ : Nat → Nat → Nat) (h : pv_H) (a0 : Nat) (x1 : Int) (x2 : Int) : Option Value → pv_H → Prop := fun r h' => h = h' ∧ ∃ z : Int, r = some (.int (pv_I z)) ∧ (-2) ≤ z ∧ z ≤ (-2)
set_option maxHeartbeats 4000000 in
set_option maxRecDepth 20000 in
/-- AngleNetModel.third(II)I -/
theorem ct210 {τ : Nat → Option Nat} {ρ : Nat → Nat → Nat} {K : Nat → Nat} {h : pv_H} {a0 : Nat} {x1 : Int} {x2 : Int} (hT : pv_Ty τ ρ h) (hA0 : τ a0 = some 7) (hX1 : (-2147483648) ≤ x1 ∧ x1 ≤ 2147483647) (hX2 : (-2147483648) ≤ x2 ∧ x2 ≤ 2147483647) (hP0 : pv_aI h (ρ a0 1) (1 : Int).toNat = 0) : pv_C K 210 [.ref a0, .int (pv_I x1), .int (pv_I x2)] h (Q210 τ ρ h a0 x1 x2) := by
  refine pw_entry 0 ?_
  show pv_T K 210 0 (pv_fl [some (.ref a0), some (.int (pv_I x1)), some (.int (pv_I x2))]) [] h (Q210 τ ρ h a0 x1 x2)
  have hR0_1 : τ (ρ a0 1) = some 40 := hT.rf (t' := 40) hA0 rfl rfl
  refine pw_aload_n d210_0 rfl ?_
  refine pw_iload_n d210_1 rfl ?_
  refine pw_callV1 d210_2 k210_225 hT hA0 rfl rfl rfl (ct211 (τ := τ) (ρ := ρ) hT hA0 (by omega) (by first | assumption | omega)) (fun r2 h2 q2 => ?_)
  obtain ⟨eh2, z2, ez2, lz2, uz2⟩ := q2
  subst eh2
  subst ez2
  refine pw_if_eq d210_5 rfl (by omega) (fun c5 => ?_) (fun c5 => ?_)
  · refine pw_bipush d210_29 (by decide) ?_
    exact pw_ireturn d210_31 tt210 ⟨rfl, (-2), rfl, (by omega), (by omega)⟩
  · exfalso; omega

abbrev Q213 (τ : Nat → Option Nat) (ρ : Nat → Nat → Nat) (h : pv_H) (a0 : Nat) (x1 : Int) (x2 : Int) : Option Value → pv_H → Prop := fun r h' => h = h' ∧ ∃ z : Int, r = some (.int (pv_I z)) ∧ (-2) ≤ z ∧ z ≤ (-2)
set_option maxHeartbeats 4000000 in
set_option maxRecDepth 20000 in
/-- AngleNetModel.post(II)I -/
theorem ct213 {τ : Nat → Option Nat} {ρ : Nat → Nat → Nat} {K : Nat → Nat} {h : pv_H} {a0 : Nat} {x1 : Int} {x2 : Int} (hT : pv_Ty τ ρ h) (hA0 : τ a0 = some 7) (hX1 : (-2147483648) ≤ x1 ∧ x1 ≤ 2147483647) (hX2 : (-2147483648) ≤ x2 ∧ x2 ≤ 2147483647) (hP0 : pv_aI h (ρ a0 1) (0 : Int).toNat = 0) : pv_C K 213 [.ref a0, .int (pv_I x1), .int (pv_I x2)] h (Q213 τ ρ h a0 x1 x2) := by
  refine pw_entry 2 ?_
  show pv_T K 213 0 (pv_fl [some (.ref a0), some (.int (pv_I x1)), some (.int (pv_I x2)), none, none]) [] h (Q213 τ ρ h a0 x1 x2)
  have hR0_1 : τ (ρ a0 1) = some 40 := hT.rf (t' := 40) hA0 rfl rfl
  refine pw_aload_n d213_0 rfl ?_
  refine pw_iload_n d213_1 rfl ?_
  refine pw_callV1 d213_2 k213_77 hT hA0 rfl rfl rfl (ct214 (τ := τ) (ρ := ρ) hT hA0 (by omega) (by first | assumption | omega)) (fun r2 h2 q2 => ?_)
  obtain ⟨eh2, z2, ez2, lz2, uz2⟩ := q2
  subst eh2
  subst ez2
  refine pw_if_eq d213_5 rfl (by omega) (fun c5 => ?_) (fun c5 => ?_)
  · refine pw_bipush d213_20 (by decide) ?_
    exact pw_ireturn d213_22 tt213 ⟨rfl, (-2), rfl, (by omega), (by omega)⟩
  · exfalso; omega

abbrev Q219 (τ : Nat → Option Nat) (ρ : Nat → Nat → Nat) (h : pv_H) (a0 : Nat) (x1 : Int) (x2 : Int) : Option Value → pv_H → Prop := fun r h' => h = h' ∧ ∃ z : Int, r = some (.int (pv_I z)) ∧ (-2) ≤ z ∧ z ≤ (-2)
set_option maxHeartbeats 4000000 in
set_option maxRecDepth 20000 in
/-- AngleNetModel.side(II)I -/
theorem ct219 {τ : Nat → Option Nat} {ρ : Nat → Nat → Nat} {K : Nat → Nat} {h : pv_H} {a0 : Nat} {x1 : Int} {x2 : Int} (hT : pv_Ty τ ρ h) (hA0 : τ a0 = some 7) (hX1 : (-2147483648) ≤ x1 ∧ x1 ≤ 2147483647) (hX2 : (-2147483648) ≤ x2 ∧ x2 ≤ 2147483647) (hP0 : pv_aI h (ρ a0 1) (0 : Int).toNat = 0) : pv_C K 219 [.ref a0, .int (pv_I x1), .int (pv_I x2)] h (Q219 τ ρ h a0 x1 x2) := by
  refine pw_entry 0 ?_
  show pv_T K 219 0 (pv_fl [some (.ref a0), some (.int (pv_I x1)), some (.int (pv_I x2))]) [] h (Q219 τ ρ h a0 x1 x2)
  have hR0_1 : τ (ρ a0 1) = some 40 := hT.rf (t' := 40) hA0 rfl rfl
  refine pw_aload_n d219_0 rfl ?_
  refine pw_iload_n d219_1 rfl ?_
  refine pw_iload_n d219_2 rfl ?_
  refine pw_callV2 d219_3 k219_235 hT hA0 rfl rfl rfl (ct220 (τ := τ) (ρ := ρ) hT hA0 (by omega) (by omega) (by first | assumption | omega)) (fun r3 h3 q3 => ?_)
  obtain ⟨eh3, z3, ez3, lz3, uz3⟩ := q3
  subst eh3
  subst ez3
  refine pw_if_eq d219_6 rfl (by omega) (fun c6 => ?_) (fun c6 => ?_)
  · refine pw_bipush d219_18 (by decide) ?_
    exact pw_ireturn d219_20 tt219 ⟨rfl, (-2), rfl, (by omega), (by omega)⟩
  · exfalso; omega

abbrev Q221 (τ : Nat → Option Nat) (ρ : Nat → Nat → Nat) (h : pv_H) (a0 : Nat) (x1 : Int) : Option Value → pv_H → Prop := fun r h' => h = h' ∧ ∃ z : Int, r = some (.int (pv_I z)) ∧ (-1) ≤ z ∧ z ≤ (-1)
set_option maxHeartbeats 4000000 in
set_option maxRecDepth 20000 in
/-- AngleNetModel.sides(I)I -/
theorem ct221 {τ : Nat → Option Nat} {ρ : Nat → Nat → Nat} {K : Nat → Nat} {h : pv_H} {a0 : Nat} {x1 : Int} (hT : pv_Ty τ ρ h) (hA0 : τ a0 = some 7) (hX1 : (-2147483648) ≤ x1 ∧ x1 ≤ 2147483647) (hP0 : pv_aI h (ρ a0 1) (0 : Int).toNat = 0) : pv_C K 221 [.ref a0, .int (pv_I x1)] h (Q221 τ ρ h a0 x1) := by
  refine pw_entry 0 ?_
  show pv_T K 221 0 (pv_fl [some (.ref a0), some (.int (pv_I x1))]) [] h (Q221 τ ρ h a0 x1)
  have hR0_1 : τ (ρ a0 1) = some 40 := hT.rf (t' := 40) hA0 rfl rfl
  refine pw_aload_n d221_0 rfl ?_
  refine pw_iload_n d221_1 rfl ?_
  refine pw_callV1 d221_2 k221_238 hT hA0 rfl rfl rfl (ct222 (τ := τ) (ρ := ρ) hT hA0 (by omega) (by first | assumption | omega)) (fun r2 h2 q2 => ?_)
  obtain ⟨eh2, z2, ez2, lz2, uz2⟩ := q2
  subst eh2
  subst ez2
  exact pw_ireturn d221_5 tt221 ⟨rfl, z2, rfl, (by omega), (by omega)⟩

abbrev Q223 (τ : Nat → Option Nat) (ρ : Nat → Nat → Nat) (h : pv_H) (a0 : Nat) (x1 : Int) : Option Value → pv_H → Prop := fun r h' => h = h' ∧ ∃ z : Int, r = some (.int (pv_I z)) ∧ (-2) ≤ z ∧ z ≤ (-2)
set_option maxHeartbeats 4000000 in
set_option maxRecDepth 20000 in
/-- AngleNetModel.surface(I)I -/
theorem ct223 {τ : Nat → Option Nat} {ρ : Nat → Nat → Nat} {K : Nat → Nat} {h : pv_H} {a0 : Nat} {x1 : Int} (hT : pv_Ty τ ρ h) (hA0 : τ a0 = some 7) (hX1 : (-2147483648) ≤ x1 ∧ x1 ≤ 2147483647) (hP0 : pv_aI h (ρ a0 1) (0 : Int).toNat = 0) : pv_C K 223 [.ref a0, .int (pv_I x1)] h (Q223 τ ρ h a0 x1) := by
  refine pw_entry 0 ?_
  show pv_T K 223 0 (pv_fl [some (.ref a0), some (.int (pv_I x1))]) [] h (Q223 τ ρ h a0 x1)
  have hR0_1 : τ (ρ a0 1) = some 40 := hT.rf (t' := 40) hA0 rfl rfl
  refine pw_aload_n d223_0 rfl ?_
  refine pw_callV0 d223_1 k223_283 hT hA0 rfl rfl rfl (ct224 (τ := τ) (ρ := ρ) hT hA0 (by first | assumption | omega)) (fun r1 h1 q1 => ?_)
  obtain ⟨eh1, z1, ez1, lz1, uz1⟩ := q1
  subst eh1
  subst ez1
  refine pw_if_ne d223_4 rfl (by omega) (fun c4 => ?_) (fun c4 => ?_)
  · exfalso; omega
  · refine pw_bipush d223_7 (by decide) ?_
    exact pw_ireturn d223_9 tt223 ⟨rfl, (-2), rfl, (by omega), (by omega)⟩

abbrev Q240 (τ : Nat → Option Nat) (ρ : Nat → Nat → Nat) (h : pv_H) (a0 : Nat) (x1 : Int) (x2 : Int) : Option Value → pv_H → Prop := fun r h' => h = h' ∧ ∃ z : Int, r = some (.int (pv_I z)) ∧ (-2) ≤ z ∧ z ≤ (-2)
set_option maxHeartbeats 4000000 in
set_option maxRecDepth 20000 in
/-- AngleNetModel.round(II)I -/
theorem ct240 {τ : Nat → Option Nat} {ρ : Nat → Nat → Nat} {K : Nat → Nat} {h : pv_H} {a0 : Nat} {x1 : Int} {x2 : Int} (hT : pv_Ty τ ρ h) (hA0 : τ a0 = some 7) (hX1 : (-2147483648) ≤ x1 ∧ x1 ≤ 2147483647) (hX2 : (-2147483648) ≤ x2 ∧ x2 ≤ 2147483647) (hP0 : pv_aI h (ρ a0 1) (0 : Int).toNat = 0) : pv_C K 240 [.ref a0, .int (pv_I x1), .int (pv_I x2)] h (Q240 τ ρ h a0 x1 x2) := by
  refine pw_entry 4 ?_
  show pv_T K 240 0 (pv_fl [some (.ref a0), some (.int (pv_I x1)), some (.int (pv_I x2)), none, none, none, none]) [] h (Q240 τ ρ h a0 x1 x2)
  have hR0_1 : τ (ρ a0 1) = some 40 := hT.rf (t' := 40) hA0 rfl rfl
  refine pw_aload_n d240_0 rfl ?_
  refine pw_iload_n d240_1 rfl ?_
  refine pw_callV1 d240_2 k240_77 hT hA0 rfl rfl rfl (ct214 (τ := τ) (ρ := ρ) hT hA0 (by omega) (by first | assumption | omega)) (fun r2 h2 q2 => ?_)
  obtain ⟨eh2, z2, ez2, lz2, uz2⟩ := q2
  subst eh2
  subst ez2
  refine pw_if_ne d240_5 rfl (by omega) (fun c5 => ?_) (fun c5 => ?_)
  · exfalso; omega
  · refine pw_bipush d240_8 (by decide) ?_
    exact pw_ireturn d240_10 tt240 ⟨rfl, (-2), rfl, (by omega), (by omega)⟩

abbrev Q244 (τ : Nat → Option Nat) (ρ : Nat → Nat → Nat) (h : pv_H) (a0 : Nat) : Option Value → pv_H → Prop := fun r h' => h = h' ∧ ∃ z : Int, r = some (.int (pv_I z)) ∧ (-1000000) ≤ z ∧ z ≤ (-1000000)
set_option maxHeartbeats 4000000 in
set_option maxRecDepth 20000 in
/-- AngleNetModel.over()I -/
theorem ct244 {τ : Nat → Option Nat} {ρ : Nat → Nat → Nat} {K : Nat → Nat} {h : pv_H} {a0 : Nat} (hT : pv_Ty τ ρ h) (hA0 : τ a0 = some 7) (hP0 : pv_aI h (ρ a0 1) (0 : Int).toNat = 0) : pv_C K 244 [.ref a0] h (Q244 τ ρ h a0) := by
  refine pw_entry 3 ?_
  show pv_T K 244 0 (pv_fl [some (.ref a0), none, none, none]) [] h (Q244 τ ρ h a0)
  have hR0_1 : τ (ρ a0 1) = some 40 := hT.rf (t' := 40) hA0 rfl rfl
  refine pw_aload_n d244_0 rfl ?_
  refine pw_callV0 d244_1 k244_283 hT hA0 rfl rfl rfl (ct224 (τ := τ) (ρ := ρ) hT hA0 (by first | assumption | omega)) (fun r1 h1 q1 => ?_)
  obtain ⟨eh1, z1, ez1, lz1, uz1⟩ := q1
  subst eh1
  subst ez1
  refine pw_if_ne d244_4 rfl (by omega) (fun c4 => ?_) (fun c4 => ?_)
  · exfalso; omega
  · refine pw_ldcw (v := pv_I (-1000000)) d244_7 n244_7 ?_
    exact pw_ireturn d244_10 tt244 ⟨rfl, (-1000000), rfl, (by omega), (by omega)⟩

abbrev Q247 (τ : Nat → Option Nat) (ρ : Nat → Nat → Nat) (h : pv_H) (a0 : Nat) : Option Value → pv_H → Prop := fun r h' => h = h' ∧ ∃ z : Int, r = some (.int (pv_I z)) ∧ (-2) ≤ z ∧ z ≤ (-2)
set_option maxHeartbeats 4000000 in
set_option maxRecDepth 20000 in
/-- AngleNetModel.can()I -/
theorem ct247 {τ : Nat → Option Nat} {ρ : Nat → Nat → Nat} {K : Nat → Nat} {h : pv_H} {a0 : Nat} (hT : pv_Ty τ ρ h) (hA0 : τ a0 = some 7) (hP0 : pv_aI h (ρ a0 1) (0 : Int).toNat = 0) : pv_C K 247 [.ref a0] h (Q247 τ ρ h a0) := by
  refine pw_entry 0 ?_
  show pv_T K 247 0 (pv_fl [some (.ref a0)]) [] h (Q247 τ ρ h a0)
  have hR0_1 : τ (ρ a0 1) = some 40 := hT.rf (t' := 40) hA0 rfl rfl
  refine pw_aload_n d247_0 rfl ?_
  refine pw_callV0 d247_1 k247_283 hT hA0 rfl rfl rfl (ct224 (τ := τ) (ρ := ρ) hT hA0 (by first | assumption | omega)) (fun r1 h1 q1 => ?_)
  obtain ⟨eh1, z1, ez1, lz1, uz1⟩ := q1
  subst eh1
  subst ez1
  refine pw_if_ne d247_4 rfl (by omega) (fun c4 => ?_) (fun c4 => ?_)
  · exfalso; omega
  · refine pw_bipush d247_7 (by decide) ?_
    exact pw_ireturn d247_9 tt247 ⟨rfl, (-2), rfl, (by omega), (by omega)⟩

abbrev Q253 (τ : Nat → Option Nat) (ρ : Nat → Nat → Nat) (h : pv_H) (a0 : Nat) (x1 : Int) : Option Value → pv_H → Prop := fun r h' => h = h' ∧ ∃ z : Int, r = some (.int (pv_I z)) ∧ (-2) ≤ z ∧ z ≤ (-2)
set_option maxHeartbeats 4000000 in
set_option maxRecDepth 20000 in
/-- AngleNetModel.bars(I)I -/
theorem ct253 {τ : Nat → Option Nat} {ρ : Nat → Nat → Nat} {K : Nat → Nat} {h : pv_H} {a0 : Nat} {x1 : Int} (hT : pv_Ty τ ρ h) (hA0 : τ a0 = some 7) (hX1 : (-2147483648) ≤ x1 ∧ x1 ≤ 2147483647) (hP0 : pv_aI h (ρ a0 1) (0 : Int).toNat = 0) : pv_C K 253 [.ref a0, .int (pv_I x1)] h (Q253 τ ρ h a0 x1) := by
  refine pw_entry 1 ?_
  show pv_T K 253 0 (pv_fl [some (.ref a0), some (.int (pv_I x1)), none]) [] h (Q253 τ ρ h a0 x1)
  have hR0_1 : τ (ρ a0 1) = some 40 := hT.rf (t' := 40) hA0 rfl rfl
  refine pw_aload_n d253_0 rfl ?_
  refine pw_callV0 d253_1 k253_283 hT hA0 rfl rfl rfl (ct224 (τ := τ) (ρ := ρ) hT hA0 (by first | assumption | omega)) (fun r1 h1 q1 => ?_)
  obtain ⟨eh1, z1, ez1, lz1, uz1⟩ := q1
  subst eh1
  subst ez1
  refine pw_if_eq d253_4 rfl (by omega) (fun c4 => ?_) (fun c4 => ?_)
  · refine pw_bipush d253_17 (by decide) ?_
    exact pw_ireturn d253_19 tt253 ⟨rfl, (-2), rfl, (by omega), (by omega)⟩
  · exfalso; omega

abbrev Q255 (τ : Nat → Option Nat) (ρ : Nat → Nat → Nat) (h : pv_H) (a0 : Nat) (x1 : Int) (x2 : Int) (x3 : Int) : Option Value → pv_H → Prop := fun r h' => h = h' ∧ ∃ z : Int, r = some (.int (pv_I z)) ∧ (-2) ≤ z ∧ z ≤ (-2)
set_option maxHeartbeats 4000000 in
set_option maxRecDepth 20000 in
/-- AngleNetModel.range(III)I -/
theorem ct255 {τ : Nat → Option Nat} {ρ : Nat → Nat → Nat} {K : Nat → Nat} {h : pv_H} {a0 : Nat} {x1 : Int} {x2 : Int} {x3 : Int} (hT : pv_Ty τ ρ h) (hA0 : τ a0 = some 7) (hX1 : (-2147483648) ≤ x1 ∧ x1 ≤ 2147483647) (hX2 : (-2147483648) ≤ x2 ∧ x2 ≤ 2147483647) (hX3 : (-2147483648) ≤ x3 ∧ x3 ≤ 2147483647) (hP0 : pv_aI h (ρ a0 1) (1 : Int).toNat = 0) : pv_C K 255 [.ref a0, .int (pv_I x1), .int (pv_I x2), .int (pv_I x3)] h (Q255 τ ρ h a0 x1 x2 x3) := by
  refine pw_entry 1 ?_
  show pv_T K 255 0 (pv_fl [some (.ref a0), some (.int (pv_I x1)), some (.int (pv_I x2)), some (.int (pv_I x3)), none]) [] h (Q255 τ ρ h a0 x1 x2 x3)
  have hR0_1 : τ (ρ a0 1) = some 40 := hT.rf (t' := 40) hA0 rfl rfl
  refine pw_aload_n d255_0 rfl ?_
  refine pw_iload_n d255_1 rfl ?_
  refine pw_callV1 d255_2 k255_225 hT hA0 rfl rfl rfl (ct211 (τ := τ) (ρ := ρ) hT hA0 (by omega) (by first | assumption | omega)) (fun r2 h2 q2 => ?_)
  obtain ⟨eh2, z2, ez2, lz2, uz2⟩ := q2
  subst eh2
  subst ez2
  refine pw_if_eq d255_5 rfl (by omega) (fun c5 => ?_) (fun c5 => ?_)
  · refine pw_bipush d255_30 (by decide) ?_
    exact pw_ireturn d255_32 tt255 ⟨rfl, (-2), rfl, (by omega), (by omega)⟩
  · exfalso; omega

abbrev Q257 (τ : Nat → Option Nat) (ρ : Nat → Nat → Nat) (h : pv_H) (a0 : Nat) (x1 : Int) (x2 : Int) : Option Value → pv_H → Prop := fun r h' => h = h' ∧ ∃ z : Int, r = some (.int (pv_I z)) ∧ (-2) ≤ z ∧ z ≤ (-2)
set_option maxHeartbeats 4000000 in
set_option maxRecDepth 20000 in
/-- AngleNetModel.tells(II)I -/
theorem ct257 {τ : Nat → Option Nat} {ρ : Nat → Nat → Nat} {K : Nat → Nat} {h : pv_H} {a0 : Nat} {x1 : Int} {x2 : Int} (hT : pv_Ty τ ρ h) (hA0 : τ a0 = some 7) (hX1 : (-2147483648) ≤ x1 ∧ x1 ≤ 2147483647) (hX2 : (-2147483648) ≤ x2 ∧ x2 ≤ 2147483647) (hP0 : pv_aI h (ρ a0 1) (0 : Int).toNat = 0) : pv_C K 257 [.ref a0, .int (pv_I x1), .int (pv_I x2)] h (Q257 τ ρ h a0 x1 x2) := by
  refine pw_entry 1 ?_
  show pv_T K 257 0 (pv_fl [some (.ref a0), some (.int (pv_I x1)), some (.int (pv_I x2)), none]) [] h (Q257 τ ρ h a0 x1 x2)
  have hR0_1 : τ (ρ a0 1) = some 40 := hT.rf (t' := 40) hA0 rfl rfl
  refine pw_aload_n d257_0 rfl ?_
  refine pw_iload_n d257_1 rfl ?_
  refine pw_callV1 d257_2 k257_77 hT hA0 rfl rfl rfl (ct214 (τ := τ) (ρ := ρ) hT hA0 (by omega) (by first | assumption | omega)) (fun r2 h2 q2 => ?_)
  obtain ⟨eh2, z2, ez2, lz2, uz2⟩ := q2
  subst eh2
  subst ez2
  refine pw_if_eq d257_5 rfl (by omega) (fun c5 => ?_) (fun c5 => ?_)
  · refine pw_bipush d257_20 (by decide) ?_
    exact pw_ireturn d257_22 tt257 ⟨rfl, (-2), rfl, (by omega), (by omega)⟩
  · exfalso; omega

abbrev Q258 (τ : Nat → Option Nat) (ρ : Nat → Nat → Nat) (h : pv_H) (a0 : Nat) (x1 : Int) (x2 : Int) : Option Value → pv_H → Prop := fun r h' => h = h' ∧ ∃ z : Int, r = some (.int (pv_I z)) ∧ (-2) ≤ z ∧ z ≤ (-2)
set_option maxHeartbeats 4000000 in
set_option maxRecDepth 20000 in
/-- AngleNetModel.free(II)I -/
theorem ct258 {τ : Nat → Option Nat} {ρ : Nat → Nat → Nat} {K : Nat → Nat} {h : pv_H} {a0 : Nat} {x1 : Int} {x2 : Int} (hT : pv_Ty τ ρ h) (hA0 : τ a0 = some 7) (hX1 : (-2147483648) ≤ x1 ∧ x1 ≤ 2147483647) (hX2 : (-2147483648) ≤ x2 ∧ x2 ≤ 2147483647) (hP0 : pv_aI h (ρ a0 1) (0 : Int).toNat = 0) : pv_C K 258 [.ref a0, .int (pv_I x1), .int (pv_I x2)] h (Q258 τ ρ h a0 x1 x2) := by
  refine pw_entry 5 ?_
  show pv_T K 258 0 (pv_fl [some (.ref a0), some (.int (pv_I x1)), some (.int (pv_I x2)), none, none, none, none, none]) [] h (Q258 τ ρ h a0 x1 x2)
  have hR0_1 : τ (ρ a0 1) = some 40 := hT.rf (t' := 40) hA0 rfl rfl
  refine pw_aload_n d258_0 rfl ?_
  refine pw_iload_n d258_1 rfl ?_
  refine pw_callV1 d258_2 k258_77 hT hA0 rfl rfl rfl (ct214 (τ := τ) (ρ := ρ) hT hA0 (by omega) (by first | assumption | omega)) (fun r2 h2 q2 => ?_)
  obtain ⟨eh2, z2, ez2, lz2, uz2⟩ := q2
  subst eh2
  subst ez2
  refine pw_if_eq d258_5 rfl (by omega) (fun c5 => ?_) (fun c5 => ?_)
  · refine pw_bipush d258_29 (by decide) ?_
    exact pw_ireturn d258_31 tt258 ⟨rfl, (-2), rfl, (by omega), (by omega)⟩
  · exfalso; omega

abbrev Q259 (τ : Nat → Option Nat) (ρ : Nat → Nat → Nat) (h : pv_H) (a0 : Nat) (x1 : Int) (x2 : Int) (x3 : Int) : Option Value → pv_H → Prop := fun r h' => h = h' ∧ ∃ z : Int, r = some (.int (pv_I z)) ∧ (-1000000) ≤ z ∧ z ≤ (-1000000)
set_option maxHeartbeats 4000000 in
set_option maxRecDepth 20000 in
/-- AngleNetModel.turn(III)I -/
theorem ct259 {τ : Nat → Option Nat} {ρ : Nat → Nat → Nat} {K : Nat → Nat} {h : pv_H} {a0 : Nat} {x1 : Int} {x2 : Int} {x3 : Int} (hT : pv_Ty τ ρ h) (hA0 : τ a0 = some 7) (hX1 : (-2147483648) ≤ x1 ∧ x1 ≤ 2147483647) (hX2 : (-2147483648) ≤ x2 ∧ x2 ≤ 2147483647) (hX3 : (-2147483648) ≤ x3 ∧ x3 ≤ 2147483647) (hP0 : pv_aI h (ρ a0 1) (0 : Int).toNat = 0) : pv_C K 259 [.ref a0, .int (pv_I x1), .int (pv_I x2), .int (pv_I x3)] h (Q259 τ ρ h a0 x1 x2 x3) := by
  refine pw_entry 0 ?_
  show pv_T K 259 0 (pv_fl [some (.ref a0), some (.int (pv_I x1)), some (.int (pv_I x2)), some (.int (pv_I x3))]) [] h (Q259 τ ρ h a0 x1 x2 x3)
  have hR0_1 : τ (ρ a0 1) = some 40 := hT.rf (t' := 40) hA0 rfl rfl
  refine pw_aload_n d259_0 rfl ?_
  refine pw_iload_n d259_1 rfl ?_
  refine pw_iload_n d259_2 rfl ?_
  refine pw_iload_n d259_3 rfl ?_
  refine pw_callV3 d259_4 k259_337 hT hA0 rfl rfl rfl (ct260 (τ := τ) (ρ := ρ) hT hA0 (by omega) (by omega) (by omega) (by first | assumption | omega)) (fun r4 h4 q4 => ?_)
  obtain ⟨eh4, z4, ez4, lz4, uz4⟩ := q4
  subst eh4
  subst ez4
  refine pw_if_eq d259_7 rfl (by omega) (fun c7 => ?_) (fun c7 => ?_)
  · refine pw_ldcw (v := pv_I (-1000000)) d259_20 n259_20 ?_
    exact pw_ireturn d259_23 tt259 ⟨rfl, (-1000000), rfl, (by omega), (by omega)⟩
  · exfalso; omega

abbrev Q263 (τ : Nat → Option Nat) (ρ : Nat → Nat → Nat) (h : pv_H) (a0 : Nat) (x1 : Int) (x2 : Int) (x3 : Int) (x4 : Int) : Option Value → pv_H → Prop := fun r h' => h = h' ∧ ∃ z : Int, r = some (.int (pv_I z)) ∧ (-1000000) ≤ z ∧ z ≤ (-1000000)
set_option maxHeartbeats 4000000 in
set_option maxRecDepth 20000 in
/-- AngleNetModel.inside(IIII)I -/
theorem ct263 {τ : Nat → Option Nat} {ρ : Nat → Nat → Nat} {K : Nat → Nat} {h : pv_H} {a0 : Nat} {x1 : Int} {x2 : Int} {x3 : Int} {x4 : Int} (hT : pv_Ty τ ρ h) (hA0 : τ a0 = some 7) (hX1 : (-2147483648) ≤ x1 ∧ x1 ≤ 2147483647) (hX2 : (-2147483648) ≤ x2 ∧ x2 ≤ 2147483647) (hX3 : (-2147483648) ≤ x3 ∧ x3 ≤ 2147483647) (hX4 : (-2147483648) ≤ x4 ∧ x4 ≤ 2147483647) (hP0 : pv_aI h (ρ a0 1) (0 : Int).toNat = 0) : pv_C K 263 [.ref a0, .int (pv_I x1), .int (pv_I x2), .int (pv_I x3), .int (pv_I x4)] h (Q263 τ ρ h a0 x1 x2 x3 x4) := by
  refine pw_entry 1 ?_
  show pv_T K 263 0 (pv_fl [some (.ref a0), some (.int (pv_I x1)), some (.int (pv_I x2)), some (.int (pv_I x3)), some (.int (pv_I x4)), none]) [] h (Q263 τ ρ h a0 x1 x2 x3 x4)
  have hR0_1 : τ (ρ a0 1) = some 40 := hT.rf (t' := 40) hA0 rfl rfl
  refine pw_aload_n d263_0 rfl ?_
  refine pw_iload_n d263_1 rfl ?_
  refine pw_iload_n d263_2 rfl ?_
  refine pw_iload_n d263_3 rfl ?_
  refine pw_callV3 d263_4 k263_337 hT hA0 rfl rfl rfl (ct260 (τ := τ) (ρ := ρ) hT hA0 (by omega) (by omega) (by omega) (by first | assumption | omega)) (fun r4 h4 q4 => ?_)
  obtain ⟨eh4, z4, ez4, lz4, uz4⟩ := q4
  subst eh4
  subst ez4
  refine pw_if_eq d263_7 rfl (by omega) (fun c7 => ?_) (fun c7 => ?_)
  · refine pw_iconst d263_51 ?_
    refine pw_istore d263_52 m263 rfl rfl ?_
    refine pw_iload d263_54 rfl ?_
    refine pw_if_eq d263_56 rfl (by omega) (fun c56 => ?_) (fun c56 => ?_)
    · refine pw_ldcw (v := pv_I (-1000000)) d263_71 n263_71 ?_
      exact pw_ireturn d263_74 tt263 ⟨rfl, (-1000000), rfl, (by omega), (by omega)⟩
    · exfalso; omega
  · exfalso; omega

abbrev Q266 (τ : Nat → Option Nat) (ρ : Nat → Nat → Nat) (h : pv_H) (a0 : Nat) (x1 : Int) (x2 : Int) : Option Value → pv_H → Prop := fun r h' => h = h' ∧ ∃ z : Int, r = some (.int (pv_I z)) ∧ (-2) ≤ z ∧ z ≤ (-2)
set_option maxHeartbeats 4000000 in
set_option maxRecDepth 20000 in
/-- AngleNetModel.may(II)I -/
theorem ct266 {τ : Nat → Option Nat} {ρ : Nat → Nat → Nat} {K : Nat → Nat} {h : pv_H} {a0 : Nat} {x1 : Int} {x2 : Int} (hT : pv_Ty τ ρ h) (hA0 : τ a0 = some 7) (hX1 : (-2147483648) ≤ x1 ∧ x1 ≤ 2147483647) (hX2 : (-2147483648) ≤ x2 ∧ x2 ≤ 2147483647) (hP0 : pv_aI h (ρ a0 1) (0 : Int).toNat = 0) : pv_C K 266 [.ref a0, .int (pv_I x1), .int (pv_I x2)] h (Q266 τ ρ h a0 x1 x2) := by
  refine pw_entry 0 ?_
  show pv_T K 266 0 (pv_fl [some (.ref a0), some (.int (pv_I x1)), some (.int (pv_I x2))]) [] h (Q266 τ ρ h a0 x1 x2)
  have hR0_1 : τ (ρ a0 1) = some 40 := hT.rf (t' := 40) hA0 rfl rfl
  refine pw_aload_n d266_0 rfl ?_
  refine pw_iload_n d266_1 rfl ?_
  refine pw_iload_n d266_2 rfl ?_
  refine pw_callV2 d266_3 k266_235 hT hA0 rfl rfl rfl (ct220 (τ := τ) (ρ := ρ) hT hA0 (by omega) (by omega) (by first | assumption | omega)) (fun r3 h3 q3 => ?_)
  obtain ⟨eh3, z3, ez3, lz3, uz3⟩ := q3
  subst eh3
  subst ez3
  refine pw_if_eq d266_6 rfl (by omega) (fun c6 => ?_) (fun c6 => ?_)
  · refine pw_bipush d266_27 (by decide) ?_
    exact pw_ireturn d266_29 tt266 ⟨rfl, (-2), rfl, (by omega), (by omega)⟩
  · exfalso; omega

abbrev Q271 (τ : Nat → Option Nat) (ρ : Nat → Nat → Nat) (h : pv_H) (a0 : Nat) (x1 : Int) (x2 : Int) : Option Value → pv_H → Prop := fun r h' => h = h' ∧ ∃ z : Int, r = some (.int (pv_I z)) ∧ (-2) ≤ z ∧ z ≤ (-2)
set_option maxHeartbeats 4000000 in
set_option maxRecDepth 20000 in
/-- AngleNetModel.flip(II)I -/
theorem ct271 {τ : Nat → Option Nat} {ρ : Nat → Nat → Nat} {K : Nat → Nat} {h : pv_H} {a0 : Nat} {x1 : Int} {x2 : Int} (hT : pv_Ty τ ρ h) (hA0 : τ a0 = some 7) (hX1 : (-2147483648) ≤ x1 ∧ x1 ≤ 2147483647) (hX2 : (-2147483648) ≤ x2 ∧ x2 ≤ 2147483647) (hP0 : pv_aI h (ρ a0 1) (0 : Int).toNat = 0) : pv_C K 271 [.ref a0, .int (pv_I x1), .int (pv_I x2)] h (Q271 τ ρ h a0 x1 x2) := by
  refine pw_entry 0 ?_
  show pv_T K 271 0 (pv_fl [some (.ref a0), some (.int (pv_I x1)), some (.int (pv_I x2))]) [] h (Q271 τ ρ h a0 x1 x2)
  have hR0_1 : τ (ρ a0 1) = some 40 := hT.rf (t' := 40) hA0 rfl rfl
  refine pw_aload_n d271_0 rfl ?_
  refine pw_iload_n d271_1 rfl ?_
  refine pw_iload_n d271_2 rfl ?_
  refine pw_callV2 d271_3 k271_235 hT hA0 rfl rfl rfl (ct220 (τ := τ) (ρ := ρ) hT hA0 (by omega) (by omega) (by first | assumption | omega)) (fun r3 h3 q3 => ?_)
  obtain ⟨eh3, z3, ez3, lz3, uz3⟩ := q3
  subst eh3
  subst ez3
  refine pw_if_eq d271_6 rfl (by omega) (fun c6 => ?_) (fun c6 => ?_)
  · refine pw_bipush d271_18 (by decide) ?_
    exact pw_ireturn d271_20 tt271 ⟨rfl, (-2), rfl, (by omega), (by omega)⟩
  · exfalso; omega

abbrev Q275 (τ : Nat → Option Nat) (ρ : Nat → Nat → Nat) (h : pv_H) (a0 : Nat) : Option Value → pv_H → Prop := fun r h' => h = h' ∧ ∃ z : Int, r = some (.int (pv_I z)) ∧ (-2) ≤ z ∧ z ≤ (-2)
set_option maxHeartbeats 4000000 in
set_option maxRecDepth 20000 in
/-- AngleNetModel.illegal()I -/
theorem ct275 {τ : Nat → Option Nat} {ρ : Nat → Nat → Nat} {K : Nat → Nat} {h : pv_H} {a0 : Nat} (hT : pv_Ty τ ρ h) (hA0 : τ a0 = some 7) (hP0 : pv_aI h (ρ a0 1) (0 : Int).toNat = 0) : pv_C K 275 [.ref a0] h (Q275 τ ρ h a0) := by
  refine pw_entry 0 ?_
  show pv_T K 275 0 (pv_fl [some (.ref a0)]) [] h (Q275 τ ρ h a0)
  have hR0_1 : τ (ρ a0 1) = some 40 := hT.rf (t' := 40) hA0 rfl rfl
  refine pw_aload_n d275_0 rfl ?_
  refine pw_callV0 d275_1 k275_283 hT hA0 rfl rfl rfl (ct224 (τ := τ) (ρ := ρ) hT hA0 (by first | assumption | omega)) (fun r1 h1 q1 => ?_)
  obtain ⟨eh1, z1, ez1, lz1, uz1⟩ := q1
  subst eh1
  subst ez1
  refine pw_if_eq d275_4 rfl (by omega) (fun c4 => ?_) (fun c4 => ?_)
  · refine pw_bipush d275_14 (by decide) ?_
    exact pw_ireturn d275_16 tt275 ⟨rfl, (-2), rfl, (by omega), (by omega)⟩
  · exfalso; omega

abbrev Q277 (τ : Nat → Option Nat) (ρ : Nat → Nat → Nat) (h : pv_H) (a0 : Nat) (x1 : Int) : Option Value → pv_H → Prop := fun r h' => h = h' ∧ ∃ z : Int, r = some (.int (pv_I z)) ∧ (-2) ≤ z ∧ z ≤ (-2)
set_option maxHeartbeats 4000000 in
set_option maxRecDepth 20000 in
/-- AngleNetModel.legal(I)I -/
theorem ct277 {τ : Nat → Option Nat} {ρ : Nat → Nat → Nat} {K : Nat → Nat} {h : pv_H} {a0 : Nat} {x1 : Int} (hT : pv_Ty τ ρ h) (hA0 : τ a0 = some 7) (hX1 : (-2147483648) ≤ x1 ∧ x1 ≤ 2147483647) (hP0 : pv_aI h (ρ a0 1) (0 : Int).toNat = 0) : pv_C K 277 [.ref a0, .int (pv_I x1)] h (Q277 τ ρ h a0 x1) := by
  refine pw_entry 3 ?_
  show pv_T K 277 0 (pv_fl [some (.ref a0), some (.int (pv_I x1)), none, none, none]) [] h (Q277 τ ρ h a0 x1)
  have hR0_1 : τ (ρ a0 1) = some 40 := hT.rf (t' := 40) hA0 rfl rfl
  refine pw_aload_n d277_0 rfl ?_
  refine pw_callV0 d277_1 k277_283 hT hA0 rfl rfl rfl (ct224 (τ := τ) (ρ := ρ) hT hA0 (by first | assumption | omega)) (fun r1 h1 q1 => ?_)
  obtain ⟨eh1, z1, ez1, lz1, uz1⟩ := q1
  subst eh1
  subst ez1
  refine pw_if_eq d277_4 rfl (by omega) (fun c4 => ?_) (fun c4 => ?_)
  · refine pw_bipush d277_19 (by decide) ?_
    exact pw_ireturn d277_21 tt277 ⟨rfl, (-2), rfl, (by omega), (by omega)⟩
  · exfalso; omega

abbrev Q278 (τ : Nat → Option Nat) (ρ : Nat → Nat → Nat) (h : pv_H) (a0 : Nat) : Option Value → pv_H → Prop := fun r h' => h = h' ∧ ∃ z : Int, r = some (.int (pv_I z)) ∧ 0 ≤ z ∧ z ≤ 0
set_option maxHeartbeats 4000000 in
set_option maxRecDepth 20000 in
/-- AngleNetModel.undo()I -/
theorem ct278 {τ : Nat → Option Nat} {ρ : Nat → Nat → Nat} {K : Nat → Nat} {h : pv_H} {a0 : Nat} (hT : pv_Ty τ ρ h) (hA0 : τ a0 = some 7) (hP0 : pv_aI h (ρ a0 1) (6 : Int).toNat = 0) : pv_C K 278 [.ref a0] h (Q278 τ ρ h a0) := by
  refine pw_entry 2 ?_
  show pv_T K 278 0 (pv_fl [some (.ref a0), none, none]) [] h (Q278 τ ρ h a0)
  have hR0_1 : τ (ρ a0 1) = some 40 := hT.rf (t' := 40) hA0 rfl rfl
  refine pw_aload_n d278_0 rfl ?_
  refine pw_getR d278_1 g278_9 hT hA0 rfl rfl (fun t1 => ?_)
  have t1 : τ (ρ a0 1) = some 40 := t1
  refine pw_bipush d278_4 (by decide) ?_
  refine pw_ialdB d278_6 hT t1 rfl rfl (by omega) (by omega) (fun u6 => ?_)
  have u6 : pv_wok ((6 : Int)) (pv_aI h (ρ a0 1) ((6 : Int)).toNat) := u6
  have vu6 := u6.2.2.2.2.2.2.1 (by omega)
  refine pw_if_ne d278_7 rfl (by omega) (fun c7 => ?_) (fun c7 => ?_)
  · exfalso; omega
  · refine pw_iconst d278_10 ?_
    exact pw_ireturn d278_11 tt278 ⟨rfl, 0, rfl, (by omega), (by omega)⟩

abbrev Q279 (τ : Nat → Option Nat) (ρ : Nat → Nat → Nat) (h : pv_H) (a0 : Nat) : Option Value → pv_H → Prop := fun r h' => h = h' ∧ ∃ z : Int, r = some (.int (pv_I z)) ∧ 0 ≤ z ∧ z ≤ 0
set_option maxHeartbeats 4000000 in
set_option maxRecDepth 20000 in
/-- AngleNetModel.redo()I -/
theorem ct279 {τ : Nat → Option Nat} {ρ : Nat → Nat → Nat} {K : Nat → Nat} {h : pv_H} {a0 : Nat} (hT : pv_Ty τ ρ h) (hA0 : τ a0 = some 7) (hP0 : pv_aI h (ρ a0 1) (7 : Int).toNat = 0) : pv_C K 279 [.ref a0] h (Q279 τ ρ h a0) := by
  refine pw_entry 2 ?_
  show pv_T K 279 0 (pv_fl [some (.ref a0), none, none]) [] h (Q279 τ ρ h a0)
  have hR0_1 : τ (ρ a0 1) = some 40 := hT.rf (t' := 40) hA0 rfl rfl
  refine pw_aload_n d279_0 rfl ?_
  refine pw_getR d279_1 g279_9 hT hA0 rfl rfl (fun t1 => ?_)
  have t1 : τ (ρ a0 1) = some 40 := t1
  refine pw_bipush d279_4 (by decide) ?_
  refine pw_ialdB d279_6 hT t1 rfl rfl (by omega) (by omega) (fun u6 => ?_)
  have u6 : pv_wok ((7 : Int)) (pv_aI h (ρ a0 1) ((7 : Int)).toNat) := u6
  have vu6 := u6.2.2.2.2.2.2.2.1 (by omega)
  refine pw_if_ne d279_7 rfl (by omega) (fun c7 => ?_) (fun c7 => ?_)
  · exfalso; omega
  · refine pw_iconst d279_10 ?_
    exact pw_ireturn d279_11 tt279 ⟨rfl, 0, rfl, (by omega), (by omega)⟩

abbrev Q280 (τ : Nat → Option Nat) (ρ : Nat → Nat → Nat) (h : pv_H) (a0 : Nat) (x1 : Int) (x2 : Int) : Option Value → pv_H → Prop := fun r h' => h = h' ∧ ∃ z : Int, r = some (.int (pv_I z)) ∧ (-2) ≤ z ∧ z ≤ (-2)
set_option maxHeartbeats 4000000 in
set_option maxRecDepth 20000 in
/-- AngleNetModel.flips(II)I -/
theorem ct280 {τ : Nat → Option Nat} {ρ : Nat → Nat → Nat} {K : Nat → Nat} {h : pv_H} {a0 : Nat} {x1 : Int} {x2 : Int} (hT : pv_Ty τ ρ h) (hA0 : τ a0 = some 7) (hX1 : (-2147483648) ≤ x1 ∧ x1 ≤ 2147483647) (hX2 : (-2147483648) ≤ x2 ∧ x2 ≤ 2147483647) (hP0 : pv_aI h (ρ a0 1) (0 : Int).toNat = 0) : pv_C K 280 [.ref a0, .int (pv_I x1), .int (pv_I x2)] h (Q280 τ ρ h a0 x1 x2) := by
  refine pw_entry 3 ?_
  show pv_T K 280 0 (pv_fl [some (.ref a0), some (.int (pv_I x1)), some (.int (pv_I x2)), none, none, none]) [] h (Q280 τ ρ h a0 x1 x2)
  have hR0_1 : τ (ρ a0 1) = some 40 := hT.rf (t' := 40) hA0 rfl rfl
  refine pw_aload_n d280_0 rfl ?_
  refine pw_callV0 d280_1 k280_283 hT hA0 rfl rfl rfl (ct224 (τ := τ) (ρ := ρ) hT hA0 (by first | assumption | omega)) (fun r1 h1 q1 => ?_)
  obtain ⟨eh1, z1, ez1, lz1, uz1⟩ := q1
  subst eh1
  subst ez1
  refine pw_if_eq d280_4 rfl (by omega) (fun c4 => ?_) (fun c4 => ?_)
  · refine pw_bipush d280_38 (by decide) ?_
    exact pw_ireturn d280_40 tt280 ⟨rfl, (-2), rfl, (by omega), (by omega)⟩
  · exfalso; omega

abbrev Q282 (τ : Nat → Option Nat) (ρ : Nat → Nat → Nat) (h : pv_H) (a0 : Nat) (x1 : Int) (x2 : Int) (x3 : Int) : Option Value → pv_H → Prop := fun r h' => h = h' ∧ ∃ z : Int, r = some (.int (pv_I z)) ∧ (-2) ≤ z ∧ z ≤ (-2)
set_option maxHeartbeats 4000000 in
set_option maxRecDepth 20000 in
/-- AngleNetModel.weigh(III)I -/
theorem ct282 {τ : Nat → Option Nat} {ρ : Nat → Nat → Nat} {K : Nat → Nat} {h : pv_H} {a0 : Nat} {x1 : Int} {x2 : Int} {x3 : Int} (hT : pv_Ty τ ρ h) (hA0 : τ a0 = some 7) (hX1 : (-2147483648) ≤ x1 ∧ x1 ≤ 2147483647) (hX2 : (-2147483648) ≤ x2 ∧ x2 ≤ 2147483647) (hX3 : (-2147483648) ≤ x3 ∧ x3 ≤ 2147483647) (hP0 : pv_aI h (ρ a0 1) (0 : Int).toNat = 0) : pv_C K 282 [.ref a0, .int (pv_I x1), .int (pv_I x2), .int (pv_I x3)] h (Q282 τ ρ h a0 x1 x2 x3) := by
  refine pw_entry 1 ?_
  show pv_T K 282 0 (pv_fl [some (.ref a0), some (.int (pv_I x1)), some (.int (pv_I x2)), some (.int (pv_I x3)), none]) [] h (Q282 τ ρ h a0 x1 x2 x3)
  have hR0_1 : τ (ρ a0 1) = some 40 := hT.rf (t' := 40) hA0 rfl rfl
  refine pw_aload_n d282_0 rfl ?_
  refine pw_iload_n d282_1 rfl ?_
  refine pw_iload_n d282_2 rfl ?_
  refine pw_callV2 d282_3 k282_235 hT hA0 rfl rfl rfl (ct220 (τ := τ) (ρ := ρ) hT hA0 (by omega) (by omega) (by first | assumption | omega)) (fun r3 h3 q3 => ?_)
  obtain ⟨eh3, z3, ez3, lz3, uz3⟩ := q3
  subst eh3
  subst ez3
  refine pw_if_eq d282_6 rfl (by omega) (fun c6 => ?_) (fun c6 => ?_)
  · refine pw_bipush d282_30 (by decide) ?_
    exact pw_ireturn d282_32 tt282 ⟨rfl, (-2), rfl, (by omega), (by omega)⟩
  · exfalso; omega

abbrev Q284 (τ : Nat → Option Nat) (ρ : Nat → Nat → Nat) (h : pv_H) (a0 : Nat) : Option Value → pv_H → Prop := fun r h' => h = h' ∧ ∃ z : Int, r = some (.int (pv_I z)) ∧ (-2) ≤ z ∧ z ≤ (-2)
set_option maxHeartbeats 4000000 in
set_option maxRecDepth 20000 in
/-- AngleNetModel.inscribed()I -/
theorem ct284 {τ : Nat → Option Nat} {ρ : Nat → Nat → Nat} {K : Nat → Nat} {h : pv_H} {a0 : Nat} (hT : pv_Ty τ ρ h) (hA0 : τ a0 = some 7) (hP0 : pv_aI h (ρ a0 1) (0 : Int).toNat = 0) : pv_C K 284 [.ref a0] h (Q284 τ ρ h a0) := by
  refine pw_entry 0 ?_
  show pv_T K 284 0 (pv_fl [some (.ref a0)]) [] h (Q284 τ ρ h a0)
  have hR0_1 : τ (ρ a0 1) = some 40 := hT.rf (t' := 40) hA0 rfl rfl
  refine pw_aload_n d284_0 rfl ?_
  refine pw_callV0 d284_1 k284_283 hT hA0 rfl rfl rfl (ct224 (τ := τ) (ρ := ρ) hT hA0 (by first | assumption | omega)) (fun r1 h1 q1 => ?_)
  obtain ⟨eh1, z1, ez1, lz1, uz1⟩ := q1
  subst eh1
  subst ez1
  refine pw_if_ne d284_4 rfl (by omega) (fun c4 => ?_) (fun c4 => ?_)
  · exfalso; omega
  · refine pw_bipush d284_7 (by decide) ?_
    exact pw_ireturn d284_9 tt284 ⟨rfl, (-2), rfl, (by omega), (by omega)⟩

abbrev Q290 (τ : Nat → Option Nat) (ρ : Nat → Nat → Nat) (h : pv_H) (a0 : Nat) (x1 : Int) : Option Value → pv_H → Prop := fun r h' => h = h' ∧ ∃ z : Int, r = some (.int (pv_I z)) ∧ (-2) ≤ z ∧ z ≤ (-2)
set_option maxHeartbeats 4000000 in
set_option maxRecDepth 20000 in
/-- AngleNetModel.hinders(I)I -/
theorem ct290 {τ : Nat → Option Nat} {ρ : Nat → Nat → Nat} {K : Nat → Nat} {h : pv_H} {a0 : Nat} {x1 : Int} (hT : pv_Ty τ ρ h) (hA0 : τ a0 = some 7) (hX1 : (-2147483648) ≤ x1 ∧ x1 ≤ 2147483647) (hP0 : pv_aI h (ρ a0 1) (0 : Int).toNat = 0) : pv_C K 290 [.ref a0, .int (pv_I x1)] h (Q290 τ ρ h a0 x1) := by
  refine pw_entry 0 ?_
  show pv_T K 290 0 (pv_fl [some (.ref a0), some (.int (pv_I x1))]) [] h (Q290 τ ρ h a0 x1)
  have hR0_1 : τ (ρ a0 1) = some 40 := hT.rf (t' := 40) hA0 rfl rfl
  refine pw_aload_n d290_0 rfl ?_
  refine pw_callV0 d290_1 k290_283 hT hA0 rfl rfl rfl (ct224 (τ := τ) (ρ := ρ) hT hA0 (by first | assumption | omega)) (fun r1 h1 q1 => ?_)
  obtain ⟨eh1, z1, ez1, lz1, uz1⟩ := q1
  subst eh1
  subst ez1
  refine pw_if_eq d290_4 rfl (by omega) (fun c4 => ?_) (fun c4 => ?_)
  · refine pw_bipush d290_19 (by decide) ?_
    exact pw_ireturn d290_21 tt290 ⟨rfl, (-2), rfl, (by omega), (by omega)⟩
  · exfalso; omega

abbrev Q291 (τ : Nat → Option Nat) (ρ : Nat → Nat → Nat) (h : pv_H) (a0 : Nat) (x1 : Int) : Option Value → pv_H → Prop := fun r h' => h = h' ∧ ∃ z : Int, r = some (.int (pv_I z)) ∧ (-2) ≤ z ∧ z ≤ (-2)
set_option maxHeartbeats 4000000 in
set_option maxRecDepth 20000 in
/-- AngleNetModel.cut(I)I -/
theorem ct291 {τ : Nat → Option Nat} {ρ : Nat → Nat → Nat} {K : Nat → Nat} {h : pv_H} {a0 : Nat} {x1 : Int} (hT : pv_Ty τ ρ h) (hA0 : τ a0 = some 7) (hX1 : (-2147483648) ≤ x1 ∧ x1 ≤ 2147483647) (hP0 : pv_aI h (ρ a0 1) (0 : Int).toNat = 0) : pv_C K 291 [.ref a0, .int (pv_I x1)] h (Q291 τ ρ h a0 x1) := by
  refine pw_entry 0 ?_
  show pv_T K 291 0 (pv_fl [some (.ref a0), some (.int (pv_I x1))]) [] h (Q291 τ ρ h a0 x1)
  have hR0_1 : τ (ρ a0 1) = some 40 := hT.rf (t' := 40) hA0 rfl rfl
  refine pw_aload_n d291_0 rfl ?_
  refine pw_callV0 d291_1 k291_283 hT hA0 rfl rfl rfl (ct224 (τ := τ) (ρ := ρ) hT hA0 (by first | assumption | omega)) (fun r1 h1 q1 => ?_)
  obtain ⟨eh1, z1, ez1, lz1, uz1⟩ := q1
  subst eh1
  subst ez1
  refine pw_if_eq d291_4 rfl (by omega) (fun c4 => ?_) (fun c4 => ?_)
  · refine pw_bipush d291_35 (by decide) ?_
    exact pw_ireturn d291_37 tt291 ⟨rfl, (-2), rfl, (by omega), (by omega)⟩
  · exfalso; omega

abbrev Q292 (τ : Nat → Option Nat) (ρ : Nat → Nat → Nat) (h : pv_H) (a0 : Nat) : Option Value → pv_H → Prop := fun r h' => h = h' ∧ ∃ z : Int, r = some (.long (pv_J z)) ∧ (-2) ≤ z ∧ z ≤ (-2)
set_option maxHeartbeats 4000000 in
set_option maxRecDepth 20000 in
/-- AngleNetModel.trees()J -/
theorem ct292 {τ : Nat → Option Nat} {ρ : Nat → Nat → Nat} {K : Nat → Nat} {h : pv_H} {a0 : Nat} (hT : pv_Ty τ ρ h) (hA0 : τ a0 = some 7) (hP0 : pv_aI h (ρ a0 1) (0 : Int).toNat = 0) : pv_C K 292 [.ref a0] h (Q292 τ ρ h a0) := by
  refine pw_entry 0 ?_
  show pv_T K 292 0 (pv_fl [some (.ref a0)]) [] h (Q292 τ ρ h a0)
  have hR0_1 : τ (ρ a0 1) = some 40 := hT.rf (t' := 40) hA0 rfl rfl
  refine pw_aload_n d292_0 rfl ?_
  refine pw_callV0 d292_1 k292_283 hT hA0 rfl rfl rfl (ct224 (τ := τ) (ρ := ρ) hT hA0 (by first | assumption | omega)) (fun r1 h1 q1 => ?_)
  obtain ⟨eh1, z1, ez1, lz1, uz1⟩ := q1
  subst eh1
  subst ez1
  refine pw_if_eq d292_4 rfl (by omega) (fun c4 => ?_) (fun c4 => ?_)
  · refine pw_ldc2 (v := pv_J (-2)) d292_14 n292_14 ?_
    exact pw_lreturn d292_17 tt292 ⟨rfl, (-2), rfl, (by omega), (by omega)⟩
  · exfalso; omega

abbrev Q298 (τ : Nat → Option Nat) (ρ : Nat → Nat → Nat) (h : pv_H) (a0 : Nat) (x1 : Int) (x2 : Int) (x3 : Int) : Option Value → pv_H → Prop := fun r h' => h = h' ∧ ∃ z : Int, r = some (.long (pv_J z)) ∧ (-2) ≤ z ∧ z ≤ (-2)
set_option maxHeartbeats 4000000 in
set_option maxRecDepth 20000 in
/-- AngleNetModel.height(III)J -/
theorem ct298 {τ : Nat → Option Nat} {ρ : Nat → Nat → Nat} {K : Nat → Nat} {h : pv_H} {a0 : Nat} {x1 : Int} {x2 : Int} {x3 : Int} (hT : pv_Ty τ ρ h) (hA0 : τ a0 = some 7) (hX1 : (-2147483648) ≤ x1 ∧ x1 ≤ 2147483647) (hX2 : (-2147483648) ≤ x2 ∧ x2 ≤ 2147483647) (hX3 : (-2147483648) ≤ x3 ∧ x3 ≤ 2147483647) (hP0 : pv_aI h (ρ a0 1) (0 : Int).toNat = 0) (hP1 : pv_aI h (ρ a0 1) (1 : Int).toNat = 0) : pv_C K 298 [.ref a0, .int (pv_I x1), .int (pv_I x2), .int (pv_I x3)] h (Q298 τ ρ h a0 x1 x2 x3) := by
  refine pw_entry 0 ?_
  show pv_T K 298 0 (pv_fl [some (.ref a0), some (.int (pv_I x1)), some (.int (pv_I x2)), some (.int (pv_I x3))]) [] h (Q298 τ ρ h a0 x1 x2 x3)
  have hR0_1 : τ (ρ a0 1) = some 40 := hT.rf (t' := 40) hA0 rfl rfl
  refine pw_aload_n d298_0 rfl ?_
  refine pw_iload_n d298_1 rfl ?_
  refine pw_iload_n d298_2 rfl ?_
  refine pw_callV2 d298_3 k298_461 hT hA0 rfl rfl rfl (ct299 (τ := τ) (ρ := ρ) hT hA0 (by omega) (by omega) (by first | assumption | omega) (by first | assumption | omega)) (fun r3 h3 q3 => ?_)
  obtain ⟨eh3, z3, ez3, lz3, uz3⟩ := q3
  subst eh3
  subst ez3
  refine pw_if_eq d298_6 rfl (by omega) (fun c6 => ?_) (fun c6 => ?_)
  · refine pw_ldc2 (v := pv_J (-2)) d298_28 n298_28 ?_
    exact pw_lreturn d298_31 tt298 ⟨rfl, (-2), rfl, (by omega), (by omega)⟩
  · exfalso; omega

abbrev Q301 (τ : Nat → Option Nat) (ρ : Nat → Nat → Nat) (h : pv_H) (a0 : Nat) (x1 : Int) (x2 : Int) (x3 : Int) : Option Value → pv_H → Prop := fun r h' => h = h' ∧ ∃ z : Int, r = some (.long (pv_J z)) ∧ (-2) ≤ z ∧ z ≤ (-2)
set_option maxHeartbeats 4000000 in
set_option maxRecDepth 20000 in
/-- AngleNetModel.flow(III)J -/
theorem ct301 {τ : Nat → Option Nat} {ρ : Nat → Nat → Nat} {K : Nat → Nat} {h : pv_H} {a0 : Nat} {x1 : Int} {x2 : Int} {x3 : Int} (hT : pv_Ty τ ρ h) (hA0 : τ a0 = some 7) (hX1 : (-2147483648) ≤ x1 ∧ x1 ≤ 2147483647) (hX2 : (-2147483648) ≤ x2 ∧ x2 ≤ 2147483647) (hX3 : (-2147483648) ≤ x3 ∧ x3 ≤ 2147483647) (hP0 : pv_aI h (ρ a0 1) (0 : Int).toNat = 0) (hP1 : pv_aI h (ρ a0 1) (1 : Int).toNat = 0) : pv_C K 301 [.ref a0, .int (pv_I x1), .int (pv_I x2), .int (pv_I x3)] h (Q301 τ ρ h a0 x1 x2 x3) := by
  refine pw_entry 4 ?_
  show pv_T K 301 0 (pv_fl [some (.ref a0), some (.int (pv_I x1)), some (.int (pv_I x2)), some (.int (pv_I x3)), none, none, none, none]) [] h (Q301 τ ρ h a0 x1 x2 x3)
  have hR0_1 : τ (ρ a0 1) = some 40 := hT.rf (t' := 40) hA0 rfl rfl
  refine pw_aload_n d301_0 rfl ?_
  refine pw_iload_n d301_1 rfl ?_
  refine pw_iload_n d301_2 rfl ?_
  refine pw_callV2 d301_3 k301_461 hT hA0 rfl rfl rfl (ct299 (τ := τ) (ρ := ρ) hT hA0 (by omega) (by omega) (by first | assumption | omega) (by first | assumption | omega)) (fun r3 h3 q3 => ?_)
  obtain ⟨eh3, z3, ez3, lz3, uz3⟩ := q3
  subst eh3
  subst ez3
  refine pw_if_eq d301_6 rfl (by omega) (fun c6 => ?_) (fun c6 => ?_)
  · refine pw_ldc2 (v := pv_J (-2)) d301_21 n301_21 ?_
    exact pw_lreturn d301_24 tt301 ⟨rfl, (-2), rfl, (by omega), (by omega)⟩
  · exfalso; omega

abbrev Q305 (τ : Nat → Option Nat) (ρ : Nat → Nat → Nat) (h : pv_H) (a0 : Nat) (x1 : Int) (x2 : Int) (x3 : Int) (x4 : Int) : Option Value → pv_H → Prop := fun r h' => h = h' ∧ ∃ z : Int, r = some (.long (pv_J z)) ∧ (-1000000) ≤ z ∧ z ≤ (-1000000)
set_option maxHeartbeats 4000000 in
set_option maxRecDepth 20000 in
/-- AngleNetModel.through(IIII)J -/
theorem ct305 {τ : Nat → Option Nat} {ρ : Nat → Nat → Nat} {K : Nat → Nat} {h : pv_H} {a0 : Nat} {x1 : Int} {x2 : Int} {x3 : Int} {x4 : Int} (hT : pv_Ty τ ρ h) (hA0 : τ a0 = some 7) (hX1 : (-2147483648) ≤ x1 ∧ x1 ≤ 2147483647) (hX2 : (-2147483648) ≤ x2 ∧ x2 ≤ 2147483647) (hX3 : (-2147483648) ≤ x3 ∧ x3 ≤ 2147483647) (hX4 : (-2147483648) ≤ x4 ∧ x4 ≤ 2147483647) (hP0 : pv_aI h (ρ a0 1) (0 : Int).toNat = 0) (hP1 : pv_aI h (ρ a0 1) (1 : Int).toNat = 0) : pv_C K 305 [.ref a0, .int (pv_I x1), .int (pv_I x2), .int (pv_I x3), .int (pv_I x4)] h (Q305 τ ρ h a0 x1 x2 x3 x4) := by
  refine pw_entry 0 ?_
  show pv_T K 305 0 (pv_fl [some (.ref a0), some (.int (pv_I x1)), some (.int (pv_I x2)), some (.int (pv_I x3)), some (.int (pv_I x4))]) [] h (Q305 τ ρ h a0 x1 x2 x3 x4)
  have hR0_1 : τ (ρ a0 1) = some 40 := hT.rf (t' := 40) hA0 rfl rfl
  refine pw_aload_n d305_0 rfl ?_
  refine pw_iload_n d305_1 rfl ?_
  refine pw_iload_n d305_2 rfl ?_
  refine pw_callV2 d305_3 k305_461 hT hA0 rfl rfl rfl (ct299 (τ := τ) (ρ := ρ) hT hA0 (by omega) (by omega) (by first | assumption | omega) (by first | assumption | omega)) (fun r3 h3 q3 => ?_)
  obtain ⟨eh3, z3, ez3, lz3, uz3⟩ := q3
  subst eh3
  subst ez3
  refine pw_if_eq d305_6 rfl (by omega) (fun c6 => ?_) (fun c6 => ?_)
  · refine pw_ldc2 (v := pv_J (-1000000)) d305_29 n305_29 ?_
    exact pw_lreturn d305_32 tt305 ⟨rfl, (-1000000), rfl, (by omega), (by omega)⟩
  · exfalso; omega

abbrev Q306 (τ : Nat → Option Nat) (ρ : Nat → Nat → Nat) (h : pv_H) (a0 : Nat) (x1 : Int) (x2 : Int) : Option Value → pv_H → Prop := fun r h' => h = h' ∧ ∃ z : Int, r = some (.int (pv_I z)) ∧ (-1000000) ≤ z ∧ z ≤ (-1000000)
set_option maxHeartbeats 4000000 in
set_option maxRecDepth 20000 in
/-- AngleNetModel.fourth(II)I -/
theorem ct306 {τ : Nat → Option Nat} {ρ : Nat → Nat → Nat} {K : Nat → Nat} {h : pv_H} {a0 : Nat} {x1 : Int} {x2 : Int} (hT : pv_Ty τ ρ h) (hA0 : τ a0 = some 7) (hX1 : (-2147483648) ≤ x1 ∧ x1 ≤ 2147483647) (hX2 : (-2147483648) ≤ x2 ∧ x2 ≤ 2147483647) (hP0 : pv_aI h (ρ a0 1) (1 : Int).toNat = 0) : pv_C K 306 [.ref a0, .int (pv_I x1), .int (pv_I x2)] h (Q306 τ ρ h a0 x1 x2) := by
  refine pw_entry 2 ?_
  show pv_T K 306 0 (pv_fl [some (.ref a0), some (.int (pv_I x1)), some (.int (pv_I x2)), none, none]) [] h (Q306 τ ρ h a0 x1 x2)
  have hR0_1 : τ (ρ a0 1) = some 40 := hT.rf (t' := 40) hA0 rfl rfl
  refine pw_aload_n d306_0 rfl ?_
  refine pw_iload_n d306_1 rfl ?_
  refine pw_callV1 d306_2 k306_225 hT hA0 rfl rfl rfl (ct211 (τ := τ) (ρ := ρ) hT hA0 (by omega) (by first | assumption | omega)) (fun r2 h2 q2 => ?_)
  obtain ⟨eh2, z2, ez2, lz2, uz2⟩ := q2
  subst eh2
  subst ez2
  refine pw_if_eq d306_5 rfl (by omega) (fun c5 => ?_) (fun c5 => ?_)
  · refine pw_ldcw (v := pv_I (-1000000)) d306_18 n306_18 ?_
    exact pw_ireturn d306_21 tt306 ⟨rfl, (-1000000), rfl, (by omega), (by omega)⟩
  · exfalso; omega

abbrev Q308 (τ : Nat → Option Nat) (ρ : Nat → Nat → Nat) (h : pv_H) (a0 : Nat) : Option Value → pv_H → Prop := fun r h' => h = h' ∧ ∃ z : Int, r = some (.int (pv_I z)) ∧ (-2) ≤ z ∧ z ≤ (-2)
set_option maxHeartbeats 4000000 in
set_option maxRecDepth 20000 in
/-- AngleNetModel.whole()I -/
theorem ct308 {τ : Nat → Option Nat} {ρ : Nat → Nat → Nat} {K : Nat → Nat} {h : pv_H} {a0 : Nat} (hT : pv_Ty τ ρ h) (hA0 : τ a0 = some 7) (hP0 : pv_aI h (ρ a0 1) (0 : Int).toNat = 0) : pv_C K 308 [.ref a0] h (Q308 τ ρ h a0) := by
  refine pw_entry 2 ?_
  show pv_T K 308 0 (pv_fl [some (.ref a0), none, none]) [] h (Q308 τ ρ h a0)
  have hR0_1 : τ (ρ a0 1) = some 40 := hT.rf (t' := 40) hA0 rfl rfl
  refine pw_aload_n d308_0 rfl ?_
  refine pw_callV0 d308_1 k308_283 hT hA0 rfl rfl rfl (ct224 (τ := τ) (ρ := ρ) hT hA0 (by first | assumption | omega)) (fun r1 h1 q1 => ?_)
  obtain ⟨eh1, z1, ez1, lz1, uz1⟩ := q1
  subst eh1
  subst ez1
  refine pw_if_ne d308_4 rfl (by omega) (fun c4 => ?_) (fun c4 => ?_)
  · exfalso; omega
  · refine pw_bipush d308_7 (by decide) ?_
    exact pw_ireturn d308_9 tt308 ⟨rfl, (-2), rfl, (by omega), (by omega)⟩

abbrev Q309 (τ : Nat → Option Nat) (ρ : Nat → Nat → Nat) (h : pv_H) (a0 : Nat) (x1 : Int) : Option Value → pv_H → Prop := fun r h' => h = h' ∧ ∃ z : Int, r = some (.int (pv_I z)) ∧ (-2) ≤ z ∧ z ≤ (-2)
set_option maxHeartbeats 4000000 in
set_option maxRecDepth 20000 in
/-- AngleNetModel.judge(I)I -/
theorem ct309 {τ : Nat → Option Nat} {ρ : Nat → Nat → Nat} {K : Nat → Nat} {h : pv_H} {a0 : Nat} {x1 : Int} (hT : pv_Ty τ ρ h) (hA0 : τ a0 = some 7) (hX1 : (-2147483648) ≤ x1 ∧ x1 ≤ 2147483647) (hP0 : pv_aI h (ρ a0 1) (0 : Int).toNat = 0) : pv_C K 309 [.ref a0, .int (pv_I x1)] h (Q309 τ ρ h a0 x1) := by
  refine pw_entry 4 ?_
  show pv_T K 309 0 (pv_fl [some (.ref a0), some (.int (pv_I x1)), none, none, none, none]) [] h (Q309 τ ρ h a0 x1)
  have hR0_1 : τ (ρ a0 1) = some 40 := hT.rf (t' := 40) hA0 rfl rfl
  refine pw_iload_n d309_0 rfl ?_
  refine pw_callS1 d309_1 k309_478 rfl rfl (ct310 (τ := τ) (ρ := ρ) (by omega)) (fun r1 h1 q1 => ?_)
  obtain ⟨eh1, z1, ez1, lz1, uz1, pz1_0⟩ := q1
  subst eh1
  subst ez1
  refine pw_if_eq d309_4 rfl (by omega) (fun c4 => ?_) (fun c4 => ?_)
  · refine pw_bipush d309_14 (by decide) ?_
    exact pw_ireturn d309_16 tt309 ⟨rfl, (-2), rfl, (by omega), (by omega)⟩
  · refine pw_aload_n d309_7 rfl ?_
    refine pw_callV0 d309_8 k309_283 hT hA0 rfl rfl rfl (ct224 (τ := τ) (ρ := ρ) hT hA0 (by first | assumption | omega)) (fun r8 h8 q8 => ?_)
    obtain ⟨eh8, z8, ez8, lz8, uz8⟩ := q8
    subst eh8
    subst ez8
    refine pw_if_ne d309_11 rfl (by omega) (fun c11 => ?_) (fun c11 => ?_)
    · exfalso; omega
    · refine pw_bipush d309_14 (by decide) ?_
      exact pw_ireturn d309_16 tt309 ⟨rfl, (-2), rfl, (by omega), (by omega)⟩

abbrev Q311 (τ : Nat → Option Nat) (ρ : Nat → Nat → Nat) (h : pv_H) (a0 : Nat) (x1 : Int) : Option Value → pv_H → Prop := fun r h' => h = h' ∧ ∃ z : Int, r = some (.int (pv_I z)) ∧ (-2) ≤ z ∧ z ≤ (-2)
set_option maxHeartbeats 4000000 in
set_option maxRecDepth 20000 in
/-- AngleNetModel.laid(I)I -/
theorem ct311 {τ : Nat → Option Nat} {ρ : Nat → Nat → Nat} {K : Nat → Nat} {h : pv_H} {a0 : Nat} {x1 : Int} (hT : pv_Ty τ ρ h) (hA0 : τ a0 = some 7) (hX1 : (-2147483648) ≤ x1 ∧ x1 ≤ 2147483647) (hP0 : pv_aI h (ρ a0 1) (0 : Int).toNat = 0) : pv_C K 311 [.ref a0, .int (pv_I x1)] h (Q311 τ ρ h a0 x1) := by
  refine pw_entry 0 ?_
  show pv_T K 311 0 (pv_fl [some (.ref a0), some (.int (pv_I x1))]) [] h (Q311 τ ρ h a0 x1)
  have hR0_1 : τ (ρ a0 1) = some 40 := hT.rf (t' := 40) hA0 rfl rfl
  refine pw_iload_n d311_0 rfl ?_
  refine pw_callS1 d311_1 k311_478 rfl rfl (ct310 (τ := τ) (ρ := ρ) (by omega)) (fun r1 h1 q1 => ?_)
  obtain ⟨eh1, z1, ez1, lz1, uz1, pz1_0⟩ := q1
  subst eh1
  subst ez1
  refine pw_if_eq d311_4 rfl (by omega) (fun c4 => ?_) (fun c4 => ?_)
  · refine pw_bipush d311_14 (by decide) ?_
    exact pw_ireturn d311_16 tt311 ⟨rfl, (-2), rfl, (by omega), (by omega)⟩
  · refine pw_aload_n d311_7 rfl ?_
    refine pw_callV0 d311_8 k311_283 hT hA0 rfl rfl rfl (ct224 (τ := τ) (ρ := ρ) hT hA0 (by first | assumption | omega)) (fun r8 h8 q8 => ?_)
    obtain ⟨eh8, z8, ez8, lz8, uz8⟩ := q8
    subst eh8
    subst ez8
    refine pw_if_ne d311_11 rfl (by omega) (fun c11 => ?_) (fun c11 => ?_)
    · exfalso; omega
    · refine pw_bipush d311_14 (by decide) ?_
      exact pw_ireturn d311_16 tt311 ⟨rfl, (-2), rfl, (by omega), (by omega)⟩

abbrev Q314 (τ : Nat → Option Nat) (ρ : Nat → Nat → Nat) (h : pv_H) (a0 : Nat) (x1 : Int) : Option Value → pv_H → Prop := fun r h' => h = h' ∧ ∃ z : Int, r = some (.int (pv_I z)) ∧ (-1) ≤ z ∧ z ≤ 0 ∧ (z = if 0 ≤ x1 ∧ x1 ≤ 10 then 0 else -1)
set_option maxHeartbeats 4000000 in
set_option maxRecDepth 20000 in
/-- AngleNetModel.count(I)I -/
theorem ct314 {τ : Nat → Option Nat} {ρ : Nat → Nat → Nat} {K : Nat → Nat} {h : pv_H} {a0 : Nat} {x1 : Int} (hT : pv_Ty τ ρ h) (hA0 : τ a0 = some 7) (hX1 : (-2147483648) ≤ x1 ∧ x1 ≤ 2147483647) (hP0 : pv_aI h (ρ a0 1) (0 : Int).toNat = 0) (hP1 : pv_aI h (ρ a0 1) (1 : Int).toNat = 0) (hP2 : pv_aI h (ρ a0 1) (2 : Int).toNat = 0) (hP3 : pv_aI h (ρ a0 1) (3 : Int).toNat = 0) (hP4 : pv_aI h (ρ a0 1) (4 : Int).toNat = 0) (hP5 : pv_aI h (ρ a0 1) (6 : Int).toNat = 0) (hP6 : pv_aI h (ρ a0 1) (7 : Int).toNat = 0) (hP7 : pv_fI h a0 5 = 0) (hP8 : ∀ i : Nat, i < 4 → pv_aI h (ρ a0 24) i = -1) : pv_C K 314 [.ref a0, .int (pv_I x1)] h (Q314 τ ρ h a0 x1) := by
  refine pw_entry 2 ?_
  show pv_T K 314 0 (pv_fl [some (.ref a0), some (.int (pv_I x1)), none, none]) [] h (Q314 τ ρ h a0 x1)
  have hR0_1 : τ (ρ a0 1) = some 40 := hT.rf (t' := 40) hA0 rfl rfl
  have hR0_24 : τ (ρ a0 24) = some 53 := hT.rf (t' := 53) hA0 rfl rfl
  have L126 : ∀ (nn : Nat) (xL2_126 xL3_126 : Int) (o1_126 : Option Value), (0 ≤ xL2_126 ∧ xL2_126 ≤ 0) → (0 ≤ xL3_126 ∧ xL3_126 ≤ 4) → (x1 = 10) → 4 - xL3_126 < nn → pv_T K 314 126 (pv_fl [some (.ref a0), o1_126, some (.int (pv_I xL2_126)), some (.int (pv_I xL3_126))]) [] h (Q314 τ ρ h a0 x1) := by
    intro nn
    induction nn with
    | zero => intro xL2_126 xL3_126 o1_126 rL2_126 rL3_126 i0_126 hm; exfalso; omega
    | succ nn ih126 =>
      intro xL2_126 xL3_126 o1_126 rL2_126 rL3_126 i0_126 hm126
      have J147 : ∀ (xS0_147 : Int) (o1_147 o2_147 : Option Value), (0 ≤ xL3_126 ∧ xL3_126 ≤ 3) → (0 ≤ xS0_147 ∧ xS0_147 ≤ 0) → (0 ≤ xL2_126 ∧ xL2_126 ≤ 0) → pv_T K 314 147 (pv_fl [some (.ref a0), o1_147, o2_147, some (.int (pv_I xL3_126))]) [.int (pv_I xS0_147), .int (pv_I xL2_126)] h (Q314 τ ρ h a0 x1) := by
        intro xS0_147 o1_147 o2_147 rL3_147 rS0_147 rS1_147
        refine pw_iadd d314_147 ?_
        refine pw_istore_n d314_148 m314 rfl rfl ?_
        refine pw_iinc d314_149 m314 rfl rfl rfl ?_
        refine pw_goto d314_152 rfl ?_
        exact ih126 ((xL2_126 + xS0_147)) ((xL3_126 + 1)) _ (by omega) (by omega) (by omega) (by omega)
      refine pw_iload_n d314_126 rfl ?_
      refine pw_iconst d314_127 ?_
      refine pw_icmp_ge d314_128 rfl (by omega) (by omega) (fun c128 => ?_) (fun c128 => ?_)
      · refine pw_iload_n d314_155 rfl ?_
        exact pw_ireturn d314_156 tt314 ⟨rfl, xL2_126, rfl, (by omega), (by omega), (by omega)⟩
      · refine pw_iload_n d314_131 rfl ?_
        refine pw_aload_n d314_132 rfl ?_
        refine pw_getR d314_133 g314_56 hT hA0 rfl rfl (fun t133 => ?_)
        have t133 : τ (ρ a0 24) = some 53 := t133
        refine pw_iload_n d314_136 rfl ?_
        refine pw_iald d314_137 hT t133 rfl rfl (by omega) (by omega) (fun u137 vu137 => ?_)
        have y137 := hP8 ((xL3_126).toNat) (by omega)
        refine pw_iconst d314_138 ?_
        refine pw_icmp_ne d314_139 rfl (by omega) (by omega) (fun c139 => ?_) (fun c139 => ?_)
        · exfalso; omega
        · refine pw_iconst d314_142 ?_
          refine pw_goto d314_143 rfl ?_
          exact J147 (0) _ _ (by omega) (by omega) (by omega)
  refine pw_iconst d314_0 ?_
  refine pw_istore_n d314_1 m314 rfl rfl ?_
  refine pw_iload_n d314_2 rfl ?_
  by_cases c3 : x1 < 0 ∨ 10 < x1
  · refine pw_tabOut d314_3 (by omega) c3 rfl ?_
    refine pw_iconst d314_157 ?_
    exact pw_ireturn d314_158 tt314 ⟨rfl, (-1), rfl, (by omega), (by omega), (by omega)⟩
  by_cases c3_0 : x1 = 0
  · refine pw_tabIn (x := x1) d314_3 (by omega) c3 (by rw [c3_0]; rfl) rfl ?_
    refine pw_aload_n d314_60 rfl ?_
    refine pw_getR d314_61 g314_9 hT hA0 rfl rfl (fun t61 => ?_)
    have t61 : τ (ρ a0 1) = some 40 := t61
    refine pw_iconst d314_64 ?_
    refine pw_ialdB d314_65 hT t61 rfl rfl (by omega) (by omega) (fun u65 => ?_)
    have u65 : pv_wok ((0 : Int)) (pv_aI h (ρ a0 1) ((0 : Int)).toNat) := u65
    have vu65 := u65.2.1 (by omega)
    exact pw_ireturn d314_66 tt314 ⟨rfl, (pv_aI h (ρ a0 1) ((0 : Int)).toNat), rfl, (by omega), (by omega), (by omega)⟩
  by_cases c3_1 : x1 = 1
  · refine pw_tabIn (x := x1) d314_3 (by omega) c3 (by rw [c3_1]; rfl) rfl ?_
    refine pw_aload_n d314_67 rfl ?_
    refine pw_callV0 d314_68 k314_216 hT hA0 rfl rfl rfl (ct216 (τ := τ) (ρ := ρ) hT hA0 (by first | assumption | omega)) (fun r68 h68 q68 => ?_)
    obtain ⟨eh68, z68, ez68, lz68, uz68⟩ := q68
    subst eh68
    subst ez68
    exact pw_ireturn d314_71 tt314 ⟨rfl, z68, rfl, (by omega), (by omega), (by omega)⟩
  by_cases c3_2 : x1 = 2
  · refine pw_tabIn (x := x1) d314_3 (by omega) c3 (by rw [c3_2]; rfl) rfl ?_
    refine pw_aload_n d314_72 rfl ?_
    refine pw_callV0 d314_73 k314_265 hT hA0 rfl rfl rfl (ct228 (τ := τ) (ρ := ρ) hT hA0 (by first | assumption | omega)) (fun r73 h73 q73 => ?_)
    obtain ⟨eh73, z73, ez73, lz73, uz73⟩ := q73
    subst eh73
    subst ez73
    exact pw_ireturn d314_76 tt314 ⟨rfl, z73, rfl, (by omega), (by omega), (by omega)⟩
  by_cases c3_3 : x1 = 3
  · refine pw_tabIn (x := x1) d314_3 (by omega) c3 (by rw [c3_3]; rfl) rfl ?_
    refine pw_aload_n d314_77 rfl ?_
    refine pw_getR d314_78 g314_9 hT hA0 rfl rfl (fun t78 => ?_)
    have t78 : τ (ρ a0 1) = some 40 := t78
    refine pw_iconst d314_81 ?_
    refine pw_ialdB d314_82 hT t78 rfl rfl (by omega) (by omega) (fun u82 => ?_)
    have u82 : pv_wok ((2 : Int)) (pv_aI h (ρ a0 1) ((2 : Int)).toNat) := u82
    have vu82 := u82.1
    exact pw_ireturn d314_83 tt314 ⟨rfl, (pv_aI h (ρ a0 1) ((2 : Int)).toNat), rfl, (by omega), (by omega), (by omega)⟩
  by_cases c3_4 : x1 = 4
  · refine pw_tabIn (x := x1) d314_3 (by omega) c3 (by rw [c3_4]; rfl) rfl ?_
    refine pw_aload_n d314_84 rfl ?_
    refine pw_getI d314_85 g314_81 hT hA0 rfl rfl (fun u85 vu85 => ?_)
    exact pw_ireturn d314_88 tt314 ⟨rfl, (pv_fI h a0 5), rfl, (by omega), (by omega), (by omega)⟩
  by_cases c3_5 : x1 = 5
  · refine pw_tabIn (x := x1) d314_3 (by omega) c3 (by rw [c3_5]; rfl) rfl ?_
    refine pw_aload_n d314_89 rfl ?_
    refine pw_getR d314_90 g314_9 hT hA0 rfl rfl (fun t90 => ?_)
    have t90 : τ (ρ a0 1) = some 40 := t90
    refine pw_bipush d314_93 (by decide) ?_
    refine pw_ialdB d314_95 hT t90 rfl rfl (by omega) (by omega) (fun u95 => ?_)
    have u95 : pv_wok ((6 : Int)) (pv_aI h (ρ a0 1) ((6 : Int)).toNat) := u95
    have vu95 := u95.2.2.2.2.2.2.1 (by omega)
    exact pw_ireturn d314_96 tt314 ⟨rfl, (pv_aI h (ρ a0 1) ((6 : Int)).toNat), rfl, (by omega), (by omega), (by omega)⟩
  by_cases c3_6 : x1 = 6
  · refine pw_tabIn (x := x1) d314_3 (by omega) c3 (by rw [c3_6]; rfl) rfl ?_
    refine pw_aload_n d314_97 rfl ?_
    refine pw_getR d314_98 g314_9 hT hA0 rfl rfl (fun t98 => ?_)
    have t98 : τ (ρ a0 1) = some 40 := t98
    refine pw_bipush d314_101 (by decide) ?_
    refine pw_ialdB d314_103 hT t98 rfl rfl (by omega) (by omega) (fun u103 => ?_)
    have u103 : pv_wok ((7 : Int)) (pv_aI h (ρ a0 1) ((7 : Int)).toNat) := u103
    have vu103 := u103.2.2.2.2.2.2.2.1 (by omega)
    exact pw_ireturn d314_104 tt314 ⟨rfl, (pv_aI h (ρ a0 1) ((7 : Int)).toNat), rfl, (by omega), (by omega), (by omega)⟩
  by_cases c3_7 : x1 = 7
  · refine pw_tabIn (x := x1) d314_3 (by omega) c3 (by rw [c3_7]; rfl) rfl ?_
    refine pw_aload_n d314_105 rfl ?_
    refine pw_getR d314_106 g314_9 hT hA0 rfl rfl (fun t106 => ?_)
    have t106 : τ (ρ a0 1) = some 40 := t106
    refine pw_iconst d314_109 ?_
    refine pw_ialdB d314_110 hT t106 rfl rfl (by omega) (by omega) (fun u110 => ?_)
    have u110 : pv_wok ((3 : Int)) (pv_aI h (ρ a0 1) ((3 : Int)).toNat) := u110
    have vu110 := u110.2.2.2.1 (by omega)
    exact pw_ireturn d314_111 tt314 ⟨rfl, (pv_aI h (ρ a0 1) ((3 : Int)).toNat), rfl, (by omega), (by omega), (by omega)⟩
  by_cases c3_8 : x1 = 8
  · refine pw_tabIn (x := x1) d314_3 (by omega) c3 (by rw [c3_8]; rfl) rfl ?_
    refine pw_aload_n d314_112 rfl ?_
    refine pw_getR d314_113 g314_9 hT hA0 rfl rfl (fun t113 => ?_)
    have t113 : τ (ρ a0 1) = some 40 := t113
    refine pw_iconst d314_116 ?_
    refine pw_ialdB d314_117 hT t113 rfl rfl (by omega) (by omega) (fun u117 => ?_)
    have u117 : pv_wok ((4 : Int)) (pv_aI h (ρ a0 1) ((4 : Int)).toNat) := u117
    have vu117 := u117.2.2.2.2.1 (by omega)
    exact pw_ireturn d314_118 tt314 ⟨rfl, (pv_aI h (ρ a0 1) ((4 : Int)).toNat), rfl, (by omega), (by omega), (by omega)⟩
  by_cases c3_9 : x1 = 9
  · refine pw_tabIn (x := x1) d314_3 (by omega) c3 (by rw [c3_9]; rfl) rfl ?_
    refine pw_aload_n d314_119 rfl ?_
    refine pw_callV0 d314_120 k314_491 hT hA0 rfl rfl rfl (ct315 (τ := τ) (ρ := ρ) hT hA0 (by first | assumption | omega)) (fun r120 h120 q120 => ?_)
    obtain ⟨eh120, z120, ez120, lz120, uz120⟩ := q120
    subst eh120
    subst ez120
    exact pw_ireturn d314_123 tt314 ⟨rfl, z120, rfl, (by omega), (by omega), (by omega)⟩
  by_cases c3_10 : x1 = 10
  · refine pw_tabIn (x := x1) d314_3 (by omega) c3 (by rw [c3_10]; rfl) rfl ?_
    refine pw_iconst d314_124 ?_
    refine pw_istore_n d314_125 m314 rfl rfl ?_
    exact L126 _ (0) (0) _ (by omega) (by omega) (by omega) (pv_mu _)
  exfalso; omega

abbrev Q183 (τ : Nat → Option Nat) (ρ : Nat → Nat → Nat) (h : pv_H) (a0 : Nat) (x1 : Int) : Option Value → pv_H → Prop := fun r h' => pv_Ty τ ρ h' ∧ pv_Fr τ [2687, 2751] h h' ∧ ∃ z : Int, r = some (.int (pv_I z)) ∧ (-2) ≤ z ∧ z ≤ 0 ∧ (z = if 0 ≤ x1 ∧ x1 ≤ 2 then 0 else -2)
set_option maxHeartbeats 4000000 in
set_option maxRecDepth 20000 in
/-- AngleNetModel.keep(I)I -/
theorem ct183 {τ : Nat → Option Nat} {ρ : Nat → Nat → Nat} {K : Nat → Nat} {h : pv_H} {a0 : Nat} {x1 : Int} (hT : pv_Ty τ ρ h) (hA0 : τ a0 = some 7) (hX1 : (-2147483648) ≤ x1 ∧ x1 ≤ 2147483647) : pv_C K 183 [.ref a0, .int (pv_I x1)] h (Q183 τ ρ h a0 x1) := by
  refine pw_entry 1 ?_
  show pv_T K 183 0 (pv_fl [some (.ref a0), some (.int (pv_I x1)), none]) [] h (Q183 τ ρ h a0 x1)
  have hF0 : pv_Fr τ [2687, 2751] h h := pv_Fr.rf
  have L17 : ∀ (nn : Nat) (h_17 : pv_H) (xL2_17 : Int), (pv_Ty τ ρ h_17) → (pv_Fr τ [2687, 2751] h h_17) → (0 ≤ x1 ∧ x1 ≤ 2) → (0 ≤ xL2_17 ∧ xL2_17 ≤ 1599) → (0 ≤ x1 ∧ x1 ≤ 2) → 1599 - xL2_17 < nn → pv_T K 183 17 (pv_fl [some (.ref a0), some (.int (pv_I x1)), some (.int (pv_I xL2_17))]) [] h_17 (Q183 τ ρ h a0 x1) := by
    intro nn
    induction nn with
    | zero => intro h_17 xL2_17 hT_17 hF_17 rL1_17 rL2_17 i0_17 hm; exfalso; omega
    | succ nn ih17 =>
      intro h_17 xL2_17 hT_17 hF_17 rL1_17 rL2_17 i0_17 hm17
      refine pw_iload_n d183_17 rfl ?_
      refine pw_sipush d183_18 (by decide) ?_
      refine pw_icmp_ge d183_21 rfl (by omega) (by omega) (fun c21 => ?_) (fun c21 => ?_)
      · refine pw_aload_n d183_48 rfl ?_
        refine pw_getR d183_49 g183_16 hT_17 hA0 rfl rfl (fun t49 => ?_)
        have t49 : τ (ρ a0 3) = some 42 := t49
        refine pw_iload_n d183_52 rfl ?_
        refine pw_iconst d183_53 ?_
        refine pw_bastZ d183_54 hT_17 t49 rfl rfl rfl (by omega) (by omega) (by omega) (fun h54 T54 F54 E54 => ?_)
        have f54 := hF_17.tr (F54.up (by decide))
        refine pw_iconst d183_55 ?_
        exact pw_ireturn d183_56 tt183 ⟨T54, f54, 0, rfl, (by omega), (by omega), (by omega)⟩
      · refine pw_aload_n d183_24 rfl ?_
        refine pw_getR d183_25 g183_13 hT_17 hA0 rfl rfl (fun t25 => ?_)
        have t25 : τ (ρ a0 2) = some 41 := t25
        refine pw_sipush d183_28 (by decide) ?_
        refine pw_iload_n d183_31 rfl ?_
        refine pw_imul d183_32 ?_
        refine pw_iload_n d183_33 rfl ?_
        refine pw_iadd d183_34 ?_
        refine pw_aload_n d183_35 rfl ?_
        refine pw_getR d183_36 g183_9 hT_17 hA0 rfl rfl (fun t36 => ?_)
        have t36 : τ (ρ a0 1) = some 40 := t36
        refine pw_iload_n d183_39 rfl ?_
        refine pw_ialdB d183_40 hT_17 t36 rfl rfl (by omega) (by omega) (fun u40 => ?_)
        have u40 : pv_wok (xL2_17) (pv_aI h_17 (ρ a0 1) (xL2_17).toNat) := u40
        have vu40 := u40.1
        refine pw_iastB d183_41 hT_17 t25 rfl rfl rfl (by omega) (by omega) (by omega) (by show pv_wok (((1507 * x1) + xL2_17) % 1507) _; rw [show ((1507 * x1) + xL2_17) % 1507 = xL2_17 by omega]; exact u40) (fun h41 T41 F41 E41 => ?_)
        have f41 := hF_17.tr (F41.up (by decide))
        refine pw_iinc d183_42 m183 rfl rfl rfl ?_
        refine pw_goto d183_45 rfl ?_
        exact ih17 h41 ((xL2_17 + 1)) T41 f41 (by omega) (by omega) (by omega) (by omega)
  refine pw_iload_n d183_0 rfl ?_
  refine pw_i2l d183_1 (by omega) ?_
  refine pw_lconst (z := 0) d183_2 (by decide) ?_
  refine pw_ldc2 (v := pv_J 2) d183_3 n183_3 ?_
  refine pw_callS3 d183_6 k183_73 rfl rfl (ct184 (τ := τ) (ρ := ρ) (by omega) (by omega) (by omega)) (fun r6 h6 q6 => ?_)
  obtain ⟨eh6, z6, ez6, lz6, uz6, pz6_0⟩ := q6
  subst eh6
  subst ez6
  refine pw_if_ne d183_9 rfl (by omega) (fun c9 => ?_) (fun c9 => ?_)
  · refine pw_iconst d183_15 ?_
    refine pw_istore_n d183_16 m183 rfl rfl ?_
    exact L17 _ h (0) hT hF0 (by omega) (by omega) (by omega) (pv_mu _)
  · refine pw_bipush d183_12 (by decide) ?_
    exact pw_ireturn d183_14 tt183 ⟨hT, hF0, (-2), rfl, (by omega), (by omega), (by omega)⟩

abbrev Q185 (τ : Nat → Option Nat) (ρ : Nat → Nat → Nat) (h : pv_H) (a0 : Nat) (x1 : Int) : Option Value → pv_H → Prop := fun r h' => h = h' ∧ ∃ z : Int, r = some (.int (pv_I z)) ∧ (-6) ≤ z ∧ z ≤ (-2) ∧ (z = if 0 ≤ x1 ∧ x1 ≤ 2 then -6 else -2)
set_option maxHeartbeats 4000000 in
set_option maxRecDepth 20000 in
/-- AngleNetModel.back(I)I -/
theorem ct185 {τ : Nat → Option Nat} {ρ : Nat → Nat → Nat} {K : Nat → Nat} {h : pv_H} {a0 : Nat} {x1 : Int} (hT : pv_Ty τ ρ h) (hA0 : τ a0 = some 7) (hX1 : (-2147483648) ≤ x1 ∧ x1 ≤ 2147483647) (hP0 : ∀ i : Nat, i < 3 → pv_aI h (ρ a0 3) i = 0) : pv_C K 185 [.ref a0, .int (pv_I x1)] h (Q185 τ ρ h a0 x1) := by
  refine pw_entry 1 ?_
  show pv_T K 185 0 (pv_fl [some (.ref a0), some (.int (pv_I x1)), none]) [] h (Q185 τ ρ h a0 x1)
  have hR0_3 : τ (ρ a0 3) = some 42 := hT.rf (t' := 42) hA0 rfl rfl
  refine pw_iload_n d185_0 rfl ?_
  refine pw_i2l d185_1 (by omega) ?_
  refine pw_lconst (z := 0) d185_2 (by decide) ?_
  refine pw_ldc2 (v := pv_J 2) d185_3 n185_3 ?_
  refine pw_callS3 d185_6 k185_73 rfl rfl (ct184 (τ := τ) (ρ := ρ) (by omega) (by omega) (by omega)) (fun r6 h6 q6 => ?_)
  obtain ⟨eh6, z6, ez6, lz6, uz6, pz6_0⟩ := q6
  subst eh6
  subst ez6
  refine pw_if_ne d185_9 rfl (by omega) (fun c9 => ?_) (fun c9 => ?_)
  · refine pw_aload_n d185_15 rfl ?_
    refine pw_getR d185_16 g185_16 hT hA0 rfl rfl (fun t16 => ?_)
    have t16 : τ (ρ a0 3) = some 42 := t16
    refine pw_iload_n d185_19 rfl ?_
    refine pw_bald d185_20 hT t16 rfl (by decide) rfl (by omega) (by omega) (fun u20 vu20 => ?_)
    have y20 := hP0 ((x1).toNat) (by omega)
    refine pw_if_ne d185_21 rfl (by omega) (fun c21 => ?_) (fun c21 => ?_)
    · exfalso; omega
    · refine pw_bipush d185_24 (by decide) ?_
      exact pw_ireturn d185_26 tt185 ⟨rfl, (-6), rfl, (by omega), (by omega), (by omega)⟩
  · refine pw_bipush d185_12 (by decide) ?_
    exact pw_ireturn d185_14 tt185 ⟨rfl, (-2), rfl, (by omega), (by omega), (by omega)⟩

abbrev Q316 (τ : Nat → Option Nat) (ρ : Nat → Nat → Nat) (h : pv_H) (a0 : Nat) (x1 : Int) (x2 : Int) (x3 : Int) : Option Value → pv_H → Prop := fun r h' => pv_Ty τ ρ h' ∧ pv_Fr τ [3455, 3519, 3583] h h' ∧ ∃ z : Int, r = some (.int (pv_I z)) ∧ (-3) ≤ z ∧ z ≤ 0 ∧ (z = if 0 ≤ x1 ∧ x1 ≤ 3 ∧ 0 ≤ x2 ∧ x2 ≤ 3 ∧ x3 ≤ 60 then (if x3 < 0 then -3 else 0) else -2)
set_option maxHeartbeats 4000000 in
set_option maxRecDepth 20000 in
/-- AngleNetModel.row(III)I -/
theorem ct316 {τ : Nat → Option Nat} {ρ : Nat → Nat → Nat} {K : Nat → Nat} {h : pv_H} {a0 : Nat} {x1 : Int} {x2 : Int} {x3 : Int} (hT : pv_Ty τ ρ h) (hA0 : τ a0 = some 7) (hX1 : (-2147483648) ≤ x1 ∧ x1 ≤ 2147483647) (hX2 : (-2147483648) ≤ x2 ∧ x2 ≤ 2147483647) (hX3 : (-2147483648) ≤ x3 ∧ x3 ≤ 2147483647) : pv_C K 316 [.ref a0, .int (pv_I x1), .int (pv_I x2), .int (pv_I x3)] h (Q316 τ ρ h a0 x1 x2 x3) := by
  refine pw_entry 1 ?_
  show pv_T K 316 0 (pv_fl [some (.ref a0), some (.int (pv_I x1)), some (.int (pv_I x2)), some (.int (pv_I x3)), none]) [] h (Q316 τ ρ h a0 x1 x2 x3)
  have hF0 : pv_Fr τ [3455, 3519, 3583] h h := pv_Fr.rf
  have L52 : ∀ (nn : Nat) (h_52 : pv_H) (xL4_52 : Int) (o2_52 o3_52 : Option Value), (pv_Ty τ ρ h_52) → (pv_Fr τ [3455, 3519, 3583] h h_52) → (0 ≤ x1 ∧ x1 ≤ 3) → (0 ≤ xL4_52 ∧ xL4_52 ≤ 60) → (0 ≤ x1 ∧ x1 ≤ 3 ∧ 0 ≤ x2 ∧ x2 ≤ 3 ∧ 0 ≤ x3 ∧ x3 ≤ 60) → 60 - xL4_52 < nn → pv_T K 316 52 (pv_fl [some (.ref a0), some (.int (pv_I x1)), o2_52, o3_52, some (.int (pv_I xL4_52))]) [] h_52 (Q316 τ ρ h a0 x1 x2 x3) := by
    intro nn
    induction nn with
    | zero => intro h_52 xL4_52 o2_52 o3_52 hT_52 hF_52 rL1_52 rL4_52 i0_52 hm; exfalso; omega
    | succ nn ih52 =>
      intro h_52 xL4_52 o2_52 o3_52 hT_52 hF_52 rL1_52 rL4_52 i0_52 hm52
      refine pw_iload d316_52 rfl ?_
      refine pw_bipush d316_54 (by decide) ?_
      refine pw_icmp_ge d316_56 rfl (by omega) (by omega) (fun c56 => ?_) (fun c56 => ?_)
      · refine pw_iconst d316_78 ?_
        exact pw_ireturn d316_79 tt316 ⟨hT_52, hF_52, 0, rfl, (by omega), (by omega), (by omega)⟩
      · refine pw_aload_n d316_59 rfl ?_
        refine pw_getR d316_60 g316_62 hT_52 hA0 rfl rfl (fun t60 => ?_)
        have t60 : τ (ρ a0 26) = some 55 := t60
        refine pw_bipush d316_63 (by decide) ?_
        refine pw_iload_n d316_65 rfl ?_
        refine pw_imul d316_66 ?_
        refine pw_iload d316_67 rfl ?_
        refine pw_iadd d316_69 ?_
        refine pw_lconst (z := 0) d316_70 (by decide) ?_
        refine pw_last d316_71 hT_52 t60 rfl rfl rfl (by omega) (by omega) (by omega) (fun h71 T71 F71 E71 => ?_)
        have f71 := hF_52.tr (F71.up (by decide))
        refine pw_iinc d316_72 m316 rfl rfl rfl ?_
        refine pw_goto d316_75 rfl ?_
        exact ih52 h71 ((xL4_52 + 1)) _ _ T71 f71 (by omega) (by omega) (by omega) (by omega)
  refine pw_iload_n d316_0 rfl ?_
  refine pw_callS1 d316_1 k316_478 rfl rfl (ct310 (τ := τ) (ρ := ρ) (by omega)) (fun r1 h1 q1 => ?_)
  obtain ⟨eh1, z1, ez1, lz1, uz1, pz1_0⟩ := q1
  subst eh1
  subst ez1
  refine pw_if_eq d316_4 rfl (by omega) (fun c4 => ?_) (fun c4 => ?_)
  · refine pw_bipush d316_25 (by decide) ?_
    exact pw_ireturn d316_27 tt316 ⟨hT, hF0, (-2), rfl, (by omega), (by omega), (by omega)⟩
  · refine pw_iload_n d316_7 rfl ?_
    refine pw_i2l d316_8 (by omega) ?_
    refine pw_lconst (z := 0) d316_9 (by decide) ?_
    refine pw_ldc2 (v := pv_J 3) d316_10 n316_10 ?_
    refine pw_callS3 d316_13 k316_73 rfl rfl (ct184 (τ := τ) (ρ := ρ) (by omega) (by omega) (by omega)) (fun r13 h13 q13 => ?_)
    obtain ⟨eh13, z13, ez13, lz13, uz13, pz13_0⟩ := q13
    subst eh13
    subst ez13
    refine pw_if_eq d316_16 rfl (by omega) (fun c16 => ?_) (fun c16 => ?_)
    · refine pw_bipush d316_25 (by decide) ?_
      exact pw_ireturn d316_27 tt316 ⟨hT, hF0, (-2), rfl, (by omega), (by omega), (by omega)⟩
    · refine pw_iload_n d316_19 rfl ?_
      refine pw_bipush d316_20 (by decide) ?_
      refine pw_icmp_le d316_22 rfl (by omega) (by omega) (fun c22 => ?_) (fun c22 => ?_)
      · refine pw_iload_n d316_28 rfl ?_
        refine pw_if_ge d316_29 rfl (by omega) (fun c29 => ?_) (fun c29 => ?_)
        · refine pw_aload_n d316_35 rfl ?_
          refine pw_getR d316_36 g316_56 hT hA0 rfl rfl (fun t36 => ?_)
          have t36 : τ (ρ a0 24) = some 53 := t36
          refine pw_iload_n d316_39 rfl ?_
          refine pw_iload_n d316_40 rfl ?_
          refine pw_iast d316_41 hT t36 rfl rfl rfl (by omega) (by omega) (by omega) (by omega) (fun h41 T41 F41 E41 => ?_)
          have f41 := hF0.tr (F41.up (by decide))
          refine pw_aload_n d316_42 rfl ?_
          refine pw_getR d316_43 g316_59 T41 hA0 rfl rfl (fun t43 => ?_)
          have t43 : τ (ρ a0 25) = some 54 := t43
          refine pw_iload_n d316_46 rfl ?_
          refine pw_iload_n d316_47 rfl ?_
          refine pw_iast d316_48 T41 t43 rfl rfl rfl (by omega) (by omega) (by omega) (by omega) (fun h48 T48 F48 E48 => ?_)
          have f48 := f41.tr (F48.up (by decide))
          refine pw_iconst d316_49 ?_
          refine pw_istore d316_50 m316 rfl rfl ?_
          exact L52 _ h48 (0) _ _ T48 f48 (by omega) (by omega) (by omega) (pv_mu _)
        · refine pw_bipush d316_32 (by decide) ?_
          exact pw_ireturn d316_34 tt316 ⟨hT, hF0, (-3), rfl, (by omega), (by omega), (by omega)⟩
      · refine pw_bipush d316_25 (by decide) ?_
        exact pw_ireturn d316_27 tt316 ⟨hT, hF0, (-2), rfl, (by omega), (by omega), (by omega)⟩

abbrev Q317 (τ : Nat → Option Nat) (ρ : Nat → Nat → Nat) (h : pv_H) (a0 : Nat) (x1 : Int) (x2 : Int) (x3 : Int) : Option Value → pv_H → Prop := fun r h' => h = h' ∧ ∃ z : Int, r = some (.int (pv_I z)) ∧ (-6) ≤ z ∧ z ≤ (-2) ∧ (z = if 0 ≤ x1 ∧ x1 ≤ 3 then -6 else -2)
set_option maxHeartbeats 4000000 in
set_option maxRecDepth 20000 in
/-- AngleNetModel.write(IIJ)I -/
theorem ct317 {τ : Nat → Option Nat} {ρ : Nat → Nat → Nat} {K : Nat → Nat} {h : pv_H} {a0 : Nat} {x1 : Int} {x2 : Int} {x3 : Int} (hT : pv_Ty τ ρ h) (hA0 : τ a0 = some 7) (hX1 : (-2147483648) ≤ x1 ∧ x1 ≤ 2147483647) (hX2 : (-2147483648) ≤ x2 ∧ x2 ≤ 2147483647) (hX3 : (-9223372036854775808) ≤ x3 ∧ x3 ≤ 9223372036854775807) (hP0 : ∀ i : Nat, i < 4 → pv_aI h (ρ a0 24) i = -1) : pv_C K 317 [.ref a0, .int (pv_I x1), .int (pv_I x2), .long (pv_J x3)] h (Q317 τ ρ h a0 x1 x2 x3) := by
  refine pw_entry 0 ?_
  show pv_T K 317 0 (pv_fl [some (.ref a0), some (.int (pv_I x1)), some (.int (pv_I x2)), some (.long (pv_J x3)), none]) [] h (Q317 τ ρ h a0 x1 x2 x3)
  have hR0_24 : τ (ρ a0 24) = some 53 := hT.rf (t' := 53) hA0 rfl rfl
  refine pw_iload_n d317_0 rfl ?_
  refine pw_callS1 d317_1 k317_478 rfl rfl (ct310 (τ := τ) (ρ := ρ) (by omega)) (fun r1 h1 q1 => ?_)
  obtain ⟨eh1, z1, ez1, lz1, uz1, pz1_0⟩ := q1
  subst eh1
  subst ez1
  refine pw_if_ne d317_4 rfl (by omega) (fun c4 => ?_) (fun c4 => ?_)
  · refine pw_aload_n d317_10 rfl ?_
    refine pw_getR d317_11 g317_56 hT hA0 rfl rfl (fun t11 => ?_)
    have t11 : τ (ρ a0 24) = some 53 := t11
    refine pw_iload_n d317_14 rfl ?_
    refine pw_iald d317_15 hT t11 rfl rfl (by omega) (by omega) (fun u15 vu15 => ?_)
    have y15 := hP0 ((x1).toNat) (by omega)
    refine pw_iconst d317_16 ?_
    refine pw_icmp_ne d317_17 rfl (by omega) (by omega) (fun c17 => ?_) (fun c17 => ?_)
    · exfalso; omega
    · refine pw_bipush d317_20 (by decide) ?_
      exact pw_ireturn d317_22 tt317 ⟨rfl, (-6), rfl, (by omega), (by omega), (by omega)⟩
  · refine pw_bipush d317_7 (by decide) ?_
    exact pw_ireturn d317_9 tt317 ⟨rfl, (-2), rfl, (by omega), (by omega), (by omega)⟩

abbrev Q319 (τ : Nat → Option Nat) (ρ : Nat → Nat → Nat) (h : pv_H) (a0 : Nat) (x1 : Int) (x2 : Int) (x3 : Int) (x4 : Int) (x5 : Int) : Option Value → pv_H → Prop := fun r h' => h = h' ∧ ∃ z : Int, r = some (.int (pv_I z)) ∧ (-6) ≤ z ∧ z ≤ (-2) ∧ (z = if 0 ≤ x1 ∧ x1 ≤ 3 ∧ 0 ≤ x3 ∧ x3 ≤ 3 then -6 else -2)
set_option maxHeartbeats 4000000 in
set_option maxRecDepth 20000 in
/-- AngleNetModel.paste(IIIII)I -/
theorem ct319 {τ : Nat → Option Nat} {ρ : Nat → Nat → Nat} {K : Nat → Nat} {h : pv_H} {a0 : Nat} {x1 : Int} {x2 : Int} {x3 : Int} {x4 : Int} {x5 : Int} (hT : pv_Ty τ ρ h) (hA0 : τ a0 = some 7) (hX1 : (-2147483648) ≤ x1 ∧ x1 ≤ 2147483647) (hX2 : (-2147483648) ≤ x2 ∧ x2 ≤ 2147483647) (hX3 : (-2147483648) ≤ x3 ∧ x3 ≤ 2147483647) (hX4 : (-2147483648) ≤ x4 ∧ x4 ≤ 2147483647) (hX5 : (-2147483648) ≤ x5 ∧ x5 ≤ 2147483647) (hP0 : ∀ i : Nat, i < 4 → pv_aI h (ρ a0 24) i = -1) : pv_C K 319 [.ref a0, .int (pv_I x1), .int (pv_I x2), .int (pv_I x3), .int (pv_I x4), .int (pv_I x5)] h (Q319 τ ρ h a0 x1 x2 x3 x4 x5) := by
  refine pw_entry 1 ?_
  show pv_T K 319 0 (pv_fl [some (.ref a0), some (.int (pv_I x1)), some (.int (pv_I x2)), some (.int (pv_I x3)), some (.int (pv_I x4)), some (.int (pv_I x5)), none]) [] h (Q319 τ ρ h a0 x1 x2 x3 x4 x5)
  have hR0_24 : τ (ρ a0 24) = some 53 := hT.rf (t' := 53) hA0 rfl rfl
  refine pw_iload_n d319_0 rfl ?_
  refine pw_callS1 d319_1 k319_478 rfl rfl (ct310 (τ := τ) (ρ := ρ) (by omega)) (fun r1 h1 q1 => ?_)
  obtain ⟨eh1, z1, ez1, lz1, uz1, pz1_0⟩ := q1
  subst eh1
  subst ez1
  refine pw_if_eq d319_4 rfl (by omega) (fun c4 => ?_) (fun c4 => ?_)
  · refine pw_bipush d319_14 (by decide) ?_
    exact pw_ireturn d319_16 tt319 ⟨rfl, (-2), rfl, (by omega), (by omega), (by omega)⟩
  · refine pw_iload_n d319_7 rfl ?_
    refine pw_callS1 d319_8 k319_478 rfl rfl (ct310 (τ := τ) (ρ := ρ) (by omega)) (fun r8 h8 q8 => ?_)
    obtain ⟨eh8, z8, ez8, lz8, uz8, pz8_0⟩ := q8
    subst eh8
    subst ez8
    refine pw_if_ne d319_11 rfl (by omega) (fun c11 => ?_) (fun c11 => ?_)
    · refine pw_aload_n d319_17 rfl ?_
      refine pw_getR d319_18 g319_56 hT hA0 rfl rfl (fun t18 => ?_)
      have t18 : τ (ρ a0 24) = some 53 := t18
      refine pw_iload_n d319_21 rfl ?_
      refine pw_iald d319_22 hT t18 rfl rfl (by omega) (by omega) (fun u22 vu22 => ?_)
      have y22 := hP0 ((x1).toNat) (by omega)
      refine pw_iconst d319_23 ?_
      refine pw_icmp_eq d319_24 rfl (by omega) (by omega) (fun c24 => ?_) (fun c24 => ?_)
      · refine pw_bipush d319_37 (by decide) ?_
        exact pw_ireturn d319_39 tt319 ⟨rfl, (-6), rfl, (by omega), (by omega), (by omega)⟩
      · exfalso; omega
    · refine pw_bipush d319_14 (by decide) ?_
      exact pw_ireturn d319_16 tt319 ⟨rfl, (-2), rfl, (by omega), (by omega), (by omega)⟩
