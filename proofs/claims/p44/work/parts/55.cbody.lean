abbrev Q113 (τ : Nat → Option Nat) (ρ : Nat → Nat → Nat) (h : pv_H) (a0 : Nat) (x1 : Int) (x2 : Int) (x3 : Int) : Option Value → pv_H → Prop := fun r h' => h = h' ∧ ∃ z : Int, r = some (.int (pv_I z)) ∧ (-2147483648) ≤ z ∧ z ≤ 2147483647
set_option maxHeartbeats 4000000 in
set_option maxRecDepth 20000 in
/-- AngleNet$Places.turning(LAngleNet$Net;III)I -/
theorem ct113 {τ : Nat → Option Nat} {ρ : Nat → Nat → Nat} {K : Nat → Nat} {h : pv_H} {a0 : Nat} {x1 : Int} {x2 : Int} {x3 : Int} (hT : pv_Ty τ ρ h) (hA0 : τ a0 = some 2) (hX1 : 0 ≤ x1 ∧ x1 ≤ 9) (hX2 : 0 ≤ x2 ∧ x2 ≤ 9) (hX3 : 0 ≤ x3 ∧ x3 ≤ 9) : pv_C K 113 [.ref a0, .int (pv_I x1), .int (pv_I x2), .int (pv_I x3)] h (Q113 τ ρ h a0 x1 x2 x3) := by
  refine pw_entry 0 ?_
  show pv_T K 113 0 (pv_fl [some (.ref a0), some (.int (pv_I x1)), some (.int (pv_I x2)), some (.int (pv_I x3))]) [] h (Q113 τ ρ h a0 x1 x2 x3)
  refine pw_aload_n d113_0 rfl ?_
  refine pw_getR d113_1 g113_7 hT hA0 rfl rfl (fun t1 => ?_)
  have t1 : τ (ρ a0 8) = some 23 := t1
  refine pw_iload_n d113_4 rfl ?_
  refine pw_iald d113_5 hT t1 rfl rfl (by omega) (by omega) (fun u5 vu5 => ?_)
  refine pw_aload_n d113_6 rfl ?_
  refine pw_getR d113_7 g113_7 hT hA0 rfl rfl (fun t7 => ?_)
  have t7 : τ (ρ a0 8) = some 23 := t7
  refine pw_iload_n d113_10 rfl ?_
  refine pw_iald d113_11 hT t7 rfl rfl (by omega) (by omega) (fun u11 vu11 => ?_)
  refine pw_isub d113_12 ?_
  refine pw_aload_n d113_13 rfl ?_
  refine pw_getR d113_14 g113_13 hT hA0 rfl rfl (fun t14 => ?_)
  have t14 : τ (ρ a0 9) = some 24 := t14
  refine pw_iload_n d113_17 rfl ?_
  refine pw_iald d113_18 hT t14 rfl rfl (by omega) (by omega) (fun u18 vu18 => ?_)
  refine pw_aload_n d113_19 rfl ?_
  refine pw_getR d113_20 g113_13 hT hA0 rfl rfl (fun t20 => ?_)
  have t20 : τ (ρ a0 9) = some 24 := t20
  refine pw_iload_n d113_23 rfl ?_
  refine pw_iald d113_24 hT t20 rfl rfl (by omega) (by omega) (fun u24 vu24 => ?_)
  refine pw_isub d113_25 ?_
  refine pw_imul d113_26 ?_
  refine pw_any (fun z26 hz26 ez26 => ?_)
  refine pw_aload_n d113_27 rfl ?_
  refine pw_getR d113_28 g113_7 hT hA0 rfl rfl (fun t28 => ?_)
  have t28 : τ (ρ a0 8) = some 23 := t28
  refine pw_iload_n d113_31 rfl ?_
  refine pw_iald d113_32 hT t28 rfl rfl (by omega) (by omega) (fun u32 vu32 => ?_)
  refine pw_aload_n d113_33 rfl ?_
  refine pw_getR d113_34 g113_7 hT hA0 rfl rfl (fun t34 => ?_)
  have t34 : τ (ρ a0 8) = some 23 := t34
  refine pw_iload_n d113_37 rfl ?_
  refine pw_iald d113_38 hT t34 rfl rfl (by omega) (by omega) (fun u38 vu38 => ?_)
  refine pw_isub d113_39 ?_
  refine pw_aload_n d113_40 rfl ?_
  refine pw_getR d113_41 g113_13 hT hA0 rfl rfl (fun t41 => ?_)
  have t41 : τ (ρ a0 9) = some 24 := t41
  refine pw_iload_n d113_44 rfl ?_
  refine pw_iald d113_45 hT t41 rfl rfl (by omega) (by omega) (fun u45 vu45 => ?_)
  refine pw_aload_n d113_46 rfl ?_
  refine pw_getR d113_47 g113_13 hT hA0 rfl rfl (fun t47 => ?_)
  have t47 : τ (ρ a0 9) = some 24 := t47
  refine pw_iload_n d113_50 rfl ?_
  refine pw_iald d113_51 hT t47 rfl rfl (by omega) (by omega) (fun u51 vu51 => ?_)
  refine pw_isub d113_52 ?_
  refine pw_imul d113_53 ?_
  refine pw_any (fun z53 hz53 ez53 => ?_)
  refine pw_isub d113_54 ?_
  refine pw_any (fun z55 hz55 ez55 => ?_)
  exact pw_ireturn d113_55 tt113 ⟨rfl, z55, rfl, (by omega), (by omega)⟩

abbrev Q116 (τ : Nat → Option Nat) (ρ : Nat → Nat → Nat) (h : pv_H) (a0 : Nat) (x1 : Int) (x2 : Int) : Option Value → pv_H → Prop := fun r h' => h = h' ∧ ∃ z : Int, r = some (.long (pv_J z)) ∧ (-9223372036854775808) ≤ z ∧ z ≤ 9223372036854775807
set_option maxHeartbeats 4000000 in
set_option maxRecDepth 20000 in
/-- AngleNet$Places.farness(LAngleNet$Net;II)J -/
theorem ct116 {τ : Nat → Option Nat} {ρ : Nat → Nat → Nat} {K : Nat → Nat} {h : pv_H} {a0 : Nat} {x1 : Int} {x2 : Int} (hT : pv_Ty τ ρ h) (hA0 : τ a0 = some 2) (hX1 : 0 ≤ x1 ∧ x1 ≤ 9) (hX2 : 0 ≤ x2 ∧ x2 ≤ 9) : pv_C K 116 [.ref a0, .int (pv_I x1), .int (pv_I x2)] h (Q116 τ ρ h a0 x1 x2) := by
  refine pw_entry 4 ?_
  show pv_T K 116 0 (pv_fl [some (.ref a0), some (.int (pv_I x1)), some (.int (pv_I x2)), none, none, none, none]) [] h (Q116 τ ρ h a0 x1 x2)
  refine pw_aload_n d116_0 rfl ?_
  refine pw_getR d116_1 g116_7 hT hA0 rfl rfl (fun t1 => ?_)
  have t1 : τ (ρ a0 8) = some 23 := t1
  refine pw_iload_n d116_4 rfl ?_
  refine pw_iald d116_5 hT t1 rfl rfl (by omega) (by omega) (fun u5 vu5 => ?_)
  refine pw_aload_n d116_6 rfl ?_
  refine pw_getR d116_7 g116_7 hT hA0 rfl rfl (fun t7 => ?_)
  have t7 : τ (ρ a0 8) = some 23 := t7
  refine pw_iload_n d116_10 rfl ?_
  refine pw_iald d116_11 hT t7 rfl rfl (by omega) (by omega) (fun u11 vu11 => ?_)
  refine pw_isub d116_12 ?_
  refine pw_i2l d116_13 (by omega) ?_
  refine pw_lstore_n d116_14 m116 rfl rfl ?_
  refine pw_aload_n d116_15 rfl ?_
  refine pw_getR d116_16 g116_13 hT hA0 rfl rfl (fun t16 => ?_)
  have t16 : τ (ρ a0 9) = some 24 := t16
  refine pw_iload_n d116_19 rfl ?_
  refine pw_iald d116_20 hT t16 rfl rfl (by omega) (by omega) (fun u20 vu20 => ?_)
  refine pw_aload_n d116_21 rfl ?_
  refine pw_getR d116_22 g116_13 hT hA0 rfl rfl (fun t22 => ?_)
  have t22 : τ (ρ a0 9) = some 24 := t22
  refine pw_iload_n d116_25 rfl ?_
  refine pw_iald d116_26 hT t22 rfl rfl (by omega) (by omega) (fun u26 vu26 => ?_)
  refine pw_isub d116_27 ?_
  refine pw_i2l d116_28 (by omega) ?_
  refine pw_lstore d116_29 m116 rfl rfl ?_
  refine pw_lload_n d116_31 rfl ?_
  refine pw_lload_n d116_32 rfl ?_
  refine pw_lmul d116_33 ?_
  refine pw_anyl (fun z33 hz33 ez33 => ?_)
  refine pw_lload d116_34 rfl ?_
  refine pw_lload d116_36 rfl ?_
  refine pw_lmul d116_38 ?_
  refine pw_anyl (fun z38 hz38 ez38 => ?_)
  refine pw_ladd d116_39 ?_
  refine pw_anyl (fun z40 hz40 ez40 => ?_)
  exact pw_lreturn d116_40 tt116 ⟨rfl, z40, rfl, (by omega), (by omega)⟩

abbrev Q115 (τ : Nat → Option Nat) (ρ : Nat → Nat → Nat) (h : pv_H) (a0 : Nat) (x1 : Int) (x2 : Int) (x3 : Int) (x4 : Int) : Option Value → pv_H → Prop := fun r h' => h = h' ∧ ∃ z : Int, r = some (.int (pv_I z)) ∧ (-2147483648) ≤ z ∧ z ≤ 2147483647
set_option maxHeartbeats 4000000 in
set_option maxRecDepth 20000 in
/-- AngleNet$Places.insideCircle(LAngleNet$Net;IIII)I -/
theorem ct115 {τ : Nat → Option Nat} {ρ : Nat → Nat → Nat} {K : Nat → Nat} {h : pv_H} {a0 : Nat} {x1 : Int} {x2 : Int} {x3 : Int} {x4 : Int} (hT : pv_Ty τ ρ h) (hA0 : τ a0 = some 2) (hX1 : 0 ≤ x1 ∧ x1 ≤ 9) (hX2 : 0 ≤ x2 ∧ x2 ≤ 9) (hX3 : 0 ≤ x3 ∧ x3 ≤ 9) (hX4 : 0 ≤ x4 ∧ x4 ≤ 9) : pv_C K 115 [.ref a0, .int (pv_I x1), .int (pv_I x2), .int (pv_I x3), .int (pv_I x4)] h (Q115 τ ρ h a0 x1 x2 x3 x4) := by
  refine pw_entry 2 ?_
  show pv_T K 115 0 (pv_fl [some (.ref a0), some (.int (pv_I x1)), some (.int (pv_I x2)), some (.int (pv_I x3)), some (.int (pv_I x4)), none, none]) [] h (Q115 τ ρ h a0 x1 x2 x3 x4)
  refine pw_aload_n d115_0 rfl ?_
  refine pw_iload_n d115_1 rfl ?_
  refine pw_iload d115_2 rfl ?_
  refine pw_callS3 d115_4 k115_16 rfl rfl (ct116 (τ := τ) (ρ := ρ) hT hA0 (by omega) (by omega)) (fun r4 h4 q4 => ?_)
  obtain ⟨eh4, z4, ez4, lz4, uz4⟩ := q4
  subst eh4
  subst ez4
  refine pw_aload_n d115_7 rfl ?_
  refine pw_iload d115_8 rfl ?_
  refine pw_iload_n d115_10 rfl ?_
  refine pw_iload_n d115_11 rfl ?_
  refine pw_callS4 d115_12 k115_22 rfl rfl (ct113 (τ := τ) (ρ := ρ) hT hA0 (by omega) (by omega) (by omega)) (fun r12 h12 q12 => ?_)
  obtain ⟨eh12, z12, ez12, lz12, uz12⟩ := q12
  subst eh12
  subst ez12
  refine pw_i2l d115_15 (by omega) ?_
  refine pw_lmul d115_16 ?_
  refine pw_anyl (fun z16 hz16 ez16 => ?_)
  refine pw_aload_n d115_17 rfl ?_
  refine pw_iload_n d115_18 rfl ?_
  refine pw_iload d115_19 rfl ?_
  refine pw_callS3 d115_21 k115_16 rfl rfl (ct116 (τ := τ) (ρ := ρ) hT hA0 (by omega) (by omega)) (fun r21 h21 q21 => ?_)
  obtain ⟨eh21, z21, ez21, lz21, uz21⟩ := q21
  subst eh21
  subst ez21
  refine pw_aload_n d115_24 rfl ?_
  refine pw_iload d115_25 rfl ?_
  refine pw_iload_n d115_27 rfl ?_
  refine pw_iload_n d115_28 rfl ?_
  refine pw_callS4 d115_29 k115_22 rfl rfl (ct113 (τ := τ) (ρ := ρ) hT hA0 (by omega) (by omega) (by omega)) (fun r29 h29 q29 => ?_)
  obtain ⟨eh29, z29, ez29, lz29, uz29⟩ := q29
  subst eh29
  subst ez29
  refine pw_i2l d115_32 (by omega) ?_
  refine pw_lmul d115_33 ?_
  refine pw_anyl (fun z33 hz33 ez33 => ?_)
  refine pw_lsub d115_34 ?_
  refine pw_aload_n d115_35 rfl ?_
  refine pw_iload_n d115_36 rfl ?_
  refine pw_iload d115_37 rfl ?_
  refine pw_callS3 d115_39 k115_16 rfl rfl (ct116 (τ := τ) (ρ := ρ) hT hA0 (by omega) (by omega)) (fun r39 h39 q39 => ?_)
  obtain ⟨eh39, z39, ez39, lz39, uz39⟩ := q39
  subst eh39
  subst ez39
  refine pw_aload_n d115_42 rfl ?_
  refine pw_iload d115_43 rfl ?_
  refine pw_iload_n d115_45 rfl ?_
  refine pw_iload_n d115_46 rfl ?_
  refine pw_callS4 d115_47 k115_22 rfl rfl (ct113 (τ := τ) (ρ := ρ) hT hA0 (by omega) (by omega) (by omega)) (fun r47 h47 q47 => ?_)
  obtain ⟨eh47, z47, ez47, lz47, uz47⟩ := q47
  subst eh47
  subst ez47
  refine pw_i2l d115_50 (by omega) ?_
  refine pw_lmul d115_51 ?_
  refine pw_anyl (fun z51 hz51 ez51 => ?_)
  refine pw_ladd d115_52 ?_
  refine pw_anyl (fun z53 hz53 ez53 => ?_)
  refine pw_lstore d115_53 m115 rfl rfl ?_
  refine pw_lload d115_55 rfl ?_
  refine pw_callS1 d115_57 k115_26 rfl rfl (ct117 (τ := τ) (ρ := ρ) (by omega)) (fun r57 h57 q57 => ?_)
  obtain ⟨eh57, z57, ez57, lz57, uz57⟩ := q57
  subst eh57
  subst ez57
  refine pw_aload_n d115_60 rfl ?_
  refine pw_iload_n d115_61 rfl ?_
  refine pw_iload_n d115_62 rfl ?_
  refine pw_iload_n d115_63 rfl ?_
  refine pw_callS4 d115_64 k115_22 rfl rfl (ct113 (τ := τ) (ρ := ρ) hT hA0 (by omega) (by omega) (by omega)) (fun r64 h64 q64 => ?_)
  obtain ⟨eh64, z64, ez64, lz64, uz64⟩ := q64
  subst eh64
  subst ez64
  refine pw_i2l d115_67 (by omega) ?_
  refine pw_callS1 d115_68 k115_26 rfl rfl (ct117 (τ := τ) (ρ := ρ) (by omega)) (fun r68 h68 q68 => ?_)
  obtain ⟨eh68, z68, ez68, lz68, uz68⟩ := q68
  subst eh68
  subst ez68
  refine pw_imul d115_71 ?_
  refine pw_any (fun z71 hz71 ez71 => ?_)
  exact pw_ireturn d115_72 tt115 ⟨rfl, z71, rfl, (by omega), (by omega)⟩

abbrev Q139 (τ : Nat → Option Nat) (ρ : Nat → Nat → Nat) (h : pv_H) (a0 : Nat) : Option Value → pv_H → Prop := fun r h' => h = h' ∧ ∃ z : Int, r = some (.int (pv_I z)) ∧ (-1) ≤ z ∧ z ≤ 99
set_option maxHeartbeats 4000000 in
set_option maxRecDepth 20000 in
/-- AngleNet$Body.badSide(LAngleNet$Net;)I -/
theorem ct139 {τ : Nat → Option Nat} {ρ : Nat → Nat → Nat} {K : Nat → Nat} {h : pv_H} {a0 : Nat} (hT : pv_Ty τ ρ h) (hA0 : τ a0 = some 2) : pv_C K 139 [.ref a0] h (Q139 τ ρ h a0) := by
  refine pw_entry 3 ?_
  show pv_T K 139 0 (pv_fl [some (.ref a0), none, none, none]) [] h (Q139 τ ρ h a0)
  have L2 : ∀ (nn : Nat) (xL1_2 : Int) (o2_2 o3_2 : Option Value), (0 ≤ xL1_2 ∧ xL1_2 ≤ 10) → 10 - xL1_2 < nn → pv_T K 139 2 (pv_fl [some (.ref a0), some (.int (pv_I xL1_2)), o2_2, o3_2]) [] h (Q139 τ ρ h a0) := by
    intro nn
    induction nn with
    | zero => intro xL1_2 o2_2 o3_2 rL1_2 hm; exfalso; omega
    | succ nn ih2 =>
      intro xL1_2 o2_2 o3_2 rL1_2 hm2
      have L14 : ∀ (nn : Nat) (xL2_14 : Int) (o3_14 : Option Value), (0 ≤ xL1_2 ∧ xL1_2 ≤ 9) → (1 ≤ xL2_14 ∧ xL2_14 ≤ 10) → 10 - xL2_14 < nn → pv_T K 139 14 (pv_fl [some (.ref a0), some (.int (pv_I xL1_2)), some (.int (pv_I xL2_14)), o3_14]) [] h (Q139 τ ρ h a0) := by
        intro nn
        induction nn with
        | zero => intro xL2_14 o3_14 rL1_14 rL2_14 hm; exfalso; omega
        | succ nn ih14 =>
          intro xL2_14 o3_14 rL1_14 rL2_14 hm14
          have J62 : ∀ (o3_62 : Option Value), (0 ≤ xL1_2 ∧ xL1_2 ≤ 9) → (1 ≤ xL2_14 ∧ xL2_14 ≤ 9) → pv_T K 139 62 (pv_fl [some (.ref a0), some (.int (pv_I xL1_2)), some (.int (pv_I xL2_14)), o3_62]) [] h (Q139 τ ρ h a0) := by
            intro o3_62 rL1_62 rL2_62
            refine pw_iinc d139_62 m139 rfl rfl rfl ?_
            refine pw_goto d139_65 rfl ?_
            exact ih14 ((xL2_14 + 1)) _ (by omega) (by omega) (by omega)
          have J55 : ∀ (o0_55 o3_55 : Option Value), (0 ≤ xL1_2 ∧ xL1_2 ≤ 9) → (1 ≤ xL2_14 ∧ xL2_14 ≤ 9) → pv_T K 139 55 (pv_fl [o0_55, some (.int (pv_I xL1_2)), some (.int (pv_I xL2_14)), o3_55]) [] h (Q139 τ ρ h a0) := by
            intro o0_55 o3_55 rL1_55 rL2_55
            refine pw_bipush d139_55 (by decide) ?_
            refine pw_iload_n d139_57 rfl ?_
            refine pw_imul d139_58 ?_
            refine pw_iload_n d139_59 rfl ?_
            refine pw_iadd d139_60 ?_
            exact pw_ireturn d139_61 tt139 ⟨rfl, ((10 * xL1_2) + xL2_14), rfl, (by omega), (by omega)⟩
          refine pw_iload_n d139_14 rfl ?_
          refine pw_aload_n d139_15 rfl ?_
          refine pw_getI d139_16 g139_9 hT hA0 rfl rfl (fun u16 vu16 => ?_)
          refine pw_icmp_ge d139_19 rfl (by omega) (by omega) (fun c19 => ?_) (fun c19 => ?_)
          · refine pw_iinc d139_68 m139 rfl rfl rfl ?_
            refine pw_goto d139_71 rfl ?_
            exact ih2 ((xL1_2 + 1)) _ _ (by omega) (by omega)
          · refine pw_aload_n d139_22 rfl ?_
            refine pw_getR d139_23 g139_15 hT hA0 rfl rfl (fun t23 => ?_)
            have t23 : τ (ρ a0 11) = some 26 := t23
            refine pw_bipush d139_26 (by decide) ?_
            refine pw_iload_n d139_28 rfl ?_
            refine pw_imul d139_29 ?_
            refine pw_iload_n d139_30 rfl ?_
            refine pw_iadd d139_31 ?_
            refine pw_iald d139_32 hT t23 rfl rfl (by omega) (by omega) (fun u32 vu32 => ?_)
            refine pw_istore_n d139_33 m139 rfl rfl ?_
            refine pw_aload_n d139_34 rfl ?_
            refine pw_iload_n d139_35 rfl ?_
            refine pw_iload_n d139_36 rfl ?_
            refine pw_callV2 d139_37 k139_19 hT hA0 rfl rfl rfl (ct47 (τ := τ) (ρ := ρ) hT hA0 (by omega) (by omega)) (fun r37 h37 q37 => ?_)
            obtain ⟨eh37, z37, ez37, lz37, uz37, pz37_0⟩ := q37
            subst eh37
            subst ez37
            refine pw_if_eq d139_40 rfl (by omega) (fun c40 => ?_) (fun c40 => ?_)
            · exact J62 _ (by omega) (by omega)
            · refine pw_iload_n d139_43 rfl ?_
              refine pw_iconst d139_44 ?_
              refine pw_icmp_lt d139_45 rfl (by omega) (by omega) (fun c45 => ?_) (fun c45 => ?_)
              · exact J55 _ _ (by omega) (by omega)
              · refine pw_iload_n d139_48 rfl ?_
                refine pw_sipush d139_49 (by decide) ?_
                refine pw_icmp_le d139_52 rfl (by omega) (by omega) (fun c52 => ?_) (fun c52 => ?_)
                · exact J62 _ (by omega) (by omega)
                · exact J55 _ _ (by omega) (by omega)
      refine pw_iload_n d139_2 rfl ?_
      refine pw_aload_n d139_3 rfl ?_
      refine pw_getI d139_4 g139_9 hT hA0 rfl rfl (fun u4 vu4 => ?_)
      refine pw_icmp_ge d139_7 rfl (by omega) (by omega) (fun c7 => ?_) (fun c7 => ?_)
      · refine pw_iconst d139_74 ?_
        exact pw_ireturn d139_75 tt139 ⟨rfl, (-1), rfl, (by omega), (by omega)⟩
      · refine pw_iload_n d139_10 rfl ?_
        refine pw_iconst d139_11 ?_
        refine pw_iadd d139_12 ?_
        refine pw_istore_n d139_13 m139 rfl rfl ?_
        exact L14 _ ((xL1_2 + 1)) _ (by omega) (by omega) (pv_mu _)
  refine pw_iconst d139_0 ?_
  refine pw_istore_n d139_1 m139 rfl rfl ?_
  exact L2 _ (0) _ _ (by omega) (pv_mu _)

abbrev Q141 (τ : Nat → Option Nat) (ρ : Nat → Nat → Nat) (h : pv_H) (a0 : Nat) (x1 : Int) : Option Value → pv_H → Prop := fun r h' => h = h' ∧ ∃ z : Int, r = some (.int (pv_I z)) ∧ (-2147483648) ≤ z ∧ z ≤ 2147483647
set_option maxHeartbeats 4000000 in
set_option maxRecDepth 20000 in
/-- AngleNet$Body.weightBetween(LAngleNet$Net;I)I -/
theorem ct141 {τ : Nat → Option Nat} {ρ : Nat → Nat → Nat} {K : Nat → Nat} {h : pv_H} {a0 : Nat} {x1 : Int} (hT : pv_Ty τ ρ h) (hA0 : τ a0 = some 2) (hX1 : (-2147483648) ≤ x1 ∧ x1 ≤ 2147483647) : pv_C K 141 [.ref a0, .int (pv_I x1)] h (Q141 τ ρ h a0 x1) := by
  refine pw_entry 3 ?_
  show pv_T K 141 0 (pv_fl [some (.ref a0), some (.int (pv_I x1)), none, none, none]) [] h (Q141 τ ρ h a0 x1)
  have L4 : ∀ (nn : Nat) (xL2_4 xL3_4 : Int) (o4_4 : Option Value), ((-2147483648) ≤ x1 ∧ x1 ≤ 2147483647) → ((-2147483648) ≤ xL2_4 ∧ xL2_4 ≤ 2147483647) → (0 ≤ xL3_4 ∧ xL3_4 ≤ 10) → 10 - xL3_4 < nn → pv_T K 141 4 (pv_fl [some (.ref a0), some (.int (pv_I x1)), some (.int (pv_I xL2_4)), some (.int (pv_I xL3_4)), o4_4]) [] h (Q141 τ ρ h a0 x1) := by
    intro nn
    induction nn with
    | zero => intro xL2_4 xL3_4 o4_4 rL1_4 rL2_4 rL3_4 hm; exfalso; omega
    | succ nn ih4 =>
      intro xL2_4 xL3_4 o4_4 rL1_4 rL2_4 rL3_4 hm4
      have J66 : ∀ (xL2_66 : Int) (o4_66 : Option Value), ((-2147483648) ≤ x1 ∧ x1 ≤ 2147483647) → ((-2147483648) ≤ xL2_66 ∧ xL2_66 ≤ 2147483647) → (0 ≤ xL3_4 ∧ xL3_4 ≤ 9) → pv_T K 141 66 (pv_fl [some (.ref a0), some (.int (pv_I x1)), some (.int (pv_I xL2_66)), some (.int (pv_I xL3_4)), o4_66]) [] h (Q141 τ ρ h a0 x1) := by
        intro xL2_66 o4_66 rL1_66 rL2_66 rL3_66
        refine pw_iinc d141_66 m141 rfl rfl rfl ?_
        refine pw_goto d141_69 rfl ?_
        exact ih4 (xL2_66) ((xL3_4 + 1)) _ (by omega) (by omega) (by omega) (by omega)
      have L15 : ∀ (nn : Nat) (xL2_15 xL4_15 : Int), ((-2147483648) ≤ x1 ∧ x1 ≤ 2147483647) → ((-2147483648) ≤ xL2_15 ∧ xL2_15 ≤ 2147483647) → (0 ≤ xL3_4 ∧ xL3_4 ≤ 9) → (0 ≤ xL4_15 ∧ xL4_15 ≤ 10) → 10 - xL4_15 < nn → pv_T K 141 15 (pv_fl [some (.ref a0), some (.int (pv_I x1)), some (.int (pv_I xL2_15)), some (.int (pv_I xL3_4)), some (.int (pv_I xL4_15))]) [] h (Q141 τ ρ h a0 x1) := by
        intro nn
        induction nn with
        | zero => intro xL2_15 xL4_15 rL1_15 rL2_15 rL3_15 rL4_15 hm; exfalso; omega
        | succ nn ih15 =>
          intro xL2_15 xL4_15 rL1_15 rL2_15 rL3_15 rL4_15 hm15
          have J58 : ∀ (xS0_58 xS1_58 : Int) (o2_58 : Option Value), ((-2147483648) ≤ x1 ∧ x1 ≤ 2147483647) → (0 ≤ xL3_4 ∧ xL3_4 ≤ 9) → (0 ≤ xL4_15 ∧ xL4_15 ≤ 9) → (0 ≤ xS0_58 ∧ xS0_58 ≤ 360) → ((-2147483648) ≤ xS1_58 ∧ xS1_58 ≤ 2147483647) → pv_T K 141 58 (pv_fl [some (.ref a0), some (.int (pv_I x1)), o2_58, some (.int (pv_I xL3_4)), some (.int (pv_I xL4_15))]) [.int (pv_I xS0_58), .int (pv_I xS1_58)] h (Q141 τ ρ h a0 x1) := by
            intro xS0_58 xS1_58 o2_58 rL1_58 rL3_58 rL4_58 rS0_58 rS1_58
            refine pw_iadd d141_58 ?_
            refine pw_any (fun z59 hz59 ez59 => ?_)
            refine pw_istore_n d141_59 m141 rfl rfl ?_
            refine pw_iinc d141_60 m141 rfl rfl rfl ?_
            refine pw_goto d141_63 rfl ?_
            exact ih15 (z59) ((xL4_15 + 1)) (by omega) (by omega) (by omega) (by omega) (by omega)
          refine pw_iload d141_15 rfl ?_
          refine pw_aload_n d141_17 rfl ?_
          refine pw_getI d141_18 g141_9 hT hA0 rfl rfl (fun u18 vu18 => ?_)
          refine pw_icmp_ge d141_21 rfl (by omega) (by omega) (fun c21 => ?_) (fun c21 => ?_)
          · exact J66 (xL2_15) _ (by omega) (by omega) (by omega)
          · refine pw_iload_n d141_24 rfl ?_
            refine pw_iload_n d141_25 rfl ?_
            refine pw_ishr d141_26 (fun z26 hz26 ez26 => ?_)
            refine pw_iconst d141_27 ?_
            refine pw_iand d141_28 (fun z28 hz28 ez28 => ?_)
            have bz28 := pv_and1_b hz28 ez28
            refine pw_if_eq d141_29 rfl (by omega) (fun c29 => ?_) (fun c29 => ?_)
            · exact J66 (xL2_15) _ (by omega) (by omega) (by omega)
            · refine pw_iload_n d141_32 rfl ?_
              refine pw_iload_n d141_33 rfl ?_
              refine pw_iload d141_34 rfl ?_
              refine pw_ishr d141_36 (fun z36 hz36 ez36 => ?_)
              refine pw_iconst d141_37 ?_
              refine pw_iand d141_38 (fun z38 hz38 ez38 => ?_)
              have bz38 := pv_and1_b hz38 ez38
              refine pw_if_ne d141_39 rfl (by omega) (fun c39 => ?_) (fun c39 => ?_)
              · refine pw_iconst d141_57 ?_
                exact J58 (0) (xL2_15) _ (by omega) (by omega) (by omega) (by omega) (by omega)
              · refine pw_aload_n d141_42 rfl ?_
                refine pw_getR d141_43 g141_15 hT hA0 rfl rfl (fun t43 => ?_)
                have t43 : τ (ρ a0 11) = some 26 := t43
                refine pw_bipush d141_46 (by decide) ?_
                refine pw_iload_n d141_48 rfl ?_
                refine pw_imul d141_49 ?_
                refine pw_iload d141_50 rfl ?_
                refine pw_iadd d141_52 ?_
                refine pw_iald d141_53 hT t43 rfl rfl (by omega) (by omega) (fun u53 vu53 => ?_)
                refine pw_goto d141_54 rfl ?_
                exact J58 ((pv_aI h (ρ a0 11) (((10 * xL3_4) + xL4_15)).toNat)) (xL2_15) _ (by omega) (by omega) (by omega) (by omega) (by omega)
      refine pw_iload_n d141_4 rfl ?_
      refine pw_aload_n d141_5 rfl ?_
      refine pw_getI d141_6 g141_9 hT hA0 rfl rfl (fun u6 vu6 => ?_)
      refine pw_icmp_ge d141_9 rfl (by omega) (by omega) (fun c9 => ?_) (fun c9 => ?_)
      · refine pw_iload_n d141_72 rfl ?_
        exact pw_ireturn d141_73 tt141 ⟨rfl, xL2_4, rfl, (by omega), (by omega)⟩
      · refine pw_iconst d141_12 ?_
        refine pw_istore d141_13 m141 rfl rfl ?_
        exact L15 _ (xL2_4) (0) (by omega) (by omega) (by omega) (by omega) (pv_mu _)
  refine pw_iconst d141_0 ?_
  refine pw_istore_n d141_1 m141 rfl rfl ?_
  refine pw_iconst d141_2 ?_
  refine pw_istore_n d141_3 m141 rfl rfl ?_
  exact L4 _ (0) (0) _ (by omega) (by omega) (by omega) (pv_mu _)

abbrev Q140 (τ : Nat → Option Nat) (ρ : Nat → Nat → Nat) (h : pv_H) (a0 : Nat) : Option Value → pv_H → Prop := fun r h' => h = h' ∧ ∃ z : Int, r = some (.int (pv_I z)) ∧ (-1) ≤ z ∧ z ≤ 9
set_option maxHeartbeats 4000000 in
set_option maxRecDepth 20000 in
/-- AngleNet$Body.badPost(LAngleNet$Net;)I -/
theorem ct140 {τ : Nat → Option Nat} {ρ : Nat → Nat → Nat} {K : Nat → Nat} {h : pv_H} {a0 : Nat} (hT : pv_Ty τ ρ h) (hA0 : τ a0 = some 2) : pv_C K 140 [.ref a0] h (Q140 τ ρ h a0) := by
  refine pw_entry 1 ?_
  show pv_T K 140 0 (pv_fl [some (.ref a0), none]) [] h (Q140 τ ρ h a0)
  have L2 : ∀ (nn : Nat) (xL1_2 : Int), (0 ≤ xL1_2 ∧ xL1_2 ≤ 10) → 10 - xL1_2 < nn → pv_T K 140 2 (pv_fl [some (.ref a0), some (.int (pv_I xL1_2))]) [] h (Q140 τ ρ h a0) := by
    intro nn
    induction nn with
    | zero => intro xL1_2 rL1_2 hm; exfalso; omega
    | succ nn ih2 =>
      intro xL1_2 rL1_2 hm2
      refine pw_iload_n d140_2 rfl ?_
      refine pw_aload_n d140_3 rfl ?_
      refine pw_getI d140_4 g140_9 hT hA0 rfl rfl (fun u4 vu4 => ?_)
      refine pw_icmp_ge d140_7 rfl (by omega) (by omega) (fun c7 => ?_) (fun c7 => ?_)
      · refine pw_iconst d140_31 ?_
        exact pw_ireturn d140_32 tt140 ⟨rfl, (-1), rfl, (by omega), (by omega)⟩
      · refine pw_aload_n d140_10 rfl ?_
        refine pw_iconst d140_11 ?_
        refine pw_iload_n d140_12 rfl ?_
        refine pw_ishl d140_13 (fun z13 hz13 ez13 => ?_)
        have bz13 := pv_shl1_b (n := 9) (m := 512) (y := xL1_2) (by omega) (by omega) (by decide) (by decide) hz13 ez13
        refine pw_callS2 d140_14 k140_23 rfl rfl (ct141 (τ := τ) (ρ := ρ) hT hA0 (by omega)) (fun r14 h14 q14 => ?_)
        obtain ⟨eh14, z14, ez14, lz14, uz14⟩ := q14
        subst eh14
        subst ez14
        refine pw_sipush d140_17 (by decide) ?_
        refine pw_icmp_eq d140_20 rfl (by omega) (by omega) (fun c20 => ?_) (fun c20 => ?_)
        · refine pw_iinc d140_25 m140 rfl rfl rfl ?_
          refine pw_goto d140_28 rfl ?_
          exact ih2 ((xL1_2 + 1)) (by omega) (by omega)
        · refine pw_iload_n d140_23 rfl ?_
          exact pw_ireturn d140_24 tt140 ⟨rfl, xL1_2, rfl, (by omega), (by omega)⟩
  refine pw_iconst d140_0 ?_
  refine pw_istore_n d140_1 m140 rfl rfl ?_
  exact L2 _ (0) (by omega) (pv_mu _)

abbrev Q143 (τ : Nat → Option Nat) (ρ : Nat → Nat → Nat) (h : pv_H) (a0 : Nat) (x1 : Int) (x2 : Int) : Option Value → pv_H → Prop := fun r h' => h = h' ∧ ∃ z : Int, r = some (.int (pv_I z)) ∧ (-2147483648) ≤ z ∧ z ≤ 2147483647
set_option maxHeartbeats 4000000 in
set_option maxRecDepth 20000 in
/-- AngleNet$Body.gainBy(LAngleNet$Net;II)I -/
theorem ct143 {τ : Nat → Option Nat} {ρ : Nat → Nat → Nat} {K : Nat → Nat} {h : pv_H} {a0 : Nat} {x1 : Int} {x2 : Int} (hT : pv_Ty τ ρ h) (hA0 : τ a0 = some 2) (hX1 : (-2147483648) ≤ x1 ∧ x1 ≤ 2147483647) (hX2 : 0 ≤ x2 ∧ x2 ≤ 9) : pv_C K 143 [.ref a0, .int (pv_I x1), .int (pv_I x2)] h (Q143 τ ρ h a0 x1 x2) := by
  refine pw_entry 3 ?_
  show pv_T K 143 0 (pv_fl [some (.ref a0), some (.int (pv_I x1)), some (.int (pv_I x2)), none, none, none]) [] h (Q143 τ ρ h a0 x1 x2)
  have L5 : ∀ (nn : Nat) (xL3_5 xL4_5 : Int) (o5_5 : Option Value), ((-2147483648) ≤ x1 ∧ x1 ≤ 2147483647) → (0 ≤ x2 ∧ x2 ≤ 9) → ((-2147483648) ≤ xL3_5 ∧ xL3_5 ≤ 2147483647) → (0 ≤ xL4_5 ∧ xL4_5 ≤ 10) → 10 - xL4_5 < nn → pv_T K 143 5 (pv_fl [some (.ref a0), some (.int (pv_I x1)), some (.int (pv_I x2)), some (.int (pv_I xL3_5)), some (.int (pv_I xL4_5)), o5_5]) [] h (Q143 τ ρ h a0 x1 x2) := by
    intro nn
    induction nn with
    | zero => intro xL3_5 xL4_5 o5_5 rL1_5 rL2_5 rL3_5 rL4_5 hm; exfalso; omega
    | succ nn ih5 =>
      intro xL3_5 xL4_5 o5_5 rL1_5 rL2_5 rL3_5 rL4_5 hm5
      have J51 : ∀ (xS0_51 : Int) (o3_51 o5_51 : Option Value), ((-2147483648) ≤ x1 ∧ x1 ≤ 2147483647) → (0 ≤ x2 ∧ x2 ≤ 9) → (0 ≤ xL4_5 ∧ xL4_5 ≤ 9) → ((-360) ≤ xS0_51 ∧ xS0_51 ≤ 360) → ((-2147483648) ≤ xL3_5 ∧ xL3_5 ≤ 2147483647) → pv_T K 143 51 (pv_fl [some (.ref a0), some (.int (pv_I x1)), some (.int (pv_I x2)), o3_51, some (.int (pv_I xL4_5)), o5_51]) [.int (pv_I xS0_51), .int (pv_I xL3_5)] h (Q143 τ ρ h a0 x1 x2) := by
        intro xS0_51 o3_51 o5_51 rL1_51 rL2_51 rL4_51 rS0_51 rS1_51
        refine pw_iadd d143_51 ?_
        refine pw_any (fun z52 hz52 ez52 => ?_)
        refine pw_istore_n d143_52 m143 rfl rfl ?_
        refine pw_iinc d143_53 m143 rfl rfl rfl ?_
        refine pw_goto d143_56 rfl ?_
        exact ih5 (z52) ((xL4_5 + 1)) _ (by omega) (by omega) (by omega) (by omega) (by omega)
      refine pw_iload d143_5 rfl ?_
      refine pw_aload_n d143_7 rfl ?_
      refine pw_getI d143_8 g143_9 hT hA0 rfl rfl (fun u8 vu8 => ?_)
      refine pw_icmp_ge d143_11 rfl (by omega) (by omega) (fun c11 => ?_) (fun c11 => ?_)
      · refine pw_iload_n d143_59 rfl ?_
        exact pw_ireturn d143_60 tt143 ⟨rfl, xL3_5, rfl, (by omega), (by omega)⟩
      · refine pw_aload_n d143_14 rfl ?_
        refine pw_getR d143_15 g143_15 hT hA0 rfl rfl (fun t15 => ?_)
        have t15 : τ (ρ a0 11) = some 26 := t15
        refine pw_bipush d143_18 (by decide) ?_
        refine pw_iload_n d143_20 rfl ?_
        refine pw_imul d143_21 ?_
        refine pw_iload d143_22 rfl ?_
        refine pw_iadd d143_24 ?_
        refine pw_iald d143_25 hT t15 rfl rfl (by omega) (by omega) (fun u25 vu25 => ?_)
        refine pw_istore d143_26 m143 rfl rfl ?_
        refine pw_iload_n d143_28 rfl ?_
        refine pw_iload_n d143_29 rfl ?_
        refine pw_iload d143_30 rfl ?_
        refine pw_ishr d143_32 (fun z32 hz32 ez32 => ?_)
        refine pw_iconst d143_33 ?_
        refine pw_iand d143_34 (fun z34 hz34 ez34 => ?_)
        have bz34 := pv_and1_b hz34 ez34
        refine pw_iload_n d143_35 rfl ?_
        refine pw_iload_n d143_36 rfl ?_
        refine pw_ishr d143_37 (fun z37 hz37 ez37 => ?_)
        refine pw_iconst d143_38 ?_
        refine pw_iand d143_39 (fun z39 hz39 ez39 => ?_)
        have bz39 := pv_and1_b hz39 ez39
        refine pw_icmp_ne d143_40 rfl (by omega) (by omega) (fun c40 => ?_) (fun c40 => ?_)
        · refine pw_iload d143_48 rfl ?_
          refine pw_ineg d143_50 ?_
          exact J51 ((-(pv_aI h (ρ a0 11) (((10 * x2) + xL4_5)).toNat))) _ _ (by omega) (by omega) (by omega) (by omega) (by omega)
        · refine pw_iload d143_43 rfl ?_
          refine pw_goto d143_45 rfl ?_
          exact J51 ((pv_aI h (ρ a0 11) (((10 * x2) + xL4_5)).toNat)) _ _ (by omega) (by omega) (by omega) (by omega) (by omega)
  refine pw_iconst d143_0 ?_
  refine pw_istore_n d143_1 m143 rfl rfl ?_
  refine pw_iconst d143_2 ?_
  refine pw_istore d143_3 m143 rfl rfl ?_
  exact L5 _ (0) (0) _ (by omega) (by omega) (by omega) (by omega) (pv_mu _)

abbrev Q142 (τ : Nat → Option Nat) (ρ : Nat → Nat → Nat) (h : pv_H) (a0 : Nat) : Option Value → pv_H → Prop := fun r h' => h = h' ∧ ∃ z : Int, r = some (.int (pv_I z)) ∧ (-2147483648) ≤ z ∧ z ≤ 2147483647
set_option maxHeartbeats 4000000 in
set_option maxRecDepth 20000 in
/-- AngleNet$Body.badSet(LAngleNet$Net;)I -/
theorem ct142 {τ : Nat → Option Nat} {ρ : Nat → Nat → Nat} {K : Nat → Nat} {h : pv_H} {a0 : Nat} (hT : pv_Ty τ ρ h) (hA0 : τ a0 = some 2) : pv_C K 142 [.ref a0] h (Q142 τ ρ h a0) := by
  refine pw_entry 7 ?_
  show pv_T K 142 0 (pv_fl [some (.ref a0), none, none, none, none, none, none, none]) [] h (Q142 τ ρ h a0)
  have L9 : ∀ (nn : Nat) (xL1_9 xL2_9 xL3_9 xL4_9 : Int) (o5_9 o6_9 o7_9 : Option Value), ((-2147483648) ≤ xL1_9 ∧ xL1_9 ≤ 2147483647) → ((-2147483648) ≤ xL2_9 ∧ xL2_9 ≤ 2147483647) → ((-2147483648) ≤ xL3_9 ∧ xL3_9 ≤ 2147483647) → (1 ≤ xL4_9 ∧ xL4_9 ≤ 1024) → 1024 - xL4_9 < nn → pv_T K 142 9 (pv_fl [some (.ref a0), some (.int (pv_I xL1_9)), some (.int (pv_I xL2_9)), some (.int (pv_I xL3_9)), some (.int (pv_I xL4_9)), o5_9, o6_9, o7_9]) [] h (Q142 τ ρ h a0) := by
    intro nn
    induction nn with
    | zero => intro xL1_9 xL2_9 xL3_9 xL4_9 o5_9 o6_9 o7_9 rL1_9 rL2_9 rL3_9 rL4_9 hm; exfalso; omega
    | succ nn ih9 =>
      intro xL1_9 xL2_9 xL3_9 xL4_9 o5_9 o6_9 o7_9 rL1_9 rL2_9 rL3_9 rL4_9 hm9
      have J101 : ∀ (xL1_101 xL2_101 xL3_101 : Int) (o5_101 o6_101 o7_101 : Option Value), ((-2147483648) ≤ xL1_101 ∧ xL1_101 ≤ 2147483647) → ((-2147483648) ≤ xL2_101 ∧ xL2_101 ≤ 2147483647) → ((-2147483648) ≤ xL3_101 ∧ xL3_101 ≤ 2147483647) → (1 ≤ xL4_9 ∧ xL4_9 ≤ 1023) → pv_T K 142 101 (pv_fl [some (.ref a0), some (.int (pv_I xL1_101)), some (.int (pv_I xL2_101)), some (.int (pv_I xL3_101)), some (.int (pv_I xL4_9)), o5_101, o6_101, o7_101]) [] h (Q142 τ ρ h a0) := by
        intro xL1_101 xL2_101 xL3_101 o5_101 o6_101 o7_101 rL1_101 rL2_101 rL3_101 rL4_101
        refine pw_iinc d142_101 m142 rfl rfl rfl ?_
        refine pw_goto d142_104 rfl ?_
        exact ih9 (xL1_101) (xL2_101) (xL3_101) ((xL4_9 + 1)) _ _ _ (by omega) (by omega) (by omega) (by omega) (by omega)
      have J99 : ∀ (xL2_99 xL3_99 : Int) (o1_99 o5_99 o6_99 o7_99 : Option Value), ((-2147483648) ≤ xL2_99 ∧ xL2_99 ≤ 2147483647) → ((-2147483648) ≤ xL3_99 ∧ xL3_99 ≤ 360) → (1 ≤ xL4_9 ∧ xL4_9 ≤ 1023) → pv_T K 142 99 (pv_fl [some (.ref a0), o1_99, some (.int (pv_I xL2_99)), some (.int (pv_I xL3_99)), some (.int (pv_I xL4_9)), o5_99, o6_99, o7_99]) [] h (Q142 τ ρ h a0) := by
        intro xL2_99 xL3_99 o1_99 o5_99 o6_99 o7_99 rL2_99 rL3_99 rL4_99
        refine pw_iload_n d142_99 rfl ?_
        refine pw_istore_n d142_100 m142 rfl rfl ?_
        exact J101 (xL2_99) (xL2_99) (xL3_99) _ _ _ (by omega) (by omega) (by omega) (by omega)
      have J72 : ∀ (xL2_72 xL3_72 xS0_72 : Int) (o5_72 o6_72 o7_72 : Option Value), ((-2147483648) ≤ xL1_9 ∧ xL1_9 ≤ 2147483647) → ((-2147483648) ≤ xL2_72 ∧ xL2_72 ≤ 2147483647) → ((-2147483648) ≤ xL3_72 ∧ xL3_72 ≤ 2147483647) → (1 ≤ xL4_9 ∧ xL4_9 ≤ 1023) → (0 ≤ xS0_72 ∧ xS0_72 ≤ 1) → pv_T K 142 72 (pv_fl [some (.ref a0), some (.int (pv_I xL1_9)), some (.int (pv_I xL2_72)), some (.int (pv_I xL3_72)), some (.int (pv_I xL4_9)), o5_72, o6_72, o7_72]) [.int (pv_I xS0_72)] h (Q142 τ ρ h a0) := by
        intro xL2_72 xL3_72 xS0_72 o5_72 o6_72 o7_72 rL1_72 rL2_72 rL3_72 rL4_72 rS0_72
        refine pw_istore d142_72 m142 rfl rfl ?_
        refine pw_iload d142_74 rfl ?_
        refine pw_if_eq d142_76 rfl (by omega) (fun c76 => ?_) (fun c76 => ?_)
        · exact J101 (xL1_9) (xL2_72) (xL3_72) _ _ _ (by omega) (by omega) (by omega) (by omega)
        · refine pw_iload_n d142_79 rfl ?_
          refine pw_sipush d142_80 (by decide) ?_
          refine pw_icmp_gt d142_83 rfl (by omega) (by omega) (fun c83 => ?_) (fun c83 => ?_)
          · exact J101 (xL1_9) (xL2_72) (xL3_72) _ _ _ (by omega) (by omega) (by omega) (by omega)
          · refine pw_iload_n d142_86 rfl ?_
            refine pw_iconst d142_87 ?_
            refine pw_icmp_eq d142_88 rfl (by omega) (by omega) (fun c88 => ?_) (fun c88 => ?_)
            · exact J99 (xL2_72) (xL3_72) _ _ _ _ (by omega) (by omega) (by omega)
            · refine pw_iload_n d142_91 rfl ?_
              refine pw_iload_n d142_92 rfl ?_
              refine pw_callS2 d142_93 k142_42 rfl rfl (ct102 (τ := τ) (ρ := ρ) (by omega) (by omega)) (fun r93 h93 q93 => ?_)
              obtain ⟨eh93, z93, ez93, lz93, uz93⟩ := q93
              subst eh93
              subst ez93
              refine pw_if_eq d142_96 rfl (by omega) (fun c96 => ?_) (fun c96 => ?_)
              · exact J101 (xL1_9) (xL2_72) (xL3_72) _ _ _ (by omega) (by omega) (by omega) (by omega)
              · exact J99 (xL2_72) (xL3_72) _ _ _ _ (by omega) (by omega) (by omega)
      have J71 : ∀ (xL2_71 xL3_71 : Int) (o5_71 o6_71 o7_71 : Option Value), ((-2147483648) ≤ xL1_9 ∧ xL1_9 ≤ 2147483647) → ((-2147483648) ≤ xL2_71 ∧ xL2_71 ≤ 2147483647) → ((-2147483648) ≤ xL3_71 ∧ xL3_71 ≤ 2147483647) → (1 ≤ xL4_9 ∧ xL4_9 ≤ 1023) → pv_T K 142 71 (pv_fl [some (.ref a0), some (.int (pv_I xL1_9)), some (.int (pv_I xL2_71)), some (.int (pv_I xL3_71)), some (.int (pv_I xL4_9)), o5_71, o6_71, o7_71]) [] h (Q142 τ ρ h a0) := by
        intro xL2_71 xL3_71 o5_71 o6_71 o7_71 rL1_71 rL2_71 rL3_71 rL4_71
        refine pw_iconst d142_71 ?_
        exact J72 (xL2_71) (xL3_71) (0) _ _ _ (by omega) (by omega) (by omega) (by omega) (by omega)
      refine pw_iload d142_9 rfl ?_
      refine pw_iconst d142_11 ?_
      refine pw_aload_n d142_12 rfl ?_
      refine pw_getI d142_13 g142_9 hT hA0 rfl rfl (fun u13 vu13 => ?_)
      refine pw_ishl d142_16 (fun z16 hz16 ez16 => ?_)
      have bz16 := pv_shl1_b (n := 10) (m := 1024) (y := (pv_fI h a0 0)) (by omega) (by omega) (by decide) (by decide) hz16 ez16
      refine pw_icmp_ge d142_17 rfl (by omega) (by omega) (fun c17 => ?_) (fun c17 => ?_)
      · refine pw_iload_n d142_107 rfl ?_
        exact pw_ireturn d142_108 tt142 ⟨rfl, xL1_9, rfl, (by omega), (by omega)⟩
      · refine pw_iload d142_20 rfl ?_
        refine pw_callS1 d142_22 k142_29 rfl rfl (ct76 (τ := τ) (ρ := ρ) (by omega)) (fun r22 h22 q22 => ?_)
        obtain ⟨eh22, z22, ez22, lz22, uz22, pz22_0⟩ := q22
        subst eh22
        subst ez22
        refine pw_istore d142_25 m142 rfl rfl ?_
        refine pw_iload_n d142_27 rfl ?_
        refine pw_aload_n d142_28 rfl ?_
        refine pw_iload_n d142_29 rfl ?_
        refine pw_iload d142_30 rfl ?_
        refine pw_callS3 d142_32 k142_33 rfl rfl (ct143 (τ := τ) (ρ := ρ) hT hA0 (by omega) (by omega)) (fun r32 h32 q32 => ?_)
        obtain ⟨eh32, z32, ez32, lz32, uz32⟩ := q32
        subst eh32
        subst ez32
        refine pw_iadd d142_35 ?_
        refine pw_any (fun z36 hz36 ez36 => ?_)
        refine pw_istore_n d142_36 m142 rfl rfl ?_
        refine pw_iload_n d142_37 rfl ?_
        refine pw_iconst d142_38 ?_
        refine pw_iload d142_39 rfl ?_
        refine pw_ishl d142_41 (fun z41 hz41 ez41 => ?_)
        refine pw_ixor d142_42 (fun z42 hz42 ez42 => ?_)
        refine pw_istore_n d142_43 m142 rfl rfl ?_
        refine pw_iload_n d142_44 rfl ?_
        refine pw_callS1 d142_45 k142_37 rfl rfl (ct67 (τ := τ) (ρ := ρ) (by omega)) (fun r45 h45 q45 => ?_)
        obtain ⟨eh45, z45, ez45, lz45, uz45⟩ := q45
        subst eh45
        subst ez45
        refine pw_istore d142_48 m142 rfl rfl ?_
        refine pw_iload d142_50 rfl ?_
        refine pw_iconst d142_52 ?_
        refine pw_icmp_lt d142_53 rfl (by omega) (by omega) (fun c53 => ?_) (fun c53 => ?_)
        · exact J71 (z42) (z36) _ _ _ (by omega) (by omega) (by omega) (by omega)
        · refine pw_aload_n d142_56 rfl ?_
          refine pw_getI d142_57 g142_9 hT hA0 rfl rfl (fun u57 vu57 => ?_)
          refine pw_iload d142_60 rfl ?_
          refine pw_isub d142_62 ?_
          refine pw_iconst d142_63 ?_
          refine pw_icmp_lt d142_64 rfl (by omega) (by omega) (fun c64 => ?_) (fun c64 => ?_)
          · exact J71 (z42) (z36) _ _ _ (by omega) (by omega) (by omega) (by omega)
          · refine pw_iconst d142_67 ?_
            refine pw_goto d142_68 rfl ?_
            exact J72 (z42) (z36) (1) _ _ _ (by omega) (by omega) (by omega) (by omega) (by omega)
  refine pw_iconst d142_0 ?_
  refine pw_istore_n d142_1 m142 rfl rfl ?_
  refine pw_iconst d142_2 ?_
  refine pw_istore_n d142_3 m142 rfl rfl ?_
  refine pw_iconst d142_4 ?_
  refine pw_istore_n d142_5 m142 rfl rfl ?_
  refine pw_iconst d142_6 ?_
  refine pw_istore d142_7 m142 rfl rfl ?_
  exact L9 _ ((-1)) (0) (0) (1) _ _ _ (by omega) (by omega) (by omega) (by omega) (pv_mu _)

abbrev Q149 (τ : Nat → Option Nat) (ρ : Nat → Nat → Nat) (h : pv_H) (a0 : Nat) (a1 : Nat) (x2 : Int) (x3 : Int) (x4 : Int) : Option Value → pv_H → Prop := fun r h' => pv_Ty τ ρ h' ∧ pv_Fr τ [387, 2495, 2559] h h' ∧ r = none
set_option maxHeartbeats 4000000 in
set_option maxRecDepth 20000 in
/-- AngleNet$Currents.layOut(LAngleNet$Net;III)V -/
theorem ct149 {τ : Nat → Option Nat} {ρ : Nat → Nat → Nat} {K : Nat → Nat} {h : pv_H} {a0 : Nat} {a1 : Nat} {x2 : Int} {x3 : Int} {x4 : Int} (hT : pv_Ty τ ρ h) (hA0 : τ a0 = some 6) (hA1 : τ a1 = some 2) (hX2 : (-2147483648) ≤ x2 ∧ x2 ≤ 2147483647) (hX3 : (-2147483648) ≤ x3 ∧ x3 ≤ 2147483647) (hX4 : (-2147483648) ≤ x4 ∧ x4 ≤ 2147483647) : pv_C K 149 [.ref a0, .ref a1, .int (pv_I x2), .int (pv_I x3), .int (pv_I x4)] h (Q149 τ ρ h a0 a1 x2 x3 x4) := by
  refine pw_entry 2 ?_
  show pv_T K 149 0 (pv_fl [some (.ref a0), some (.ref a1), some (.int (pv_I x2)), some (.int (pv_I x3)), some (.int (pv_I x4)), none, none]) [] h (Q149 τ ρ h a0 a1 x2 x3 x4)
  have hF0 : pv_Fr τ [387, 2495, 2559] h h := pv_Fr.rf
  have L63 : ∀ (nn : Nat) (h_63 : pv_H) (xL5_63 : Int) (o2_63 o4_63 o6_63 : Option Value), (pv_Ty τ ρ h_63) → (pv_Fr τ [387, 2495, 2559] h h_63) → ((-2147483648) ≤ x3 ∧ x3 ≤ 2147483647) → (0 ≤ xL5_63 ∧ xL5_63 ≤ 10) → 10 - xL5_63 < nn → pv_T K 149 63 (pv_fl [some (.ref a0), some (.ref a1), o2_63, some (.int (pv_I x3)), o4_63, some (.int (pv_I xL5_63)), o6_63]) [] h_63 (Q149 τ ρ h a0 a1 x2 x3 x4) := by
    intro nn
    induction nn with
    | zero => intro h_63 xL5_63 o2_63 o4_63 o6_63 hT_63 hF_63 rL3_63 rL5_63 hm; exfalso; omega
    | succ nn ih63 =>
      intro h_63 xL5_63 o2_63 o4_63 o6_63 hT_63 hF_63 rL3_63 rL5_63 hm63
      have J186 : ∀ (h_186 : pv_H) (xS0_186 xS1_186 : Int) (o2_186 o4_186 o6_186 : Option Value), (pv_Ty τ ρ h_186) → (pv_Fr τ [387, 2495, 2559] h h_186) → ((-2147483648) ≤ x3 ∧ x3 ≤ 2147483647) → (0 ≤ xL5_63 ∧ xL5_63 ≤ 9) → (0 ≤ xS0_186 ∧ xS0_186 ≤ 1) → (0 ≤ xS1_186 ∧ xS1_186 ≤ 109) → (τ (ρ a0 1) = some 38) → pv_T K 149 186 (pv_fl [some (.ref a0), some (.ref a1), o2_186, some (.int (pv_I x3)), o4_186, some (.int (pv_I xL5_63)), o6_186]) [.long (pv_J xS0_186), .int (pv_I xS1_186), .ref (ρ a0 1)] h_186 (Q149 τ ρ h a0 a1 x2 x3 x4) := by
        intro h_186 xS0_186 xS1_186 o2_186 o4_186 o6_186 hT_186 hF_186 rL3_186 rL5_186 rS0_186 rS1_186 t_186_ρa01
        refine pw_last d149_186 hT_186 t_186_ρa01 rfl rfl rfl (by omega) (by omega) (by omega) (fun h186 T186 F186 E186 => ?_)
        have f186 := hF_186.tr (F186.up (by decide))
        refine pw_iinc d149_187 m149 rfl rfl rfl ?_
        refine pw_goto d149_190 rfl ?_
        exact ih63 h186 ((xL5_63 + 1)) _ _ _ T186 f186 (by omega) (by omega) (by omega)
      have L75 : ∀ (nn : Nat) (h_75 : pv_H) (xL6_75 : Int) (o2_75 o4_75 : Option Value), (pv_Ty τ ρ h_75) → (pv_Fr τ [387, 2495, 2559] h h_75) → ((-2147483648) ≤ x3 ∧ x3 ≤ 2147483647) → (0 ≤ xL5_63 ∧ xL5_63 ≤ 9) → (0 ≤ xL6_75 ∧ xL6_75 ≤ 10) → 10 - xL6_75 < nn → pv_T K 149 75 (pv_fl [some (.ref a0), some (.ref a1), o2_75, some (.int (pv_I x3)), o4_75, some (.int (pv_I xL5_63)), some (.int (pv_I xL6_75))]) [] h_75 (Q149 τ ρ h a0 a1 x2 x3 x4) := by
        intro nn
        induction nn with
        | zero => intro h_75 xL6_75 o2_75 o4_75 hT_75 hF_75 rL3_75 rL5_75 rL6_75 hm; exfalso; omega
        | succ nn ih75 =>
          intro h_75 xL6_75 o2_75 o4_75 hT_75 hF_75 rL3_75 rL5_75 rL6_75 hm75
          have J124 : ∀ (h_124 : pv_H) (xS0_124 xS1_124 : Int) (o2_124 o4_124 : Option Value), (pv_Ty τ ρ h_124) → (pv_Fr τ [387, 2495, 2559] h h_124) → ((-2147483648) ≤ x3 ∧ x3 ≤ 2147483647) → (0 ≤ xL5_63 ∧ xL5_63 ≤ 9) → (0 ≤ xL6_75 ∧ xL6_75 ≤ 9) → ((-1) ≤ xS0_124 ∧ xS0_124 ≤ 0) → (0 ≤ xS1_124 ∧ xS1_124 ≤ 109) → (τ (ρ a0 1) = some 38) → pv_T K 149 124 (pv_fl [some (.ref a0), some (.ref a1), o2_124, some (.int (pv_I x3)), o4_124, some (.int (pv_I xL5_63)), some (.int (pv_I xL6_75))]) [.long (pv_J xS0_124), .int (pv_I xS1_124), .ref (ρ a0 1)] h_124 (Q149 τ ρ h a0 a1 x2 x3 x4) := by
            intro h_124 xS0_124 xS1_124 o2_124 o4_124 hT_124 hF_124 rL3_124 rL5_124 rL6_124 rS0_124 rS1_124 t_124_ρa01
            refine pw_last d149_124 hT_124 t_124_ρa01 rfl rfl rfl (by omega) (by omega) (by omega) (fun h124 T124 F124 E124 => ?_)
            have f124 := hF_124.tr (F124.up (by decide))
            refine pw_iinc d149_125 m149 rfl rfl rfl ?_
            refine pw_goto d149_128 rfl ?_
            exact ih75 h124 ((xL6_75 + 1)) _ _ T124 f124 (by omega) (by omega) (by omega) (by omega)
          refine pw_iload d149_75 rfl ?_
          refine pw_aload_n d149_77 rfl ?_
          refine pw_getI d149_78 g149_36 hT_75 hA0 rfl rfl (fun u78 vu78 => ?_)
          refine pw_icmp_ge d149_81 rfl (by omega) (by omega) (fun c81 => ?_) (fun c81 => ?_)
          · refine pw_aload_n d149_131 rfl ?_
            refine pw_getR d149_132 g149_15 hT_75 hA0 rfl rfl (fun t132 => ?_)
            have t132 : τ (ρ a0 1) = some 38 := t132
            refine pw_bipush d149_135 (by decide) ?_
            refine pw_iload d149_137 rfl ?_
            refine pw_imul d149_139 ?_
            refine pw_iload d149_140 rfl ?_
            refine pw_iadd d149_142 ?_
            refine pw_aload_n d149_143 rfl ?_
            refine pw_aload_n d149_144 rfl ?_
            refine pw_getR d149_145 g149_18 hT_75 hA0 rfl rfl (fun t145 => ?_)
            have t145 : τ (ρ a0 2) = some 39 := t145
            refine pw_iload d149_148 rfl ?_
            refine pw_iald d149_150 hT_75 t145 rfl rfl (by omega) (by omega) (fun u150 vu150 => ?_)
            refine pw_callV1 d149_151 k149_51 hT_75 hA1 rfl rfl rfl (ct59 (τ := τ) (ρ := ρ) hT_75 hA1 (by omega)) (fun r151 h151 q151 => ?_)
            obtain ⟨eh151, z151, ez151, lz151, uz151⟩ := q151
            subst eh151
            subst ez151
            refine pw_i2l d149_154 (by omega) ?_
            refine pw_last d149_155 hT_75 t132 rfl rfl rfl (by omega) (by omega) (by omega) (fun h155 T155 F155 E155 => ?_)
            have f155 := hF_75.tr (F155.up (by decide))
            have q155 := ((F155 a0 6 hA0).1 3 (by decide)).1
            refine pw_aload_n d149_156 rfl ?_
            refine pw_getR d149_157 g149_15 T155 hA0 rfl rfl (fun t157 => ?_)
            have t157 : τ (ρ a0 1) = some 38 := t157
            refine pw_bipush d149_160 (by decide) ?_
            refine pw_iload d149_162 rfl ?_
            refine pw_imul d149_164 ?_
            refine pw_aload_n d149_165 rfl ?_
            refine pw_getI d149_166 g149_36 T155 hA0 rfl rfl (fun u166 vu166 => ?_)
            refine pw_iadd d149_169 ?_
            refine pw_aload_n d149_170 rfl ?_
            refine pw_getR d149_171 g149_18 T155 hA0 rfl rfl (fun t171 => ?_)
            have t171 : τ (ρ a0 2) = some 39 := t171
            refine pw_iload d149_174 rfl ?_
            refine pw_iald d149_176 T155 t171 rfl rfl (by omega) (by omega) (fun u176 vu176 => ?_)
            refine pw_iload_n d149_177 rfl ?_
            refine pw_icmp_ne d149_178 rfl (by omega) (by omega) (fun c178 => ?_) (fun c178 => ?_)
            · refine pw_lconst (z := 0) d149_185 (by decide) ?_
              exact J186 h155 (0) (((11 * xL5_63) + (pv_fI h155 a0 3))) _ _ _ T155 f155 (by omega) (by omega) (by omega) (by omega) t157
            · refine pw_lconst (z := 1) d149_181 (by decide) ?_
              refine pw_goto d149_182 rfl ?_
              exact J186 h155 (1) (((11 * xL5_63) + (pv_fI h155 a0 3))) _ _ _ T155 f155 (by omega) (by omega) (by omega) (by omega) t157
          · refine pw_aload_n d149_84 rfl ?_
            refine pw_getR d149_85 g149_15 hT_75 hA0 rfl rfl (fun t85 => ?_)
            have t85 : τ (ρ a0 1) = some 38 := t85
            refine pw_bipush d149_88 (by decide) ?_
            refine pw_iload d149_90 rfl ?_
            refine pw_imul d149_92 ?_
            refine pw_iload d149_93 rfl ?_
            refine pw_iadd d149_95 ?_
            refine pw_aload_n d149_96 rfl ?_
            refine pw_aload_n d149_97 rfl ?_
            refine pw_getR d149_98 g149_18 hT_75 hA0 rfl rfl (fun t98 => ?_)
            have t98 : τ (ρ a0 2) = some 39 := t98
            refine pw_iload d149_101 rfl ?_
            refine pw_iald d149_103 hT_75 t98 rfl rfl (by omega) (by omega) (fun u103 vu103 => ?_)
            refine pw_aload_n d149_104 rfl ?_
            refine pw_getR d149_105 g149_18 hT_75 hA0 rfl rfl (fun t105 => ?_)
            have t105 : τ (ρ a0 2) = some 39 := t105
            refine pw_iload d149_108 rfl ?_
            refine pw_iald d149_110 hT_75 t105 rfl rfl (by omega) (by omega) (fun u110 vu110 => ?_)
            refine pw_callV2 d149_111 k149_45 hT_75 hA1 rfl rfl rfl (ct47 (τ := τ) (ρ := ρ) hT_75 hA1 (by omega) (by omega)) (fun r111 h111 q111 => ?_)
            obtain ⟨eh111, z111, ez111, lz111, uz111, pz111_0⟩ := q111
            subst eh111
            subst ez111
            refine pw_if_eq d149_114 rfl (by omega) (fun c114 => ?_) (fun c114 => ?_)
            · refine pw_lconst (z := 0) d149_123 (by decide) ?_
              exact J124 h_75 (0) (((11 * xL5_63) + xL6_75)) _ _ hT_75 hF_75 (by omega) (by omega) (by omega) (by omega) (by omega) t85
            · refine pw_ldc2 (v := pv_J (-1)) d149_117 n149_117 ?_
              refine pw_goto d149_120 rfl ?_
              exact J124 h_75 ((-1)) (((11 * xL5_63) + xL6_75)) _ _ hT_75 hF_75 (by omega) (by omega) (by omega) (by omega) (by omega) t85
      refine pw_iload d149_63 rfl ?_
      refine pw_aload_n d149_65 rfl ?_
      refine pw_getI d149_66 g149_36 hT_63 hA0 rfl rfl (fun u66 vu66 => ?_)
      refine pw_icmp_ge d149_69 rfl (by omega) (by omega) (fun c69 => ?_) (fun c69 => ?_)
      · exact pw_return d149_193 tt149 ⟨hT_63, hF_63, rfl⟩
      · refine pw_iconst d149_72 ?_
        refine pw_istore d149_73 m149 rfl rfl ?_
        exact L75 _ h_63 (0) _ _ hT_63 hF_63 (by omega) (by omega) (by omega) (pv_mu _)
  have L8 : ∀ (nn : Nat) (h_8 : pv_H) (xL5_8 : Int) (o6_8 : Option Value), (pv_Ty τ ρ h_8) → (pv_Fr τ [387, 2495, 2559] h h_8) → ((-2147483648) ≤ x2 ∧ x2 ≤ 2147483647) → ((-2147483648) ≤ x3 ∧ x3 ≤ 2147483647) → ((-2147483648) ≤ x4 ∧ x4 ≤ 2147483647) → (0 ≤ xL5_8 ∧ xL5_8 ≤ 10) → (pv_fI h_8 a0 3 ≤ xL5_8) → 10 - xL5_8 < nn → pv_T K 149 8 (pv_fl [some (.ref a0), some (.ref a1), some (.int (pv_I x2)), some (.int (pv_I x3)), some (.int (pv_I x4)), some (.int (pv_I xL5_8)), o6_8]) [] h_8 (Q149 τ ρ h a0 a1 x2 x3 x4) := by
    intro nn
    induction nn with
    | zero => intro h_8 xL5_8 o6_8 hT_8 hF_8 rL2_8 rL3_8 rL4_8 rL5_8 i0_8 hm; exfalso; omega
    | succ nn ih8 =>
      intro h_8 xL5_8 o6_8 hT_8 hF_8 rL2_8 rL3_8 rL4_8 rL5_8 i0_8 hm8
      have J54 : ∀ (h_54 : pv_H) (o6_54 : Option Value), (pv_Ty τ ρ h_54) → (pv_Fr τ [387, 2495, 2559] h h_54) → ((-2147483648) ≤ x2 ∧ x2 ≤ 2147483647) → ((-2147483648) ≤ x3 ∧ x3 ≤ 2147483647) → ((-2147483648) ≤ x4 ∧ x4 ≤ 2147483647) → (0 ≤ xL5_8 ∧ xL5_8 ≤ 9) → (pv_fI h_54 a0 3 ≤ xL5_8 + 1) → pv_T K 149 54 (pv_fl [some (.ref a0), some (.ref a1), some (.int (pv_I x2)), some (.int (pv_I x3)), some (.int (pv_I x4)), some (.int (pv_I xL5_8)), o6_54]) [] h_54 (Q149 τ ρ h a0 a1 x2 x3 x4) := by
        intro h_54 o6_54 hT_54 hF_54 rL2_54 rL3_54 rL4_54 rL5_54 i0_54
        refine pw_iinc d149_54 m149 rfl rfl rfl ?_
        refine pw_goto d149_57 rfl ?_
        exact ih8 h_54 ((xL5_8 + 1)) _ hT_54 hF_54 (by omega) (by omega) (by omega) (by omega) (by omega) (by omega)
      refine pw_iload d149_8 rfl ?_
      refine pw_aload_n d149_10 rfl ?_
      refine pw_getI d149_11 g149_40 hT_8 hA1 rfl rfl (fun u11 vu11 => ?_)
      refine pw_icmp_ge d149_14 rfl (by omega) (by omega) (fun c14 => ?_) (fun c14 => ?_)
      · refine pw_iconst d149_60 ?_
        refine pw_istore d149_61 m149 rfl rfl ?_
        exact L63 _ h_8 (0) _ _ _ hT_8 hF_8 (by omega) (by omega) (pv_mu _)
      · refine pw_iload_n d149_17 rfl ?_
        refine pw_iload d149_18 rfl ?_
        refine pw_ishr d149_20 (fun z20 hz20 ez20 => ?_)
        refine pw_iconst d149_21 ?_
        refine pw_iand d149_22 (fun z22 hz22 ez22 => ?_)
        have bz22 := pv_and1_b hz22 ez22
        refine pw_if_eq d149_23 rfl (by omega) (fun c23 => ?_) (fun c23 => ?_)
        · exact J54 h_8 _ hT_8 hF_8 (by omega) (by omega) (by omega) (by omega) (by omega)
        · refine pw_iload d149_26 rfl ?_
          refine pw_iload d149_28 rfl ?_
          refine pw_icmp_eq d149_30 rfl (by omega) (by omega) (fun c30 => ?_) (fun c30 => ?_)
          · exact J54 h_8 _ hT_8 hF_8 (by omega) (by omega) (by omega) (by omega) (by omega)
          · refine pw_aload_n d149_33 rfl ?_
            refine pw_getR d149_34 g149_18 hT_8 hA0 rfl rfl (fun t34 => ?_)
            have t34 : τ (ρ a0 2) = some 39 := t34
            refine pw_aload_n d149_37 rfl ?_
            refine pw_getI d149_38 g149_36 hT_8 hA0 rfl rfl (fun u38 vu38 => ?_)
            refine pw_iload d149_41 rfl ?_
            refine pw_iast d149_43 hT_8 t34 rfl rfl rfl (by omega) (by omega) (by omega) (by omega) (fun h43 T43 F43 E43 => ?_)
            have f43 := hF_8.tr (F43.up (by decide))
            have q43 := ((F43 a0 6 hA0).1 3 (by decide)).1
            have q43b := ((F43 a1 2 hA1).1 0 (by decide)).1
            refine pw_aload_n d149_44 rfl ?_
            refine pw_dup d149_45 rfl ?_
            refine pw_getI d149_46 g149_36 T43 hA0 rfl rfl (fun u46 vu46 => ?_)
            refine pw_iconst d149_49 ?_
            refine pw_iadd d149_50 ?_
            refine pw_putI d149_51 g149_36 w6_3 T43 hA0 rfl rfl rfl (by omega) (by omega) (fun h51 T51 F51 E51 => ?_)
            have f51 := f43.tr (F51.up (by decide))
            have q51 := ((F51 a1 2 hA1).1 0 (by decide)).1
            exact J54 h51 _ T51 f51 (by omega) (by omega) (by omega) (by omega) (by omega)
  refine pw_aload_n d149_0 rfl ?_
  refine pw_iconst d149_1 ?_
  refine pw_putI d149_2 g149_36 w6_3 hT hA0 rfl rfl rfl (by omega) (by omega) (fun h2 T2 F2 E2 => ?_)
  have f2 := hF0.tr (F2.up (by decide))
  refine pw_iconst d149_5 ?_
  refine pw_istore d149_6 m149 rfl rfl ?_
  exact L8 _ h2 (0) _ T2 f2 (by omega) (by omega) (by omega) (by omega) (by omega) (pv_mu _)

abbrev Q151 (τ : Nat → Option Nat) (ρ : Nat → Nat → Nat) (h : pv_H) (a0 : Nat) (x1 : Int) (x2 : Int) (x3 : Int) : Option Value → pv_H → Prop := fun r h' => pv_Ty τ ρ h' ∧ pv_Fr τ [2495] h h' ∧ r = none
set_option maxHeartbeats 4000000 in
set_option maxRecDepth 20000 in
/-- AngleNet$Currents.clearRow(IIJ)V -/
theorem ct151 {τ : Nat → Option Nat} {ρ : Nat → Nat → Nat} {K : Nat → Nat} {h : pv_H} {a0 : Nat} {x1 : Int} {x2 : Int} {x3 : Int} (hT : pv_Ty τ ρ h) (hA0 : τ a0 = some 6) (hX1 : 0 ≤ x1 ∧ x1 ≤ 9) (hX2 : 0 ≤ x2 ∧ x2 ≤ 9) (hX3 : (-9223372036854775808) ≤ x3 ∧ x3 ≤ 9223372036854775807) : pv_C K 151 [.ref a0, .int (pv_I x1), .int (pv_I x2), .long (pv_J x3)] h (Q151 τ ρ h a0 x1 x2 x3) := by
  refine pw_entry 7 ?_
  show pv_T K 151 0 (pv_fl [some (.ref a0), some (.int (pv_I x1)), some (.int (pv_I x2)), some (.long (pv_J x3)), none, none, none, none, none, none, none, none]) [] h (Q151 τ ρ h a0 x1 x2 x3)
  have hF0 : pv_Fr τ [2495] h h := pv_Fr.rf
  have L36 : ∀ (nn : Nat) (h_36 : pv_H) (xL5_36 xL7_36 xL9_36 : Int) (o4_36 o6_36 o8_36 o10_36 o11_36 : Option Value), (pv_Ty τ ρ h_36) → (pv_Fr τ [2495] h h_36) → (0 ≤ x1 ∧ x1 ≤ 9) → (0 ≤ x2 ∧ x2 ≤ 9) → ((-9223372036854775808) ≤ x3 ∧ x3 ≤ 9223372036854775807) → ((-9223372036854775808) ≤ xL5_36 ∧ xL5_36 ≤ 9223372036854775807) → ((-9223372036854775808) ≤ xL7_36 ∧ xL7_36 ≤ 9223372036854775807) → (0 ≤ xL9_36 ∧ xL9_36 ≤ 17) → (x3 ≠ 0) → 17 - xL9_36 < nn → pv_T K 151 36 (pv_fl [some (.ref a0), some (.int (pv_I x1)), some (.int (pv_I x2)), some (.long (pv_J x3)), o4_36, some (.long (pv_J xL5_36)), o6_36, some (.long (pv_J xL7_36)), o8_36, some (.int (pv_I xL9_36)), o10_36, o11_36]) [] h_36 (Q151 τ ρ h a0 x1 x2 x3) := by
    intro nn
    induction nn with
    | zero => intro h_36 xL5_36 xL7_36 xL9_36 o4_36 o6_36 o8_36 o10_36 o11_36 hT_36 hF_36 rL1_36 rL2_36 rL3_36 rL5_36 rL7_36 rL9_36 i0_36 hm; exfalso; omega
    | succ nn ih36 =>
      intro h_36 xL5_36 xL7_36 xL9_36 o4_36 o6_36 o8_36 o10_36 o11_36 hT_36 hF_36 rL1_36 rL2_36 rL3_36 rL5_36 rL7_36 rL9_36 i0_36 hm36
      refine pw_iload d151_36 rfl ?_
      refine pw_aload_n d151_38 rfl ?_
      refine pw_getI d151_39 g151_36 hT_36 hA0 rfl rfl (fun u39 vu39 => ?_)
      refine pw_icmp_gt d151_42 rfl (by omega) (by omega) (fun c42 => ?_) (fun c42 => ?_)
      · exact pw_return d151_100 tt151 ⟨hT_36, hF_36, rfl⟩
      · refine pw_lload d151_45 rfl ?_
        refine pw_aload_n d151_47 rfl ?_
        refine pw_getR d151_48 g151_15 hT_36 hA0 rfl rfl (fun t48 => ?_)
        have t48 : τ (ρ a0 1) = some 38 := t48
        refine pw_bipush d151_51 (by decide) ?_
        refine pw_iload_n d151_53 rfl ?_
        refine pw_imul d151_54 ?_
        refine pw_iload d151_55 rfl ?_
        refine pw_iadd d151_57 ?_
        refine pw_lald d151_58 hT_36 t48 rfl rfl (by omega) (by omega) (fun u58 => ?_)
        refine pw_lmul d151_59 ?_
        refine pw_anyl (fun z59 hz59 ez59 => ?_)
        refine pw_lload d151_60 rfl ?_
        refine pw_aload_n d151_62 rfl ?_
        refine pw_getR d151_63 g151_15 hT_36 hA0 rfl rfl (fun t63 => ?_)
        have t63 : τ (ρ a0 1) = some 38 := t63
        refine pw_bipush d151_66 (by decide) ?_
        refine pw_iload_n d151_68 rfl ?_
        refine pw_imul d151_69 ?_
        refine pw_iload d151_70 rfl ?_
        refine pw_iadd d151_72 ?_
        refine pw_lald d151_73 hT_36 t63 rfl rfl (by omega) (by omega) (fun u73 => ?_)
        refine pw_lmul d151_74 ?_
        refine pw_anyl (fun z74 hz74 ez74 => ?_)
        refine pw_lsub d151_75 ?_
        refine pw_anyl (fun z76 hz76 ez76 => ?_)
        refine pw_lstore d151_76 m151 rfl rfl ?_
        refine pw_aload_n d151_78 rfl ?_
        refine pw_getR d151_79 g151_15 hT_36 hA0 rfl rfl (fun t79 => ?_)
        have t79 : τ (ρ a0 1) = some 38 := t79
        refine pw_bipush d151_82 (by decide) ?_
        refine pw_iload_n d151_84 rfl ?_
        refine pw_imul d151_85 ?_
        refine pw_iload d151_86 rfl ?_
        refine pw_iadd d151_88 ?_
        refine pw_lload d151_89 rfl ?_
        refine pw_lload_n d151_91 rfl ?_
        refine pw_ldivU d151_92 (by omega) (by omega) (fun z92 hz92 ez92 => ?_)
        refine pw_last d151_93 hT_36 t79 rfl rfl rfl (by omega) (by omega) (by omega) (fun h93 T93 F93 E93 => ?_)
        have f93 := hF_36.tr (F93.up (by decide))
        have q93 := ((F93 a0 6 hA0).1 3 (by decide)).1
        refine pw_iinc d151_94 m151 rfl rfl rfl ?_
        refine pw_goto d151_97 rfl ?_
        exact ih36 h93 (xL5_36) (xL7_36) ((xL9_36 + 1)) _ _ _ _ _ T93 f93 (by omega) (by omega) (by omega) (by omega) (by omega) (by omega) (by omega) (by omega)
  refine pw_lload_n d151_0 rfl ?_
  refine pw_lconst (z := 0) d151_1 (by decide) ?_
  refine pw_lcmp d151_2 (by omega) (by omega) (fun z2 ez2 => ?_)
  refine pw_if_ne d151_3 rfl (by omega) (fun c3 => ?_) (fun c3 => ?_)
  · refine pw_aload_n d151_7 rfl ?_
    refine pw_getR d151_8 g151_15 hT hA0 rfl rfl (fun t8 => ?_)
    have t8 : τ (ρ a0 1) = some 38 := t8
    refine pw_bipush d151_11 (by decide) ?_
    refine pw_iload_n d151_13 rfl ?_
    refine pw_imul d151_14 ?_
    refine pw_iload_n d151_15 rfl ?_
    refine pw_iadd d151_16 ?_
    refine pw_lald d151_17 hT t8 rfl rfl (by omega) (by omega) (fun u17 => ?_)
    refine pw_lstore d151_18 m151 rfl rfl ?_
    refine pw_aload_n d151_20 rfl ?_
    refine pw_getR d151_21 g151_15 hT hA0 rfl rfl (fun t21 => ?_)
    have t21 : τ (ρ a0 1) = some 38 := t21
    refine pw_bipush d151_24 (by decide) ?_
    refine pw_iload_n d151_26 rfl ?_
    refine pw_imul d151_27 ?_
    refine pw_iload_n d151_28 rfl ?_
    refine pw_iadd d151_29 ?_
    refine pw_lald d151_30 hT t21 rfl rfl (by omega) (by omega) (fun u30 => ?_)
    refine pw_lstore d151_31 m151 rfl rfl ?_
    refine pw_iconst d151_33 ?_
    refine pw_istore d151_34 m151 rfl rfl ?_
    exact L36 _ h ((pv_aJ h (ρ a0 1) (((11 * x2) + x2)).toNat)) ((pv_aJ h (ρ a0 1) (((11 * x1) + x2)).toNat)) (0) _ _ _ _ _ hT hF0 (by omega) (by omega) (by omega) (by omega) (by omega) (by omega) (by omega) (pv_mu _)
  · exact pw_return d151_6 tt151 ⟨hT, hF0, rfl⟩

abbrev Q150 (τ : Nat → Option Nat) (ρ : Nat → Nat → Nat) (h : pv_H) (a0 : Nat) : Option Value → pv_H → Prop := fun r h' => pv_Ty τ ρ h' ∧ pv_Fr τ [2495] h h' ∧ ∃ z : Int, r = some (.long (pv_J z)) ∧ (-9223372036854775808) ≤ z ∧ z ≤ 9223372036854775807
set_option maxHeartbeats 4000000 in
set_option maxRecDepth 20000 in
/-- AngleNet$Currents.clearColumns()J -/
theorem ct150 {τ : Nat → Option Nat} {ρ : Nat → Nat → Nat} {K : Nat → Nat} {h : pv_H} {a0 : Nat} (hT : pv_Ty τ ρ h) (hA0 : τ a0 = some 6) : pv_C K 150 [.ref a0] h (Q150 τ ρ h a0) := by
  refine pw_entry 6 ?_
  show pv_T K 150 0 (pv_fl [some (.ref a0), none, none, none, none, none, none]) [] h (Q150 τ ρ h a0)
  have hF0 : pv_Fr τ [2495] h h := pv_Fr.rf
  have L4 : ∀ (nn : Nat) (h_4 : pv_H) (xL1_4 xL3_4 : Int) (o2_4 o4_4 o5_4 o6_4 : Option Value), (pv_Ty τ ρ h_4) → (pv_Fr τ [2495] h h_4) → ((-9223372036854775808) ≤ xL1_4 ∧ xL1_4 ≤ 9223372036854775807) → (0 ≤ xL3_4 ∧ xL3_4 ≤ 10) → 10 - xL3_4 < nn → pv_T K 150 4 (pv_fl [some (.ref a0), some (.long (pv_J xL1_4)), o2_4, some (.int (pv_I xL3_4)), o4_4, o5_4, o6_4]) [] h_4 (Q150 τ ρ h a0) := by
    intro nn
    induction nn with
    | zero => intro h_4 xL1_4 xL3_4 o2_4 o4_4 o5_4 o6_4 hT_4 hF_4 rL1_4 rL3_4 hm; exfalso; omega
    | succ nn ih4 =>
      intro h_4 xL1_4 xL3_4 o2_4 o4_4 o5_4 o6_4 hT_4 hF_4 rL1_4 rL3_4 hm4
      have L37 : ∀ (nn : Nat) (h_37 : pv_H) (xL4_37 xL6_37 : Int) (o2_37 o5_37 : Option Value), (pv_Ty τ ρ h_37) → (pv_Fr τ [2495] h h_37) → ((-9223372036854775808) ≤ xL1_4 ∧ xL1_4 ≤ 9223372036854775807) → (0 ≤ xL3_4 ∧ xL3_4 ≤ 9) → ((-9223372036854775808) ≤ xL4_37 ∧ xL4_37 ≤ 9223372036854775807) → (0 ≤ xL6_37 ∧ xL6_37 ≤ 10) → 10 - xL6_37 < nn → pv_T K 150 37 (pv_fl [some (.ref a0), some (.long (pv_J xL1_4)), o2_37, some (.int (pv_I xL3_4)), some (.long (pv_J xL4_37)), o5_37, some (.int (pv_I xL6_37))]) [] h_37 (Q150 τ ρ h a0) := by
        intro nn
        induction nn with
        | zero => intro h_37 xL4_37 xL6_37 o2_37 o5_37 hT_37 hF_37 rL1_37 rL3_37 rL4_37 rL6_37 hm; exfalso; omega
        | succ nn ih37 =>
          intro h_37 xL4_37 xL6_37 o2_37 o5_37 hT_37 hF_37 rL1_37 rL3_37 rL4_37 rL6_37 hm37
          have J60 : ∀ (h_60 : pv_H) (o2_60 o5_60 : Option Value), (pv_Ty τ ρ h_60) → (pv_Fr τ [2495] h h_60) → ((-9223372036854775808) ≤ xL1_4 ∧ xL1_4 ≤ 9223372036854775807) → (0 ≤ xL3_4 ∧ xL3_4 ≤ 9) → ((-9223372036854775808) ≤ xL4_37 ∧ xL4_37 ≤ 9223372036854775807) → (0 ≤ xL6_37 ∧ xL6_37 ≤ 9) → pv_T K 150 60 (pv_fl [some (.ref a0), some (.long (pv_J xL1_4)), o2_60, some (.int (pv_I xL3_4)), some (.long (pv_J xL4_37)), o5_60, some (.int (pv_I xL6_37))]) [] h_60 (Q150 τ ρ h a0) := by
            intro h_60 o2_60 o5_60 hT_60 hF_60 rL1_60 rL3_60 rL4_60 rL6_60
            refine pw_iinc d150_60 m150 rfl rfl rfl ?_
            refine pw_goto d150_63 rfl ?_
            exact ih37 h_60 (xL4_37) ((xL6_37 + 1)) _ _ hT_60 hF_60 (by omega) (by omega) (by omega) (by omega) (by omega)
          refine pw_iload d150_37 rfl ?_
          refine pw_aload_n d150_39 rfl ?_
          refine pw_getI d150_40 g150_36 hT_37 hA0 rfl rfl (fun u40 vu40 => ?_)
          refine pw_icmp_ge d150_43 rfl (by omega) (by omega) (fun c43 => ?_) (fun c43 => ?_)
          · refine pw_lload d150_66 rfl ?_
            refine pw_lstore_n d150_68 m150 rfl rfl ?_
            refine pw_iinc d150_69 m150 rfl rfl rfl ?_
            refine pw_goto d150_72 rfl ?_
            exact ih4 h_37 (xL4_37) ((xL3_4 + 1)) _ _ _ _ hT_37 hF_37 (by omega) (by omega) (by omega)
          · refine pw_iload d150_46 rfl ?_
            refine pw_iload_n d150_48 rfl ?_
            refine pw_icmp_eq d150_49 rfl (by omega) (by omega) (fun c49 => ?_) (fun c49 => ?_)
            · exact J60 h_37 _ _ hT_37 hF_37 (by omega) (by omega) (by omega) (by omega)
            · refine pw_aload_n d150_52 rfl ?_
              refine pw_iload d150_53 rfl ?_
              refine pw_iload_n d150_55 rfl ?_
              refine pw_lload_n d150_56 rfl ?_
              refine pw_callV3 d150_57 k150_55 hT_37 hA0 rfl rfl rfl (ct151 (τ := τ) (ρ := ρ) hT_37 hA0 (by omega) (by omega) (by omega)) (fun r57 h57 q57 => ?_)
              obtain ⟨T57, F57, ez57⟩ := q57
              subst ez57
              have f57 := hF_37.tr (F57.up (by decide))
              have q57b := ((F57 a0 6 hA0).1 3 (by decide)).1
              exact J60 h57 _ _ T57 f57 (by omega) (by omega) (by omega) (by omega)
      refine pw_iload_n d150_4 rfl ?_
      refine pw_aload_n d150_5 rfl ?_
      refine pw_getI d150_6 g150_36 hT_4 hA0 rfl rfl (fun u6 vu6 => ?_)
      refine pw_icmp_ge d150_9 rfl (by omega) (by omega) (fun c9 => ?_) (fun c9 => ?_)
      · refine pw_lload_n d150_75 rfl ?_
        exact pw_lreturn d150_76 tt150 ⟨hT_4, hF_4, xL1_4, rfl, (by omega), (by omega)⟩
      · refine pw_aload_n d150_12 rfl ?_
        refine pw_getR d150_13 g150_15 hT_4 hA0 rfl rfl (fun t13 => ?_)
        have t13 : τ (ρ a0 1) = some 38 := t13
        refine pw_bipush d150_16 (by decide) ?_
        refine pw_iload_n d150_18 rfl ?_
        refine pw_imul d150_19 ?_
        refine pw_iload_n d150_20 rfl ?_
        refine pw_iadd d150_21 ?_
        refine pw_lald d150_22 hT_4 t13 rfl rfl (by omega) (by omega) (fun u22 => ?_)
        refine pw_lstore d150_23 m150 rfl rfl ?_
        refine pw_lload d150_25 rfl ?_
        refine pw_lconst (z := 0) d150_27 (by decide) ?_
        refine pw_lcmp d150_28 (by omega) (by omega) (fun z28 ez28 => ?_)
        refine pw_if_ne d150_29 rfl (by omega) (fun c29 => ?_) (fun c29 => ?_)
        · refine pw_iconst d150_34 ?_
          refine pw_istore d150_35 m150 rfl rfl ?_
          exact L37 _ h_4 ((pv_aJ h_4 (ρ a0 1) (((11 * xL3_4) + xL3_4)).toNat)) (0) _ _ hT_4 hF_4 (by omega) (by omega) (by omega) (by omega) (pv_mu _)
        · refine pw_lconst (z := 0) d150_32 (by decide) ?_
          exact pw_lreturn d150_33 tt150 ⟨hT_4, hF_4, 0, rfl, (by omega), (by omega)⟩
  refine pw_lconst (z := 1) d150_0 (by decide) ?_
  refine pw_lstore_n d150_1 m150 rfl rfl ?_
  refine pw_iconst d150_2 ?_
  refine pw_istore_n d150_3 m150 rfl rfl ?_
  exact L4 _ h (1) (0) _ _ _ _ hT hF0 (by omega) (by omega) (pv_mu _)

abbrev Q147 (τ : Nat → Option Nat) (ρ : Nat → Nat → Nat) (h : pv_H) (a0 : Nat) (a1 : Nat) (x2 : Int) (x3 : Int) (x4 : Int) : Option Value → pv_H → Prop := fun r h' => pv_Ty τ ρ h' ∧ pv_Fr τ [387, 2431, 2495, 2559] h h' ∧ ∃ z : Int, r = some (.long (pv_J z)) ∧ (-9223372036854775808) ≤ z ∧ z ≤ 9223372036854775807
set_option maxHeartbeats 4000000 in
set_option maxRecDepth 20000 in
/-- AngleNet$Currents.solve(LAngleNet$Net;III)J -/
theorem ct147 {τ : Nat → Option Nat} {ρ : Nat → Nat → Nat} {K : Nat → Nat} {h : pv_H} {a0 : Nat} {a1 : Nat} {x2 : Int} {x3 : Int} {x4 : Int} (hT : pv_Ty τ ρ h) (hA0 : τ a0 = some 6) (hA1 : τ a1 = some 2) (hX2 : (-2147483648) ≤ x2 ∧ x2 ≤ 2147483647) (hX3 : (-2147483648) ≤ x3 ∧ x3 ≤ 2147483647) (hX4 : (-2147483648) ≤ x4 ∧ x4 ≤ 2147483647) : pv_C K 147 [.ref a0, .ref a1, .int (pv_I x2), .int (pv_I x3), .int (pv_I x4)] h (Q147 τ ρ h a0 a1 x2 x3 x4) := by
  refine pw_entry 3 ?_
  show pv_T K 147 0 (pv_fl [some (.ref a0), some (.ref a1), some (.int (pv_I x2)), some (.int (pv_I x3)), some (.int (pv_I x4)), none, none, none]) [] h (Q147 τ ρ h a0 a1 x2 x3 x4)
  have hF0 : pv_Fr τ [387, 2431, 2495, 2559] h h := pv_Fr.rf
  have L26 : ∀ (nn : Nat) (h_26 : pv_H) (xL5_26 xL7_26 : Int) (o1_26 o2_26 o3_26 o4_26 o6_26 : Option Value), (pv_Ty τ ρ h_26) → (pv_Fr τ [387, 2431, 2495, 2559] h h_26) → ((-9223372036854775808) ≤ xL5_26 ∧ xL5_26 ≤ 9223372036854775807) → (0 ≤ xL7_26 ∧ xL7_26 ≤ 10) → 10 - xL7_26 < nn → pv_T K 147 26 (pv_fl [some (.ref a0), o1_26, o2_26, o3_26, o4_26, some (.long (pv_J xL5_26)), o6_26, some (.int (pv_I xL7_26))]) [] h_26 (Q147 τ ρ h a0 a1 x2 x3 x4) := by
    intro nn
    induction nn with
    | zero => intro h_26 xL5_26 xL7_26 o1_26 o2_26 o3_26 o4_26 o6_26 hT_26 hF_26 rL5_26 rL7_26 hm; exfalso; omega
    | succ nn ih26 =>
      intro h_26 xL5_26 xL7_26 o1_26 o2_26 o3_26 o4_26 o6_26 hT_26 hF_26 rL5_26 rL7_26 hm26
      refine pw_iload d147_26 rfl ?_
      refine pw_aload_n d147_28 rfl ?_
      refine pw_getI d147_29 g147_36 hT_26 hA0 rfl rfl (fun u29 vu29 => ?_)
      refine pw_icmp_ge d147_32 rfl (by omega) (by omega) (fun c32 => ?_) (fun c32 => ?_)
      · refine pw_lload d147_68 rfl ?_
        exact pw_lreturn d147_70 tt147 ⟨hT_26, hF_26, xL5_26, rfl, (by omega), (by omega)⟩
      · refine pw_aload_n d147_35 rfl ?_
        refine pw_getR d147_36 g147_9 hT_26 hA0 rfl rfl (fun t36 => ?_)
        have t36 : τ (ρ a0 0) = some 37 := t36
        refine pw_aload_n d147_39 rfl ?_
        refine pw_getR d147_40 g147_18 hT_26 hA0 rfl rfl (fun t40 => ?_)
        have t40 : τ (ρ a0 2) = some 39 := t40
        refine pw_iload d147_43 rfl ?_
        refine pw_iald d147_45 hT_26 t40 rfl rfl (by omega) (by omega) (fun u45 vu45 => ?_)
        refine pw_aload_n d147_46 rfl ?_
        refine pw_getR d147_47 g147_15 hT_26 hA0 rfl rfl (fun t47 => ?_)
        have t47 : τ (ρ a0 1) = some 38 := t47
        refine pw_bipush d147_50 (by decide) ?_
        refine pw_iload d147_52 rfl ?_
        refine pw_imul d147_54 ?_
        refine pw_aload_n d147_55 rfl ?_
        refine pw_getI d147_56 g147_36 hT_26 hA0 rfl rfl (fun u56 vu56 => ?_)
        refine pw_iadd d147_59 ?_
        refine pw_lald d147_60 hT_26 t47 rfl rfl (by omega) (by omega) (fun u60 => ?_)
        refine pw_last d147_61 hT_26 t36 rfl rfl rfl (by omega) (by omega) (by omega) (fun h61 T61 F61 E61 => ?_)
        have f61 := hF_26.tr (F61.up (by decide))
        have q61 := ((F61 a0 6 hA0).1 3 (by decide)).1
        refine pw_iinc d147_62 m147 rfl rfl rfl ?_
        refine pw_goto d147_65 rfl ?_
        exact ih26 h61 (xL5_26) ((xL7_26 + 1)) _ _ _ _ _ T61 f61 (by omega) (by omega) (by omega)
  refine pw_aload_n d147_0 rfl ?_
  refine pw_getR d147_1 g147_9 hT hA0 rfl rfl (fun t1 => ?_)
  have t1 : τ (ρ a0 0) = some 37 := t1
  refine pw_lconst (z := 0) d147_4 (by decide) ?_
  refine pw_callS2 d147_5 k147_22 rfl rfl (ct148v37 (τ := τ) (ρ := ρ) hT t1 (by omega)) (fun r5 h5 q5 => ?_)
  obtain ⟨T5, F5, ez5⟩ := q5
  subst ez5
  have f5 := hF0.tr (F5.up (by decide))
  refine pw_aload_n d147_8 rfl ?_
  refine pw_aload_n d147_9 rfl ?_
  refine pw_iload_n d147_10 rfl ?_
  refine pw_iload_n d147_11 rfl ?_
  refine pw_iload d147_12 rfl ?_
  refine pw_callV4 d147_14 k147_28 T5 hA0 rfl rfl rfl (ct149 (τ := τ) (ρ := ρ) T5 hA0 hA1 (by omega) (by omega) (by omega)) (fun r14 h14 q14 => ?_)
  obtain ⟨T14, F14, ez14⟩ := q14
  subst ez14
  have f14 := f5.tr (F14.up (by decide))
  refine pw_aload_n d147_17 rfl ?_
  refine pw_callV0 d147_18 k147_32 T14 hA0 rfl rfl rfl (ct150 (τ := τ) (ρ := ρ) T14 hA0) (fun r18 h18 q18 => ?_)
  obtain ⟨T18, F18, z18, ez18, lz18, uz18⟩ := q18
  subst ez18
  have f18 := f14.tr (F18.up (by decide))
  refine pw_lstore d147_21 m147 rfl rfl ?_
  refine pw_iconst d147_23 ?_
  refine pw_istore d147_24 m147 rfl rfl ?_
  exact L26 _ h18 (z18) (0) _ _ _ _ _ T18 f18 (by omega) (by omega) (pv_mu _)

abbrev Q157 (τ : Nat → Option Nat) (ρ : Nat → Nat → Nat) (h : pv_H) (x0 : Int) (x1 : Int) : Option Value → pv_H → Prop := fun r h' => h = h' ∧ ∃ z : Int, r = some (.long (pv_J z)) ∧ (-9223372036854775808) ≤ z ∧ z ≤ 9223372036854775807
set_option maxHeartbeats 4000000 in
set_option maxRecDepth 20000 in
/-- AngleNet$Currents.commonDivisor(JJ)J -/
theorem ct157 {τ : Nat → Option Nat} {ρ : Nat → Nat → Nat} {K : Nat → Nat} {h : pv_H} {x0 : Int} {x1 : Int} (hX0 : (-9223372036854775808) ≤ x0 ∧ x0 ≤ 9223372036854775807) (hX1 : (-9223372036854775808) ≤ x1 ∧ x1 ≤ 9223372036854775807) : pv_C K 157 [.long (pv_J x0), .long (pv_J x1)] h (Q157 τ ρ h x0 x1) := by
  refine pw_entry 7 ?_
  show pv_T K 157 0 (pv_fl [some (.long (pv_J x0)), none, some (.long (pv_J x1)), none, none, none, none, none, none, none, none]) [] h (Q157 τ ρ h x0 x1)
  have L9 : ∀ (nn : Nat) (xL4_9 xL6_9 xL8_9 : Int) (o0_9 o1_9 o2_9 o3_9 o5_9 o7_9 o9_9 o10_9 : Option Value), ((-9223372036854775808) ≤ xL4_9 ∧ xL4_9 ≤ 9223372036854775807) → ((-9223372036854775808) ≤ xL6_9 ∧ xL6_9 ≤ 9223372036854775807) → (0 ≤ xL8_9 ∧ xL8_9 ≤ 179) → 179 - xL8_9 < nn → pv_T K 157 9 (pv_fl [o0_9, o1_9, o2_9, o3_9, some (.long (pv_J xL4_9)), o5_9, some (.long (pv_J xL6_9)), o7_9, some (.int (pv_I xL8_9)), o9_9, o10_9]) [] h (Q157 τ ρ h x0 x1) := by
    intro nn
    induction nn with
    | zero => intro xL4_9 xL6_9 xL8_9 o0_9 o1_9 o2_9 o3_9 o5_9 o7_9 o9_9 o10_9 rL4_9 rL6_9 rL8_9 hm; exfalso; omega
    | succ nn ih9 =>
      intro xL4_9 xL6_9 xL8_9 o0_9 o1_9 o2_9 o3_9 o5_9 o7_9 o9_9 o10_9 rL4_9 rL6_9 rL8_9 hm9
      refine pw_iload d157_9 rfl ?_
      refine pw_sipush d157_11 (by decide) ?_
      refine pw_icmp_ge d157_14 rfl (by omega) (by omega) (fun c14 => ?_) (fun c14 => ?_)
      · refine pw_lload d157_45 rfl ?_
        exact pw_lreturn d157_47 tt157 ⟨rfl, xL4_9, rfl, (by omega), (by omega)⟩
      · refine pw_lload d157_17 rfl ?_
        refine pw_lconst (z := 0) d157_19 (by decide) ?_
        refine pw_lcmp d157_20 (by omega) (by omega) (fun z20 ez20 => ?_)
        refine pw_if_eq d157_21 rfl (by omega) (fun c21 => ?_) (fun c21 => ?_)
        · refine pw_lload d157_45 rfl ?_
          exact pw_lreturn d157_47 tt157 ⟨rfl, xL4_9, rfl, (by omega), (by omega)⟩
        · refine pw_lload d157_24 rfl ?_
          refine pw_lload d157_26 rfl ?_
          refine pw_lremU d157_28 (by omega) (by omega) (fun z28 hz28 ez28 => ?_)
          refine pw_lstore d157_29 m157 rfl rfl ?_
          refine pw_lload d157_31 rfl ?_
          refine pw_lstore d157_33 m157 rfl rfl ?_
          refine pw_lload d157_35 rfl ?_
          refine pw_lstore d157_37 m157 rfl rfl ?_
          refine pw_iinc d157_39 m157 rfl rfl rfl ?_
          refine pw_goto d157_42 rfl ?_
          exact ih9 (xL6_9) (z28) ((xL8_9 + 1)) _ _ _ _ _ _ _ _ (by omega) (by omega) (by omega) (by omega)
  refine pw_lload_n d157_0 rfl ?_
  refine pw_lstore d157_1 m157 rfl rfl ?_
  refine pw_lload_n d157_3 rfl ?_
  refine pw_lstore d157_4 m157 rfl rfl ?_
  refine pw_iconst d157_6 ?_
  refine pw_istore d157_7 m157 rfl rfl ?_
  exact L9 _ (x0) (x1) (0) _ _ _ _ _ _ _ _ (by omega) (by omega) (by omega) (pv_mu _)

abbrev Q155 (τ : Nat → Option Nat) (ρ : Nat → Nat → Nat) (h : pv_H) (a0 : Nat) (a1 : Nat) : Option Value → pv_H → Prop := fun r h' => h = h' ∧ ∃ z : Int, r = some (.long (pv_J z)) ∧ (-9223372036854775808) ≤ z ∧ z ≤ 9223372036854775807
set_option maxHeartbeats 4000000 in
set_option maxRecDepth 20000 in
/-- AngleNet$Currents.divisor(LAngleNet$Net;)J -/
theorem ct155 {τ : Nat → Option Nat} {ρ : Nat → Nat → Nat} {K : Nat → Nat} {h : pv_H} {a0 : Nat} {a1 : Nat} (hT : pv_Ty τ ρ h) (hA0 : τ a0 = some 6) (hA1 : τ a1 = some 2) : pv_C K 155 [.ref a0, .ref a1] h (Q155 τ ρ h a0 a1) := by
  refine pw_entry 4 ?_
  show pv_T K 155 0 (pv_fl [some (.ref a0), some (.ref a1), none, none, none, none]) [] h (Q155 τ ρ h a0 a1)
  have L5 : ∀ (nn : Nat) (xL2_5 xL4_5 : Int) (o3_5 o5_5 : Option Value), ((-9223372036854775808) ≤ xL2_5 ∧ xL2_5 ≤ 9223372036854775807) → (0 ≤ xL4_5 ∧ xL4_5 ≤ 10) → 10 - xL4_5 < nn → pv_T K 155 5 (pv_fl [some (.ref a0), some (.ref a1), some (.long (pv_J xL2_5)), o3_5, some (.int (pv_I xL4_5)), o5_5]) [] h (Q155 τ ρ h a0 a1) := by
    intro nn
    induction nn with
    | zero => intro xL2_5 xL4_5 o3_5 o5_5 rL2_5 rL4_5 hm; exfalso; omega
    | succ nn ih5 =>
      intro xL2_5 xL4_5 o3_5 o5_5 rL2_5 rL4_5 hm5
      have L20 : ∀ (nn : Nat) (xL2_20 xL5_20 : Int) (o3_20 : Option Value), ((-9223372036854775808) ≤ xL2_20 ∧ xL2_20 ≤ 9223372036854775807) → (0 ≤ xL4_5 ∧ xL4_5 ≤ 9) → (1 ≤ xL5_20 ∧ xL5_20 ≤ 10) → 10 - xL5_20 < nn → pv_T K 155 20 (pv_fl [some (.ref a0), some (.ref a1), some (.long (pv_J xL2_20)), o3_20, some (.int (pv_I xL4_5)), some (.int (pv_I xL5_20))]) [] h (Q155 τ ρ h a0 a1) := by
        intro nn
        induction nn with
        | zero => intro xL2_20 xL5_20 o3_20 rL2_20 rL4_20 rL5_20 hm; exfalso; omega
        | succ nn ih20 =>
          intro xL2_20 xL5_20 o3_20 rL2_20 rL4_20 rL5_20 hm20
          have J63 : ∀ (xL2_63 : Int) (o3_63 : Option Value), ((-9223372036854775808) ≤ xL2_63 ∧ xL2_63 ≤ 9223372036854775807) → (0 ≤ xL4_5 ∧ xL4_5 ≤ 9) → (1 ≤ xL5_20 ∧ xL5_20 ≤ 9) → pv_T K 155 63 (pv_fl [some (.ref a0), some (.ref a1), some (.long (pv_J xL2_63)), o3_63, some (.int (pv_I xL4_5)), some (.int (pv_I xL5_20))]) [] h (Q155 τ ρ h a0 a1) := by
            intro xL2_63 o3_63 rL2_63 rL4_63 rL5_63
            refine pw_iinc d155_63 m155 rfl rfl rfl ?_
            refine pw_goto d155_66 rfl ?_
            exact ih20 (xL2_63) ((xL5_20 + 1)) _ (by omega) (by omega) (by omega) (by omega)
          refine pw_iload d155_20 rfl ?_
          refine pw_aload_n d155_22 rfl ?_
          refine pw_getI d155_23 g155_40 hT hA1 rfl rfl (fun u23 vu23 => ?_)
          refine pw_icmp_ge d155_26 rfl (by omega) (by omega) (fun c26 => ?_) (fun c26 => ?_)
          · refine pw_iinc d155_69 m155 rfl rfl rfl ?_
            refine pw_goto d155_72 rfl ?_
            exact ih5 (xL2_20) ((xL4_5 + 1)) _ _ (by omega) (by omega) (by omega)
          · refine pw_aload_n d155_29 rfl ?_
            refine pw_iload d155_30 rfl ?_
            refine pw_iload d155_32 rfl ?_
            refine pw_callV2 d155_34 k155_45 hT hA1 rfl rfl rfl (ct47 (τ := τ) (ρ := ρ) hT hA1 (by omega) (by omega)) (fun r34 h34 q34 => ?_)
            obtain ⟨eh34, z34, ez34, lz34, uz34, pz34_0⟩ := q34
            subst eh34
            subst ez34
            refine pw_if_eq d155_37 rfl (by omega) (fun c37 => ?_) (fun c37 => ?_)
            · exact J63 (xL2_20) _ (by omega) (by omega) (by omega)
            · refine pw_lload_n d155_40 rfl ?_
              refine pw_aload_n d155_41 rfl ?_
              refine pw_getR d155_42 g155_9 hT hA0 rfl rfl (fun t42 => ?_)
              have t42 : τ (ρ a0 0) = some 37 := t42
              refine pw_iload d155_45 rfl ?_
              refine pw_lald d155_47 hT t42 rfl rfl (by omega) (by omega) (fun u47 => ?_)
              refine pw_aload_n d155_48 rfl ?_
              refine pw_getR d155_49 g155_9 hT hA0 rfl rfl (fun t49 => ?_)
              have t49 : τ (ρ a0 0) = some 37 := t49
              refine pw_iload d155_52 rfl ?_
              refine pw_lald d155_54 hT t49 rfl rfl (by omega) (by omega) (fun u54 => ?_)
              refine pw_lsub d155_55 ?_
              refine pw_mabs d155_56 k155_59 rfl (fun z56 hz56 ez56 => ?_)
              refine pw_callS2 d155_59 k155_65 rfl rfl (ct157 (τ := τ) (ρ := ρ) (by omega) (by omega)) (fun r59 h59 q59 => ?_)
              obtain ⟨eh59, z59, ez59, lz59, uz59⟩ := q59
              subst eh59
              subst ez59
              refine pw_lstore_n d155_62 m155 rfl rfl ?_
              exact J63 (z59) _ (by omega) (by omega) (by omega)
      refine pw_iload d155_5 rfl ?_
      refine pw_aload_n d155_7 rfl ?_
      refine pw_getI d155_8 g155_40 hT hA1 rfl rfl (fun u8 vu8 => ?_)
      refine pw_icmp_ge d155_11 rfl (by omega) (by omega) (fun c11 => ?_) (fun c11 => ?_)
      · refine pw_lload_n d155_75 rfl ?_
        exact pw_lreturn d155_76 tt155 ⟨rfl, xL2_5, rfl, (by omega), (by omega)⟩
      · refine pw_iload d155_14 rfl ?_
        refine pw_iconst d155_16 ?_
        refine pw_iadd d155_17 ?_
        refine pw_istore d155_18 m155 rfl rfl ?_
        exact L20 _ (xL2_5) ((xL4_5 + 1)) _ (by omega) (by omega) (by omega) (pv_mu _)
  refine pw_lconst (z := 0) d155_0 (by decide) ?_
  refine pw_lstore_n d155_1 m155 rfl rfl ?_
  refine pw_iconst d155_2 ?_
  refine pw_istore d155_3 m155 rfl rfl ?_
  exact L5 _ (0) (0) _ _ (by omega) (by omega) (pv_mu _)

abbrev Q158 (τ : Nat → Option Nat) (ρ : Nat → Nat → Nat) (h : pv_H) (a0 : Nat) (a1 : Nat) : Option Value → pv_H → Prop := fun r h' => h = h' ∧ ∃ z : Int, r = some (.int (pv_I z)) ∧ (-2147483648) ≤ z ∧ z ≤ 2147483647
set_option maxHeartbeats 4000000 in
set_option maxRecDepth 20000 in
/-- AngleNet$Currents.idleSides(LAngleNet$Net;)I -/
theorem ct158 {τ : Nat → Option Nat} {ρ : Nat → Nat → Nat} {K : Nat → Nat} {h : pv_H} {a0 : Nat} {a1 : Nat} (hT : pv_Ty τ ρ h) (hA0 : τ a0 = some 6) (hA1 : τ a1 = some 2) : pv_C K 158 [.ref a0, .ref a1] h (Q158 τ ρ h a0 a1) := by
  refine pw_entry 3 ?_
  show pv_T K 158 0 (pv_fl [some (.ref a0), some (.ref a1), none, none, none]) [] h (Q158 τ ρ h a0 a1)
  have L4 : ∀ (nn : Nat) (xL2_4 xL3_4 : Int) (o4_4 : Option Value), ((-2147483648) ≤ xL2_4 ∧ xL2_4 ≤ 2147483647) → (0 ≤ xL3_4 ∧ xL3_4 ≤ 10) → 10 - xL3_4 < nn → pv_T K 158 4 (pv_fl [some (.ref a0), some (.ref a1), some (.int (pv_I xL2_4)), some (.int (pv_I xL3_4)), o4_4]) [] h (Q158 τ ρ h a0 a1) := by
    intro nn
    induction nn with
    | zero => intro xL2_4 xL3_4 o4_4 rL2_4 rL3_4 hm; exfalso; omega
    | succ nn ih4 =>
      intro xL2_4 xL3_4 o4_4 rL2_4 rL3_4 hm4
      have L17 : ∀ (nn : Nat) (xL2_17 xL4_17 : Int), ((-2147483648) ≤ xL2_17 ∧ xL2_17 ≤ 2147483647) → (0 ≤ xL3_4 ∧ xL3_4 ≤ 9) → (1 ≤ xL4_17 ∧ xL4_17 ≤ 10) → 10 - xL4_17 < nn → pv_T K 158 17 (pv_fl [some (.ref a0), some (.ref a1), some (.int (pv_I xL2_17)), some (.int (pv_I xL3_4)), some (.int (pv_I xL4_17))]) [] h (Q158 τ ρ h a0 a1) := by
        intro nn
        induction nn with
        | zero => intro xL2_17 xL4_17 rL2_17 rL3_17 rL4_17 hm; exfalso; omega
        | succ nn ih17 =>
          intro xL2_17 xL4_17 rL2_17 rL3_17 rL4_17 hm17
          have J59 : ∀ (xS0_59 xS1_59 : Int) (o2_59 : Option Value), (0 ≤ xL3_4 ∧ xL3_4 ≤ 9) → (1 ≤ xL4_17 ∧ xL4_17 ≤ 9) → (0 ≤ xS0_59 ∧ xS0_59 ≤ 1) → ((-2147483648) ≤ xS1_59 ∧ xS1_59 ≤ 2147483647) → pv_T K 158 59 (pv_fl [some (.ref a0), some (.ref a1), o2_59, some (.int (pv_I xL3_4)), some (.int (pv_I xL4_17))]) [.int (pv_I xS0_59), .int (pv_I xS1_59)] h (Q158 τ ρ h a0 a1) := by
            intro xS0_59 xS1_59 o2_59 rL3_59 rL4_59 rS0_59 rS1_59
            refine pw_iadd d158_59 ?_
            refine pw_any (fun z60 hz60 ez60 => ?_)
            refine pw_istore_n d158_60 m158 rfl rfl ?_
            refine pw_iinc d158_61 m158 rfl rfl rfl ?_
            refine pw_goto d158_64 rfl ?_
            exact ih17 (z60) ((xL4_17 + 1)) (by omega) (by omega) (by omega) (by omega)
          have J58 : ∀ (xS0_58 : Int) (o2_58 : Option Value), (0 ≤ xL3_4 ∧ xL3_4 ≤ 9) → (1 ≤ xL4_17 ∧ xL4_17 ≤ 9) → ((-2147483648) ≤ xS0_58 ∧ xS0_58 ≤ 2147483647) → pv_T K 158 58 (pv_fl [some (.ref a0), some (.ref a1), o2_58, some (.int (pv_I xL3_4)), some (.int (pv_I xL4_17))]) [.int (pv_I xS0_58)] h (Q158 τ ρ h a0 a1) := by
            intro xS0_58 o2_58 rL3_58 rL4_58 rS0_58
            refine pw_iconst d158_58 ?_
            exact J59 (0) (xS0_58) _ (by omega) (by omega) (by omega) (by omega)
          refine pw_iload d158_17 rfl ?_
          refine pw_aload_n d158_19 rfl ?_
          refine pw_getI d158_20 g158_40 hT hA1 rfl rfl (fun u20 vu20 => ?_)
          refine pw_icmp_ge d158_23 rfl (by omega) (by omega) (fun c23 => ?_) (fun c23 => ?_)
          · refine pw_iinc d158_67 m158 rfl rfl rfl ?_
            refine pw_goto d158_70 rfl ?_
            exact ih4 (xL2_17) ((xL3_4 + 1)) _ (by omega) (by omega) (by omega)
          · refine pw_iload_n d158_26 rfl ?_
            refine pw_aload_n d158_27 rfl ?_
            refine pw_iload_n d158_28 rfl ?_
            refine pw_iload d158_29 rfl ?_
            refine pw_callV2 d158_31 k158_45 hT hA1 rfl rfl rfl (ct47 (τ := τ) (ρ := ρ) hT hA1 (by omega) (by omega)) (fun r31 h31 q31 => ?_)
            obtain ⟨eh31, z31, ez31, lz31, uz31, pz31_0⟩ := q31
            subst eh31
            subst ez31
            refine pw_if_eq d158_34 rfl (by omega) (fun c34 => ?_) (fun c34 => ?_)
            · exact J58 (xL2_17) _ (by omega) (by omega) (by omega)
            · refine pw_aload_n d158_37 rfl ?_
              refine pw_getR d158_38 g158_9 hT hA0 rfl rfl (fun t38 => ?_)
              have t38 : τ (ρ a0 0) = some 37 := t38
              refine pw_iload_n d158_41 rfl ?_
              refine pw_lald d158_42 hT t38 rfl rfl (by omega) (by omega) (fun u42 => ?_)
              refine pw_aload_n d158_43 rfl ?_
              refine pw_getR d158_44 g158_9 hT hA0 rfl rfl (fun t44 => ?_)
              have t44 : τ (ρ a0 0) = some 37 := t44
              refine pw_iload d158_47 rfl ?_
              refine pw_lald d158_49 hT t44 rfl rfl (by omega) (by omega) (fun u49 => ?_)
              refine pw_lcmp d158_50 (by omega) (by omega) (fun z50 ez50 => ?_)
              refine pw_if_ne d158_51 rfl (by omega) (fun c51 => ?_) (fun c51 => ?_)
              · exact J58 (xL2_17) _ (by omega) (by omega) (by omega)
              · refine pw_iconst d158_54 ?_
                refine pw_goto d158_55 rfl ?_
                exact J59 (1) (xL2_17) _ (by omega) (by omega) (by omega) (by omega)
      refine pw_iload_n d158_4 rfl ?_
      refine pw_aload_n d158_5 rfl ?_
      refine pw_getI d158_6 g158_40 hT hA1 rfl rfl (fun u6 vu6 => ?_)
      refine pw_icmp_ge d158_9 rfl (by omega) (by omega) (fun c9 => ?_) (fun c9 => ?_)
      · refine pw_iload_n d158_73 rfl ?_
        exact pw_ireturn d158_74 tt158 ⟨rfl, xL2_4, rfl, (by omega), (by omega)⟩
      · refine pw_iload_n d158_12 rfl ?_
        refine pw_iconst d158_13 ?_
        refine pw_iadd d158_14 ?_
        refine pw_istore d158_15 m158 rfl rfl ?_
        exact L17 _ (xL2_4) ((xL3_4 + 1)) (by omega) (by omega) (by omega) (pv_mu _)
  refine pw_iconst d158_0 ?_
  refine pw_istore_n d158_1 m158 rfl rfl ?_
  refine pw_iconst d158_2 ?_
  refine pw_istore_n d158_3 m158 rfl rfl ?_
  exact L4 _ (0) (0) _ (by omega) (by omega) (pv_mu _)

abbrev Q161 (τ : Nat → Option Nat) (ρ : Nat → Nat → Nat) (h : pv_H) (a0 : Nat) (x1 : Int) : Option Value → pv_H → Prop := fun r h' => h = h' ∧ ∃ z : Int, r = some (.int (pv_I z)) ∧ (-1) ≤ z ∧ z ≤ 17321
set_option maxHeartbeats 4000000 in
set_option maxRecDepth 20000 in
/-- AngleNet$Circles.root(LAngleNet$Net;I)I -/
theorem ct161 {τ : Nat → Option Nat} {ρ : Nat → Nat → Nat} {K : Nat → Nat} {h : pv_H} {a0 : Nat} {x1 : Int} (hT : pv_Ty τ ρ h) (hA0 : τ a0 = some 2) (hX1 : 0 ≤ x1 ∧ x1 ≤ 17) : pv_C K 161 [.ref a0, .int (pv_I x1)] h (Q161 τ ρ h a0 x1) := by
  refine pw_entry 8 ?_
  show pv_T K 161 0 (pv_fl [some (.ref a0), some (.int (pv_I x1)), none, none, none, none, none, none, none, none]) [] h (Q161 τ ρ h a0 x1)
  have J143 : ∀ (xL5_143 xL6_143 : Int) (o0_143 o1_143 o2_143 o3_143 o4_143 o7_143 o8_143 o9_143 : Option Value), ((-2147483648) ≤ xL5_143 ∧ xL5_143 ≤ 2147483647) → (0 ≤ xL6_143 ∧ xL6_143 ≤ 17321) → pv_T K 161 143 (pv_fl [o0_143, o1_143, o2_143, o3_143, o4_143, some (.int (pv_I xL5_143)), some (.int (pv_I xL6_143)), o7_143, o8_143, o9_143]) [] h (Q161 τ ρ h a0 x1) := by
    intro xL5_143 xL6_143 o0_143 o1_143 o2_143 o3_143 o4_143 o7_143 o8_143 o9_143 rL5_143 rL6_143
    refine pw_iload d161_143 rfl ?_
    refine pw_iload d161_145 rfl ?_
    refine pw_imul d161_147 ?_
    refine pw_any (fun z147 hz147 ez147 => ?_)
    refine pw_iload d161_148 rfl ?_
    refine pw_icmp_ne d161_150 rfl (by omega) (by omega) (fun c150 => ?_) (fun c150 => ?_)
    · refine pw_iconst d161_158 ?_
      exact pw_ireturn d161_159 tt161 ⟨rfl, (-1), rfl, (by omega), (by omega)⟩
    · refine pw_iload d161_153 rfl ?_
      refine pw_goto d161_155 rfl ?_
      exact pw_ireturn d161_159 tt161 ⟨rfl, xL6_143, rfl, (by omega), (by omega)⟩
  have L91 : ∀ (nn : Nat) (xL5_91 xL6_91 xL7_91 xL8_91 : Int) (o0_91 o1_91 o2_91 o3_91 o4_91 o9_91 : Option Value), ((-2147483648) ≤ xL5_91 ∧ xL5_91 ≤ 2147483647) → (0 ≤ xL6_91 ∧ xL6_91 ≤ 17321) → (0 ≤ xL7_91 ∧ xL7_91 ≤ 17321) → (0 ≤ xL8_91 ∧ xL8_91 ≤ 32) → 32 - xL8_91 < nn → pv_T K 161 91 (pv_fl [o0_91, o1_91, o2_91, o3_91, o4_91, some (.int (pv_I xL5_91)), some (.int (pv_I xL6_91)), some (.int (pv_I xL7_91)), some (.int (pv_I xL8_91)), o9_91]) [] h (Q161 τ ρ h a0 x1) := by
    intro nn
    induction nn with
    | zero => intro xL5_91 xL6_91 xL7_91 xL8_91 o0_91 o1_91 o2_91 o3_91 o4_91 o9_91 rL5_91 rL6_91 rL7_91 rL8_91 hm; exfalso; omega
    | succ nn ih91 =>
      intro xL5_91 xL6_91 xL7_91 xL8_91 o0_91 o1_91 o2_91 o3_91 o4_91 o9_91 rL5_91 rL6_91 rL7_91 rL8_91 hm91
      have J137 : ∀ (xL6_137 xL7_137 : Int) (o0_137 o1_137 o2_137 o3_137 o4_137 o9_137 : Option Value), ((-2147483648) ≤ xL5_91 ∧ xL5_91 ≤ 2147483647) → (0 ≤ xL6_137 ∧ xL6_137 ≤ 17321) → (0 ≤ xL7_137 ∧ xL7_137 ≤ 17321) → (0 ≤ xL8_91 ∧ xL8_91 ≤ 31) → pv_T K 161 137 (pv_fl [o0_137, o1_137, o2_137, o3_137, o4_137, some (.int (pv_I xL5_91)), some (.int (pv_I xL6_137)), some (.int (pv_I xL7_137)), some (.int (pv_I xL8_91)), o9_137]) [] h (Q161 τ ρ h a0 x1) := by
        intro xL6_137 xL7_137 o0_137 o1_137 o2_137 o3_137 o4_137 o9_137 rL5_137 rL6_137 rL7_137 rL8_137
        refine pw_iinc d161_137 m161 rfl rfl rfl ?_
        refine pw_goto d161_140 rfl ?_
        exact ih91 (xL5_91) (xL6_137) (xL7_137) ((xL8_91 + 1)) _ _ _ _ _ _ (by omega) (by omega) (by omega) (by omega) (by omega)
      refine pw_iload d161_91 rfl ?_
      refine pw_bipush d161_93 (by decide) ?_
      refine pw_icmp_ge d161_95 rfl (by omega) (by omega) (fun c95 => ?_) (fun c95 => ?_)
      · exact J143 (xL5_91) (xL6_91) _ _ _ _ _ _ _ _ (by omega) (by omega)
      · refine pw_iload d161_98 rfl ?_
        refine pw_iload d161_100 rfl ?_
        refine pw_icmp_ge d161_102 rfl (by omega) (by omega) (fun c102 => ?_) (fun c102 => ?_)
        · exact J143 (xL5_91) (xL6_91) _ _ _ _ _ _ _ _ (by omega) (by omega)
        · refine pw_iload d161_105 rfl ?_
          refine pw_iload d161_107 rfl ?_
          refine pw_iadd d161_109 ?_
          refine pw_iconst d161_110 ?_
          refine pw_idiv d161_111 (by omega) (by omega) (by omega) (by omega) ?_
          refine pw_istore d161_112 m161 rfl rfl ?_
          refine pw_iload d161_114 rfl ?_
          refine pw_iload d161_116 rfl ?_
          refine pw_imul d161_118 ?_
          refine pw_any (fun z118 hz118 ez118 => ?_)
          refine pw_iload d161_119 rfl ?_
          refine pw_icmp_ge d161_121 rfl (by omega) (by omega) (fun c121 => ?_) (fun c121 => ?_)
          · refine pw_iload d161_133 rfl ?_
            refine pw_istore d161_135 m161 rfl rfl ?_
            exact J137 (xL6_91) (((xL6_91 + xL7_91) / 2)) _ _ _ _ _ _ (by omega) (by omega) (by omega) (by omega)
          · refine pw_iload d161_124 rfl ?_
            refine pw_iconst d161_126 ?_
            refine pw_iadd d161_127 ?_
            refine pw_istore d161_128 m161 rfl rfl ?_
            refine pw_goto d161_130 rfl ?_
            exact J137 ((((xL6_91 + xL7_91) / 2) + 1)) (xL7_91) _ _ _ _ _ _ (by omega) (by omega) (by omega) (by omega)
  refine pw_aload_n d161_0 rfl ?_
  refine pw_getR d161_1 g161_9 hT hA0 rfl rfl (fun t1 => ?_)
  have t1 : τ (ρ a0 10) = some 25 := t1
  refine pw_aload_n d161_4 rfl ?_
  refine pw_getR d161_5 g161_15 hT hA0 rfl rfl (fun t5 => ?_)
  have t5 : τ (ρ a0 5) = some 20 := t5
  refine pw_iconst d161_8 ?_
  refine pw_iload_n d161_9 rfl ?_
  refine pw_imul d161_10 ?_
  refine pw_iald d161_11 hT t5 rfl rfl (by omega) (by omega) (fun u11 vu11 => ?_)
  refine pw_iald d161_12 hT t1 rfl rfl (by omega) (by omega) (fun u12 vu12 => ?_)
  refine pw_istore_n d161_13 m161 rfl rfl ?_
  refine pw_aload_n d161_14 rfl ?_
  refine pw_getR d161_15 g161_9 hT hA0 rfl rfl (fun t15 => ?_)
  have t15 : τ (ρ a0 10) = some 25 := t15
  refine pw_aload_n d161_18 rfl ?_
  refine pw_getR d161_19 g161_15 hT hA0 rfl rfl (fun t19 => ?_)
  have t19 : τ (ρ a0 5) = some 20 := t19
  refine pw_iconst d161_22 ?_
  refine pw_iload_n d161_23 rfl ?_
  refine pw_imul d161_24 ?_
  refine pw_iconst d161_25 ?_
  refine pw_iadd d161_26 ?_
  refine pw_iald d161_27 hT t19 rfl rfl (by omega) (by omega) (fun u27 vu27 => ?_)
  refine pw_iald d161_28 hT t15 rfl rfl (by omega) (by omega) (fun u28 vu28 => ?_)
  refine pw_istore_n d161_29 m161 rfl rfl ?_
  refine pw_aload_n d161_30 rfl ?_
  refine pw_getR d161_31 g161_9 hT hA0 rfl rfl (fun t31 => ?_)
  have t31 : τ (ρ a0 10) = some 25 := t31
  refine pw_aload_n d161_34 rfl ?_
  refine pw_getR d161_35 g161_15 hT hA0 rfl rfl (fun t35 => ?_)
  have t35 : τ (ρ a0 5) = some 20 := t35
  refine pw_iconst d161_38 ?_
  refine pw_iload_n d161_39 rfl ?_
  refine pw_imul d161_40 ?_
  refine pw_iconst d161_41 ?_
  refine pw_iadd d161_42 ?_
  refine pw_iald d161_43 hT t35 rfl rfl (by omega) (by omega) (fun u43 vu43 => ?_)
  refine pw_iald d161_44 hT t31 rfl rfl (by omega) (by omega) (fun u44 vu44 => ?_)
  refine pw_istore d161_45 m161 rfl rfl ?_
  refine pw_iload_n d161_47 rfl ?_
  refine pw_iconst d161_48 ?_
  refine pw_icmp_eq d161_49 rfl (by omega) (by omega) (fun c49 => ?_) (fun c49 => ?_)
  · refine pw_iconst d161_63 ?_
    exact pw_ireturn d161_64 tt161 ⟨rfl, (-1), rfl, (by omega), (by omega)⟩
  · refine pw_iload_n d161_52 rfl ?_
    refine pw_iconst d161_53 ?_
    refine pw_icmp_eq d161_54 rfl (by omega) (by omega) (fun c54 => ?_) (fun c54 => ?_)
    · refine pw_iconst d161_63 ?_
      exact pw_ireturn d161_64 tt161 ⟨rfl, (-1), rfl, (by omega), (by omega)⟩
    · refine pw_iload d161_57 rfl ?_
      refine pw_iconst d161_59 ?_
      refine pw_icmp_ne d161_60 rfl (by omega) (by omega) (fun c60 => ?_) (fun c60 => ?_)
      · refine pw_iload_n d161_65 rfl ?_
        refine pw_iload_n d161_66 rfl ?_
        refine pw_imul d161_67 ?_
        refine pw_any (fun z67 hz67 ez67 => ?_)
        refine pw_iload_n d161_68 rfl ?_
        refine pw_iload d161_69 rfl ?_
        refine pw_imul d161_71 ?_
        refine pw_any (fun z71 hz71 ez71 => ?_)
        refine pw_iadd d161_72 ?_
        refine pw_iload d161_73 rfl ?_
        refine pw_iload_n d161_75 rfl ?_
        refine pw_imul d161_76 ?_
        refine pw_any (fun z76 hz76 ez76 => ?_)
        refine pw_iadd d161_77 ?_
        refine pw_any (fun z78 hz78 ez78 => ?_)
        refine pw_istore d161_78 m161 rfl rfl ?_
        refine pw_iconst d161_80 ?_
        refine pw_istore d161_81 m161 rfl rfl ?_
        refine pw_sipush d161_83 (by decide) ?_
        refine pw_istore d161_86 m161 rfl rfl ?_
        refine pw_iconst d161_88 ?_
        refine pw_istore d161_89 m161 rfl rfl ?_
        exact L91 _ (z78) (0) (17321) (0) _ _ _ _ _ _ (by omega) (by omega) (by omega) (by omega) (pv_mu _)
      · refine pw_iconst d161_63 ?_
        exact pw_ireturn d161_64 tt161 ⟨rfl, (-1), rfl, (by omega), (by omega)⟩

abbrev Q162 (τ : Nat → Option Nat) (ρ : Nat → Nat → Nat) (h : pv_H) (a0 : Nat) (x1 : Int) : Option Value → pv_H → Prop := fun r h' => h = h' ∧ ∃ z : Int, r = some (.int (pv_I z)) ∧ (-3) ≤ z ∧ z ≤ 29997
set_option maxHeartbeats 4000000 in
set_option maxRecDepth 20000 in
/-- AngleNet$Circles.together(LAngleNet$Net;I)I -/
theorem ct162 {τ : Nat → Option Nat} {ρ : Nat → Nat → Nat} {K : Nat → Nat} {h : pv_H} {a0 : Nat} {x1 : Int} (hT : pv_Ty τ ρ h) (hA0 : τ a0 = some 2) (hX1 : 0 ≤ x1 ∧ x1 ≤ 17) : pv_C K 162 [.ref a0, .int (pv_I x1)] h (Q162 τ ρ h a0 x1) := by
  refine pw_entry 0 ?_
  show pv_T K 162 0 (pv_fl [some (.ref a0), some (.int (pv_I x1))]) [] h (Q162 τ ρ h a0 x1)
  refine pw_aload_n d162_0 rfl ?_
  refine pw_getR d162_1 g162_9 hT hA0 rfl rfl (fun t1 => ?_)
  have t1 : τ (ρ a0 10) = some 25 := t1
  refine pw_aload_n d162_4 rfl ?_
  refine pw_getR d162_5 g162_15 hT hA0 rfl rfl (fun t5 => ?_)
  have t5 : τ (ρ a0 5) = some 20 := t5
  refine pw_iconst d162_8 ?_
  refine pw_iload_n d162_9 rfl ?_
  refine pw_imul d162_10 ?_
  refine pw_iald d162_11 hT t5 rfl rfl (by omega) (by omega) (fun u11 vu11 => ?_)
  refine pw_iald d162_12 hT t1 rfl rfl (by omega) (by omega) (fun u12 vu12 => ?_)
  refine pw_aload_n d162_13 rfl ?_
  refine pw_getR d162_14 g162_9 hT hA0 rfl rfl (fun t14 => ?_)
  have t14 : τ (ρ a0 10) = some 25 := t14
  refine pw_aload_n d162_17 rfl ?_
  refine pw_getR d162_18 g162_15 hT hA0 rfl rfl (fun t18 => ?_)
  have t18 : τ (ρ a0 5) = some 20 := t18
  refine pw_iconst d162_21 ?_
  refine pw_iload_n d162_22 rfl ?_
  refine pw_imul d162_23 ?_
  refine pw_iconst d162_24 ?_
  refine pw_iadd d162_25 ?_
  refine pw_iald d162_26 hT t18 rfl rfl (by omega) (by omega) (fun u26 vu26 => ?_)
  refine pw_iald d162_27 hT t14 rfl rfl (by omega) (by omega) (fun u27 vu27 => ?_)
  refine pw_iadd d162_28 ?_
  refine pw_aload_n d162_29 rfl ?_
  refine pw_getR d162_30 g162_9 hT hA0 rfl rfl (fun t30 => ?_)
  have t30 : τ (ρ a0 10) = some 25 := t30
  refine pw_aload_n d162_33 rfl ?_
  refine pw_getR d162_34 g162_15 hT hA0 rfl rfl (fun t34 => ?_)
  have t34 : τ (ρ a0 5) = some 20 := t34
  refine pw_iconst d162_37 ?_
  refine pw_iload_n d162_38 rfl ?_
  refine pw_imul d162_39 ?_
  refine pw_iconst d162_40 ?_
  refine pw_iadd d162_41 ?_
  refine pw_iald d162_42 hT t34 rfl rfl (by omega) (by omega) (fun u42 vu42 => ?_)
  refine pw_iald d162_43 hT t30 rfl rfl (by omega) (by omega) (fun u43 vu43 => ?_)
  refine pw_iadd d162_44 ?_
  refine pw_name (x := (((pv_aI h (ρ a0 10) ((pv_aI h (ρ a0 5) ((3 * x1)).toNat)).toNat) + (pv_aI h (ρ a0 10) ((pv_aI h (ρ a0 5) (((3 * x1) + 1)).toNat)).toNat)) + (pv_aI h (ρ a0 10) ((pv_aI h (ρ a0 5) (((3 * x1) + 2)).toNat)).toNat))) (fun z44 ez44 => ?_)
  have hz44 : (-3) ≤ z44 ∧ z44 ≤ 29997 := by subst ez44; omega
  exact pw_ireturn d162_45 tt162 ⟨rfl, z44, rfl, (by omega), (by omega)⟩

abbrev Q177 (τ : Nat → Option Nat) (ρ : Nat → Nat → Nat) (h : pv_H) (a0 : Nat) (x1 : Int) (x2 : Int) : Option Value → pv_H → Prop := fun r h' => pv_Ty τ ρ h' ∧ pv_Fr τ [192, 193, 194, 2047] h h' ∧ r = none
set_option maxHeartbeats 4000000 in
set_option maxRecDepth 20000 in
/-- AngleNet$Row.begin(II)V -/
theorem ct177 {τ : Nat → Option Nat} {ρ : Nat → Nat → Nat} {K : Nat → Nat} {h : pv_H} {a0 : Nat} {x1 : Int} {x2 : Int} (hT : pv_Ty τ ρ h) (hA0 : τ a0 = some 3) (hX1 : 0 ≤ x1 ∧ x1 ≤ 3) (hX2 : 0 ≤ x2 ∧ x2 ≤ 60) : pv_C K 177 [.ref a0, .int (pv_I x1), .int (pv_I x2)] h (Q177 τ ρ h a0 x1 x2) := by
  refine pw_entry 0 ?_
  show pv_T K 177 0 (pv_fl [some (.ref a0), some (.int (pv_I x1)), some (.int (pv_I x2))]) [] h (Q177 τ ρ h a0 x1 x2)
  have hF0 : pv_Fr τ [192, 193, 194, 2047] h h := pv_Fr.rf
  refine pw_aload_n d177_0 rfl ?_
  refine pw_iconst d177_1 ?_
  refine pw_putZ d177_2 g177_15 w3_0 hT hA0 rfl rfl rfl (by omega) (by omega) (fun h2 T2 F2 E2 => ?_)
  have f2 := hF0.tr (F2.up (by decide))
  refine pw_aload_n d177_5 rfl ?_
  refine pw_iload_n d177_6 rfl ?_
  refine pw_putI d177_7 g177_19 w3_1 T2 hA0 rfl rfl rfl (by omega) (by omega) (fun h7 T7 F7 E7 => ?_)
  have f7 := f2.tr (F7.up (by decide))
  have q7 := ((F7 a0 3 hA0).1 0 (by decide)).1
  refine pw_aload_n d177_10 rfl ?_
  refine pw_iload_n d177_11 rfl ?_
  refine pw_putI d177_12 g177_23 w3_2 T7 hA0 rfl rfl rfl (by omega) (by omega) (fun h12 T12 F12 E12 => ?_)
  have f12 := f7.tr (F12.up (by decide))
  have q12 := ((F12 a0 3 hA0).1 0 (by decide)).1
  have q12b := ((F12 a0 3 hA0).1 1 (by decide)).1
  refine pw_aload_n d177_15 rfl ?_
  refine pw_getR d177_16 g177_9 T12 hA0 rfl rfl (fun t16 => ?_)
  have t16 : τ (ρ a0 3) = some 31 := t16
  refine pw_lconst (z := 0) d177_19 (by decide) ?_
  refine pw_callS2 d177_20 k177_26 rfl rfl (ct148v31 (τ := τ) (ρ := ρ) T12 t16 (by omega)) (fun r20 h20 q20 => ?_)
  obtain ⟨T20, F20, ez20⟩ := q20
  subst ez20
  have f20 := f12.tr (F20.up (by decide))
  have q20b := ((F20 a0 3 hA0).1 0 (by decide)).1
  have q20c := ((F20 a0 3 hA0).1 1 (by decide)).1
  have q20d := ((F20 a0 3 hA0).1 2 (by decide)).1
  exact pw_return d177_23 tt177 ⟨T20, f20, rfl⟩

abbrev Q179 (τ : Nat → Option Nat) (ρ : Nat → Nat → Nat) (h : pv_H) (a0 : Nat) (x1 : Int) (x2 : Int) : Option Value → pv_H → Prop := fun r h' => pv_Ty τ ρ h' ∧ pv_Fr τ [2047] h h' ∧ r = none
set_option maxHeartbeats 4000000 in
set_option maxRecDepth 20000 in
/-- AngleNet$Row.put(IJ)V -/
theorem ct179 {τ : Nat → Option Nat} {ρ : Nat → Nat → Nat} {K : Nat → Nat} {h : pv_H} {a0 : Nat} {x1 : Int} {x2 : Int} (hT : pv_Ty τ ρ h) (hA0 : τ a0 = some 3) (hX1 : 0 ≤ x1 ∧ x1 ≤ 59) (hX2 : (-9223372036854775808) ≤ x2 ∧ x2 ≤ 9223372036854775807) : pv_C K 179 [.ref a0, .int (pv_I x1), .long (pv_J x2)] h (Q179 τ ρ h a0 x1 x2) := by
  refine pw_entry 0 ?_
  show pv_T K 179 0 (pv_fl [some (.ref a0), some (.int (pv_I x1)), some (.long (pv_J x2)), none]) [] h (Q179 τ ρ h a0 x1 x2)
  have hF0 : pv_Fr τ [2047] h h := pv_Fr.rf
  refine pw_aload_n d179_0 rfl ?_
  refine pw_getI d179_1 g179_19 hT hA0 rfl rfl (fun u1 vu1 => ?_)
  by_cases c4 : (pv_fI h a0 1) < 0 ∨ 2 < (pv_fI h a0 1)
  · refine pw_tabOut d179_4 (by omega) c4 rfl ?_
    refine pw_aload_n d179_70 rfl ?_
    refine pw_getR d179_71 g179_9 hT hA0 rfl rfl (fun t71 => ?_)
    have t71 : τ (ρ a0 3) = some 31 := t71
    refine pw_iload_n d179_74 rfl ?_
    refine pw_lload_n d179_75 rfl ?_
    refine pw_last d179_76 hT t71 rfl rfl rfl (by omega) (by omega) (by omega) (fun h76 T76 F76 E76 => ?_)
    have f76 := hF0.tr (F76.up (by decide))
    have q76 := ((F76 a0 3 hA0).1 1 (by decide)).1
    exact pw_return d179_77 tt179 ⟨T76, f76, rfl⟩
  by_cases c4_0 : (pv_fI h a0 1) = 0
  · refine pw_tabIn (x := (pv_fI h a0 1)) d179_4 (by omega) c4 (by rw [c4_0]; rfl) rfl ?_
    refine pw_aload_n d179_32 rfl ?_
    refine pw_getR d179_33 g179_9 hT hA0 rfl rfl (fun t33 => ?_)
    have t33 : τ (ρ a0 3) = some 31 := t33
    refine pw_iload_n d179_36 rfl ?_
    refine pw_lload_n d179_37 rfl ?_
    refine pw_l2i d179_38 ?_
    refine pw_any (fun z38 hz38 ez38 => ?_)
    refine pw_i2b d179_39 (fun z39 hz39 gz39 ez39 => ?_)
    refine pw_i2l d179_40 (by omega) ?_
    refine pw_last d179_41 hT t33 rfl rfl rfl (by omega) (by omega) (by omega) (fun h41 T41 F41 E41 => ?_)
    have f41 := hF0.tr (F41.up (by decide))
    have q41 := ((F41 a0 3 hA0).1 1 (by decide)).1
    refine pw_goto d179_42 rfl ?_
    exact pw_return d179_77 tt179 ⟨T41, f41, rfl⟩
  by_cases c4_1 : (pv_fI h a0 1) = 1
  · refine pw_tabIn (x := (pv_fI h a0 1)) d179_4 (by omega) c4 (by rw [c4_1]; rfl) rfl ?_
    refine pw_aload_n d179_45 rfl ?_
    refine pw_getR d179_46 g179_9 hT hA0 rfl rfl (fun t46 => ?_)
    have t46 : τ (ρ a0 3) = some 31 := t46
    refine pw_iload_n d179_49 rfl ?_
    refine pw_lload_n d179_50 rfl ?_
    refine pw_l2i d179_51 ?_
    refine pw_any (fun z51 hz51 ez51 => ?_)
    refine pw_i2s d179_52 (fun z52 hz52 ez52 => ?_)
    refine pw_i2l d179_53 (by omega) ?_
    refine pw_last d179_54 hT t46 rfl rfl rfl (by omega) (by omega) (by omega) (fun h54 T54 F54 E54 => ?_)
    have f54 := hF0.tr (F54.up (by decide))
    have q54 := ((F54 a0 3 hA0).1 1 (by decide)).1
    refine pw_goto d179_55 rfl ?_
    exact pw_return d179_77 tt179 ⟨T54, f54, rfl⟩
  by_cases c4_2 : (pv_fI h a0 1) = 2
  · refine pw_tabIn (x := (pv_fI h a0 1)) d179_4 (by omega) c4 (by rw [c4_2]; rfl) rfl ?_
    refine pw_aload_n d179_58 rfl ?_
    refine pw_getR d179_59 g179_9 hT hA0 rfl rfl (fun t59 => ?_)
    have t59 : τ (ρ a0 3) = some 31 := t59
    refine pw_iload_n d179_62 rfl ?_
    refine pw_lload_n d179_63 rfl ?_
    refine pw_l2i d179_64 ?_
    refine pw_any (fun z64 hz64 ez64 => ?_)
    refine pw_i2l d179_65 (by omega) ?_
    refine pw_last d179_66 hT t59 rfl rfl rfl (by omega) (by omega) (by omega) (fun h66 T66 F66 E66 => ?_)
    have f66 := hF0.tr (F66.up (by decide))
    have q66 := ((F66 a0 3 hA0).1 1 (by decide)).1
    refine pw_goto d179_67 rfl ?_
    exact pw_return d179_77 tt179 ⟨T66, f66, rfl⟩
  exfalso; omega

abbrev Q181 (τ : Nat → Option Nat) (ρ : Nat → Nat → Nat) (h : pv_H) (a0 : Nat) (x1 : Int) (x2 : Int) : Option Value → pv_H → Prop := fun r h' => h = h' ∧ ∃ z : Int, r = some (.int (pv_I z)) ∧ 0 ≤ z ∧ z ≤ 1 ∧ (z = 1 → 0 ≤ x1 ∧ 0 ≤ x2 ∧ x1 + x2 ≤ 60)
set_option maxHeartbeats 4000000 in
set_option maxRecDepth 20000 in
/-- AngleNet$Row.reaches(II)Z -/
theorem ct181 {τ : Nat → Option Nat} {ρ : Nat → Nat → Nat} {K : Nat → Nat} {h : pv_H} {a0 : Nat} {x1 : Int} {x2 : Int} (hT : pv_Ty τ ρ h) (hA0 : τ a0 = some 3) (hX1 : (-2147483648) ≤ x1 ∧ x1 ≤ 2147483647) (hX2 : (-2147483648) ≤ x2 ∧ x2 ≤ 2147483647) : pv_C K 181 [.ref a0, .int (pv_I x1), .int (pv_I x2)] h (Q181 τ ρ h a0 x1 x2) := by
  refine pw_entry 0 ?_
  show pv_T K 181 0 (pv_fl [some (.ref a0), some (.int (pv_I x1)), some (.int (pv_I x2))]) [] h (Q181 τ ρ h a0 x1 x2)
  refine pw_iload_n d181_0 rfl ?_
  refine pw_if_lt d181_1 rfl (by omega) (fun c1 => ?_) (fun c1 => ?_)
  · refine pw_iconst d181_26 ?_
    exact pw_zreturn d181_27 tt181 (by omega) ⟨rfl, 0, rfl, (by omega), (by omega), (by omega)⟩
  · refine pw_iload_n d181_4 rfl ?_
    refine pw_if_lt d181_5 rfl (by omega) (fun c5 => ?_) (fun c5 => ?_)
    · refine pw_iconst d181_26 ?_
      exact pw_zreturn d181_27 tt181 (by omega) ⟨rfl, 0, rfl, (by omega), (by omega), (by omega)⟩
    · refine pw_iload_n d181_8 rfl ?_
      refine pw_i2l d181_9 (by omega) ?_
      refine pw_iload_n d181_10 rfl ?_
      refine pw_i2l d181_11 (by omega) ?_
      refine pw_ladd d181_12 ?_
      refine pw_aload_n d181_13 rfl ?_
      refine pw_getI d181_14 g181_23 hT hA0 rfl rfl (fun u14 vu14 => ?_)
      refine pw_i2l d181_17 (by omega) ?_
      refine pw_lcmp d181_18 (by omega) (by omega) (fun z18 ez18 => ?_)
      refine pw_if_gt d181_19 rfl (by omega) (fun c19 => ?_) (fun c19 => ?_)
      · refine pw_iconst d181_26 ?_
        exact pw_zreturn d181_27 tt181 (by omega) ⟨rfl, 0, rfl, (by omega), (by omega), (by omega)⟩
      · refine pw_iconst d181_22 ?_
        refine pw_goto d181_23 rfl ?_
        exact pw_zreturn d181_27 tt181 (by omega) ⟨rfl, 1, rfl, (by omega), (by omega), (by omega)⟩

abbrev Q168 (τ : Nat → Option Nat) (ρ : Nat → Nat → Nat) (h : pv_H) (a0 : Nat) (a1 : Nat) : Option Value → pv_H → Prop := fun r h' => h = h' ∧ ∃ z : Int, r = some (.int (pv_I z)) ∧ (-1) ≤ z ∧ z ≤ 17
set_option maxHeartbeats 4000000 in
set_option maxRecDepth 20000 in
/-- AngleNet$Row.wrongThird(LAngleNet$Net;)I -/
theorem ct168 {τ : Nat → Option Nat} {ρ : Nat → Nat → Nat} {K : Nat → Nat} {h : pv_H} {a0 : Nat} {a1 : Nat} (hT : pv_Ty τ ρ h) (hA0 : τ a0 = some 3) (hA1 : τ a1 = some 2) : pv_C K 168 [.ref a0, .ref a1] h (Q168 τ ρ h a0 a1) := by
  refine pw_entry 7 ?_
  show pv_T K 168 0 (pv_fl [some (.ref a0), some (.ref a1), none, none, none, none, none, none, none]) [] h (Q168 τ ρ h a0 a1)
  have L2 : ∀ (nn : Nat) (xL2_2 : Int) (o3_2 o4_2 o5_2 o6_2 o7_2 o8_2 : Option Value), (0 ≤ xL2_2 ∧ xL2_2 ≤ 18) → 18 - xL2_2 < nn → pv_T K 168 2 (pv_fl [some (.ref a0), some (.ref a1), some (.int (pv_I xL2_2)), o3_2, o4_2, o5_2, o6_2, o7_2, o8_2]) [] h (Q168 τ ρ h a0 a1) := by
    intro nn
    induction nn with
    | zero => intro xL2_2 o3_2 o4_2 o5_2 o6_2 o7_2 o8_2 rL2_2 hm; exfalso; omega
    | succ nn ih2 =>
      intro xL2_2 o3_2 o4_2 o5_2 o6_2 o7_2 o8_2 rL2_2 hm2
      have L18 : ∀ (nn : Nat) (xL3_18 xL5_18 xL6_18 : Int) (o4_18 o7_18 o8_18 : Option Value), (0 ≤ xL2_2 ∧ xL2_2 ≤ 17) → ((-9223372036854775808) ≤ xL3_18 ∧ xL3_18 ≤ 9223372036854775807) → (0 ≤ xL5_18 ∧ xL5_18 ≤ 1) → (0 ≤ xL6_18 ∧ xL6_18 ≤ 3) → 3 - xL6_18 < nn → pv_T K 168 18 (pv_fl [some (.ref a0), some (.ref a1), some (.int (pv_I xL2_2)), some (.long (pv_J xL3_18)), o4_18, some (.int (pv_I xL5_18)), some (.int (pv_I xL6_18)), o7_18, o8_18]) [] h (Q168 τ ρ h a0 a1) := by
        intro nn
        induction nn with
        | zero => intro xL3_18 xL5_18 xL6_18 o4_18 o7_18 o8_18 rL2_18 rL3_18 rL5_18 rL6_18 hm; exfalso; omega
        | succ nn ih18 =>
          intro xL3_18 xL5_18 xL6_18 o4_18 o7_18 o8_18 rL2_18 rL3_18 rL5_18 rL6_18 hm18
          have J65 : ∀ (xL7_65 xS0_65 : Int) (o4_65 o5_65 o8_65 : Option Value), (0 ≤ xL2_2 ∧ xL2_2 ≤ 17) → ((-9223372036854775808) ≤ xL3_18 ∧ xL3_18 ≤ 9223372036854775807) → (0 ≤ xL6_18 ∧ xL6_18 ≤ 2) → ((-9223372036854775808) ≤ xL7_65 ∧ xL7_65 ≤ 9223372036854775807) → (0 ≤ xS0_65 ∧ xS0_65 ≤ 1) → pv_T K 168 65 (pv_fl [some (.ref a0), some (.ref a1), some (.int (pv_I xL2_2)), some (.long (pv_J xL3_18)), o4_65, o5_65, some (.int (pv_I xL6_18)), some (.long (pv_J xL7_65)), o8_65]) [.int (pv_I xS0_65)] h (Q168 τ ρ h a0 a1) := by
            intro xL7_65 xS0_65 o4_65 o5_65 o8_65 rL2_65 rL3_65 rL6_65 rL7_65 rS0_65
            refine pw_istore d168_65 m168 rfl rfl ?_
            refine pw_lload_n d168_67 rfl ?_
            refine pw_lload d168_68 rfl ?_
            refine pw_ladd d168_70 ?_
            refine pw_anyl (fun z71 hz71 ez71 => ?_)
            refine pw_lstore_n d168_71 m168 rfl rfl ?_
            refine pw_iinc d168_72 m168 rfl rfl rfl ?_
            refine pw_goto d168_75 rfl ?_
            exact ih18 (z71) (xS0_65) ((xL6_18 + 1)) _ _ _ (by omega) (by omega) (by omega) (by omega) (by omega)
          have J64 : ∀ (xL7_64 : Int) (o4_64 o5_64 o8_64 : Option Value), (0 ≤ xL2_2 ∧ xL2_2 ≤ 17) → ((-9223372036854775808) ≤ xL3_18 ∧ xL3_18 ≤ 9223372036854775807) → (0 ≤ xL6_18 ∧ xL6_18 ≤ 2) → ((-9223372036854775808) ≤ xL7_64 ∧ xL7_64 ≤ 9223372036854775807) → pv_T K 168 64 (pv_fl [some (.ref a0), some (.ref a1), some (.int (pv_I xL2_2)), some (.long (pv_J xL3_18)), o4_64, o5_64, some (.int (pv_I xL6_18)), some (.long (pv_J xL7_64)), o8_64]) [] h (Q168 τ ρ h a0 a1) := by
            intro xL7_64 o4_64 o5_64 o8_64 rL2_64 rL3_64 rL6_64 rL7_64
            refine pw_iconst d168_64 ?_
            exact J65 (xL7_64) (0) _ _ _ (by omega) (by omega) (by omega) (by omega) (by omega)
          refine pw_iload d168_18 rfl ?_
          refine pw_iconst d168_20 ?_
          refine pw_icmp_ge d168_21 rfl (by omega) (by omega) (fun c21 => ?_) (fun c21 => ?_)
          · refine pw_iload d168_78 rfl ?_
            refine pw_if_eq d168_80 rfl (by omega) (fun c80 => ?_) (fun c80 => ?_)
            · refine pw_iload_n d168_95 rfl ?_
              exact pw_ireturn d168_96 tt168 ⟨rfl, xL2_2, rfl, (by omega), (by omega)⟩
            · refine pw_lload_n d168_83 rfl ?_
              refine pw_aload_n d168_84 rfl ?_
              refine pw_getR d168_85 g168_41 hT hA1 rfl rfl (fun t85 => ?_)
              have t85 : τ (ρ a1 6) = some 21 := t85
              refine pw_iload_n d168_88 rfl ?_
              refine pw_iald d168_89 hT t85 rfl rfl (by omega) (by omega) (fun u89 vu89 => ?_)
              refine pw_i2l d168_90 (by omega) ?_
              refine pw_lcmp d168_91 (by omega) (by omega) (fun z91 ez91 => ?_)
              refine pw_if_eq d168_92 rfl (by omega) (fun c92 => ?_) (fun c92 => ?_)
              · refine pw_iinc d168_97 m168 rfl rfl rfl ?_
                refine pw_goto d168_100 rfl ?_
                exact ih2 ((xL2_2 + 1)) _ _ _ _ _ _ (by omega) (by omega)
              · refine pw_iload_n d168_95 rfl ?_
                exact pw_ireturn d168_96 tt168 ⟨rfl, xL2_2, rfl, (by omega), (by omega)⟩
          · refine pw_aload_n d168_24 rfl ?_
            refine pw_getR d168_25 g168_9 hT hA0 rfl rfl (fun t25 => ?_)
            have t25 : τ (ρ a0 3) = some 31 := t25
            refine pw_iconst d168_28 ?_
            refine pw_iload_n d168_29 rfl ?_
            refine pw_imul d168_30 ?_
            refine pw_iload d168_31 rfl ?_
            refine pw_iadd d168_33 ?_
            refine pw_lald d168_34 hT t25 rfl rfl (by omega) (by omega) (fun u34 => ?_)
            refine pw_lstore d168_35 m168 rfl rfl ?_
            refine pw_iload d168_37 rfl ?_
            refine pw_if_eq d168_39 rfl (by omega) (fun c39 => ?_) (fun c39 => ?_)
            · exact J64 ((pv_aJ h (ρ a0 3) (((3 * xL2_2) + xL6_18)).toNat)) _ _ _ (by omega) (by omega) (by omega) (by omega)
            · refine pw_lload d168_42 rfl ?_
              refine pw_ldc2 (v := pv_J 1000000000000) d168_44 n168_44 ?_
              refine pw_lcmp d168_47 (by omega) (by omega) (fun z47 ez47 => ?_)
              refine pw_if_gt d168_48 rfl (by omega) (fun c48 => ?_) (fun c48 => ?_)
              · exact J64 ((pv_aJ h (ρ a0 3) (((3 * xL2_2) + xL6_18)).toNat)) _ _ _ (by omega) (by omega) (by omega) (by omega)
              · refine pw_lload d168_51 rfl ?_
                refine pw_ldc2 (v := pv_J (-1000000000000)) d168_53 n168_53 ?_
                refine pw_lcmp d168_56 (by omega) (by omega) (fun z56 ez56 => ?_)
                refine pw_if_lt d168_57 rfl (by omega) (fun c57 => ?_) (fun c57 => ?_)
                · exact J64 ((pv_aJ h (ρ a0 3) (((3 * xL2_2) + xL6_18)).toNat)) _ _ _ (by omega) (by omega) (by omega) (by omega)
                · refine pw_iconst d168_60 ?_
                  refine pw_goto d168_61 rfl ?_
                  exact J65 ((pv_aJ h (ρ a0 3) (((3 * xL2_2) + xL6_18)).toNat)) (1) _ _ _ (by omega) (by omega) (by omega) (by omega) (by omega)
      refine pw_iload_n d168_2 rfl ?_
      refine pw_aload_n d168_3 rfl ?_
      refine pw_getI d168_4 g168_32 hT hA1 rfl rfl (fun u4 vu4 => ?_)
      refine pw_icmp_ge d168_7 rfl (by omega) (by omega) (fun c7 => ?_) (fun c7 => ?_)
      · refine pw_iconst d168_103 ?_
        exact pw_ireturn d168_104 tt168 ⟨rfl, (-1), rfl, (by omega), (by omega)⟩
      · refine pw_lconst (z := 0) d168_10 (by decide) ?_
        refine pw_lstore_n d168_11 m168 rfl rfl ?_
        refine pw_iconst d168_12 ?_
        refine pw_istore d168_13 m168 rfl rfl ?_
        refine pw_iconst d168_15 ?_
        refine pw_istore d168_16 m168 rfl rfl ?_
        exact L18 _ (0) (1) (0) _ _ _ (by omega) (by omega) (by omega) (by omega) (pv_mu _)
  refine pw_iconst d168_0 ?_
  refine pw_istore_n d168_1 m168 rfl rfl ?_
  exact L2 _ (0) _ _ _ _ _ _ (by omega) (pv_mu _)

abbrev Q169 (τ : Nat → Option Nat) (ρ : Nat → Nat → Nat) (h : pv_H) (a0 : Nat) (a1 : Nat) : Option Value → pv_H → Prop := fun r h' => h = h' ∧ ∃ z : Int, r = some (.int (pv_I z)) ∧ (-1) ≤ z ∧ z ≤ 9
set_option maxHeartbeats 4000000 in
set_option maxRecDepth 20000 in
/-- AngleNet$Row.wrongPost(LAngleNet$Net;)I -/
theorem ct169 {τ : Nat → Option Nat} {ρ : Nat → Nat → Nat} {K : Nat → Nat} {h : pv_H} {a0 : Nat} {a1 : Nat} (hT : pv_Ty τ ρ h) (hA0 : τ a0 = some 3) (hA1 : τ a1 = some 2) : pv_C K 169 [.ref a0, .ref a1] h (Q169 τ ρ h a0 a1) := by
  refine pw_entry 4 ?_
  show pv_T K 169 0 (pv_fl [some (.ref a0), some (.ref a1), none, none, none, none]) [] h (Q169 τ ρ h a0 a1)
  have L2 : ∀ (nn : Nat) (xL2_2 : Int) (o3_2 o4_2 o5_2 : Option Value), (0 ≤ xL2_2 ∧ xL2_2 ≤ 10) → 10 - xL2_2 < nn → pv_T K 169 2 (pv_fl [some (.ref a0), some (.ref a1), some (.int (pv_I xL2_2)), o3_2, o4_2, o5_2]) [] h (Q169 τ ρ h a0 a1) := by
    intro nn
    induction nn with
    | zero => intro xL2_2 o3_2 o4_2 o5_2 rL2_2 hm; exfalso; omega
    | succ nn ih2 =>
      intro xL2_2 o3_2 o4_2 o5_2 rL2_2 hm2
      have J81 : ∀ (o3_81 o4_81 o5_81 : Option Value), (0 ≤ xL2_2 ∧ xL2_2 ≤ 9) → pv_T K 169 81 (pv_fl [some (.ref a0), some (.ref a1), some (.int (pv_I xL2_2)), o3_81, o4_81, o5_81]) [] h (Q169 τ ρ h a0 a1) := by
        intro o3_81 o4_81 o5_81 rL2_81
        refine pw_iinc d169_81 m169 rfl rfl rfl ?_
        refine pw_goto d169_84 rfl ?_
        exact ih2 ((xL2_2 + 1)) _ _ _ (by omega) (by omega)
      have L15 : ∀ (nn : Nat) (xL3_15 xL5_15 : Int) (o4_15 : Option Value), (0 ≤ xL2_2 ∧ xL2_2 ≤ 9) → ((-9223372036854775808) ≤ xL3_15 ∧ xL3_15 ≤ 9223372036854775807) → (0 ≤ xL5_15 ∧ xL5_15 ≤ 54) → 54 - xL5_15 < nn → pv_T K 169 15 (pv_fl [some (.ref a0), some (.ref a1), some (.int (pv_I xL2_2)), some (.long (pv_J xL3_15)), o4_15, some (.int (pv_I xL5_15))]) [] h (Q169 τ ρ h a0 a1) := by
        intro nn
        induction nn with
        | zero => intro xL3_15 xL5_15 o4_15 rL2_15 rL3_15 rL5_15 hm; exfalso; omega
        | succ nn ih15 =>
          intro xL3_15 xL5_15 o4_15 rL2_15 rL3_15 rL5_15 hm15
          have J49 : ∀ (xS0_49 : Int) (o3_49 o4_49 : Option Value), (0 ≤ xL2_2 ∧ xL2_2 ≤ 9) → (0 ≤ xL5_15 ∧ xL5_15 ≤ 53) → ((-9223372036854775808) ≤ xS0_49 ∧ xS0_49 ≤ 9223372036854775807) → ((-9223372036854775808) ≤ xL3_15 ∧ xL3_15 ≤ 9223372036854775807) → pv_T K 169 49 (pv_fl [some (.ref a0), some (.ref a1), some (.int (pv_I xL2_2)), o3_49, o4_49, some (.int (pv_I xL5_15))]) [.long (pv_J xS0_49), .long (pv_J xL3_15)] h (Q169 τ ρ h a0 a1) := by
            intro xS0_49 o3_49 o4_49 rL2_49 rL5_49 rS0_49 rS1_49
            refine pw_ladd d169_49 ?_
            refine pw_anyl (fun z50 hz50 ez50 => ?_)
            refine pw_lstore_n d169_50 m169 rfl rfl ?_
            refine pw_iinc d169_51 m169 rfl rfl rfl ?_
            refine pw_goto d169_54 rfl ?_
            exact ih15 (z50) ((xL5_15 + 1)) _ (by omega) (by omega) (by omega) (by omega)
          refine pw_iload d169_15 rfl ?_
          refine pw_iconst d169_17 ?_
          refine pw_aload_n d169_18 rfl ?_
          refine pw_getI d169_19 g169_32 hT hA1 rfl rfl (fun u19 vu19 => ?_)
          refine pw_imul d169_22 ?_
          refine pw_icmp_ge d169_23 rfl (by omega) (by omega) (fun c23 => ?_) (fun c23 => ?_)
          · refine pw_aload_n d169_57 rfl ?_
            refine pw_getR d169_58 g169_51 hT hA1 rfl rfl (fun t58 => ?_)
            have t58 : τ (ρ a1 7) = some 22 := t58
            refine pw_iload_n d169_61 rfl ?_
            refine pw_iald d169_62 hT t58 rfl rfl (by omega) (by omega) (fun u62 vu62 => ?_)
            refine pw_iconst d169_63 ?_
            refine pw_icmp_eq d169_64 rfl (by omega) (by omega) (fun c64 => ?_) (fun c64 => ?_)
            · exact J81 _ _ _ (by omega)
            · refine pw_lload_n d169_67 rfl ?_
              refine pw_aload_n d169_68 rfl ?_
              refine pw_getR d169_69 g169_51 hT hA1 rfl rfl (fun t69 => ?_)
              have t69 : τ (ρ a1 7) = some 22 := t69
              refine pw_iload_n d169_72 rfl ?_
              refine pw_iald d169_73 hT t69 rfl rfl (by omega) (by omega) (fun u73 vu73 => ?_)
              refine pw_i2l d169_74 (by omega) ?_
              refine pw_lcmp d169_75 (by omega) (by omega) (fun z75 ez75 => ?_)
              refine pw_if_eq d169_76 rfl (by omega) (fun c76 => ?_) (fun c76 => ?_)
              · exact J81 _ _ _ (by omega)
              · refine pw_iload_n d169_79 rfl ?_
                exact pw_ireturn d169_80 tt169 ⟨rfl, xL2_2, rfl, (by omega), (by omega)⟩
          · refine pw_lload_n d169_26 rfl ?_
            refine pw_aload_n d169_27 rfl ?_
            refine pw_getR d169_28 g169_48 hT hA1 rfl rfl (fun t28 => ?_)
            have t28 : τ (ρ a1 5) = some 20 := t28
            refine pw_iload d169_31 rfl ?_
            refine pw_iald d169_33 hT t28 rfl rfl (by omega) (by omega) (fun u33 vu33 => ?_)
            refine pw_iload_n d169_34 rfl ?_
            refine pw_icmp_ne d169_35 rfl (by omega) (by omega) (fun c35 => ?_) (fun c35 => ?_)
            · refine pw_lconst (z := 0) d169_48 (by decide) ?_
              exact J49 (0) _ _ (by omega) (by omega) (by omega) (by omega)
            · refine pw_aload_n d169_38 rfl ?_
              refine pw_getR d169_39 g169_9 hT hA0 rfl rfl (fun t39 => ?_)
              have t39 : τ (ρ a0 3) = some 31 := t39
              refine pw_iload d169_42 rfl ?_
              refine pw_lald d169_44 hT t39 rfl rfl (by omega) (by omega) (fun u44 => ?_)
              refine pw_goto d169_45 rfl ?_
              exact J49 ((pv_aJ h (ρ a0 3) (xL5_15).toNat)) _ _ (by omega) (by omega) (by omega) (by omega)
      refine pw_iload_n d169_2 rfl ?_
      refine pw_aload_n d169_3 rfl ?_
      refine pw_getI d169_4 g169_45 hT hA1 rfl rfl (fun u4 vu4 => ?_)
      refine pw_icmp_ge d169_7 rfl (by omega) (by omega) (fun c7 => ?_) (fun c7 => ?_)
      · refine pw_iconst d169_87 ?_
        exact pw_ireturn d169_88 tt169 ⟨rfl, (-1), rfl, (by omega), (by omega)⟩
      · refine pw_lconst (z := 0) d169_10 (by decide) ?_
        refine pw_lstore_n d169_11 m169 rfl rfl ?_
        refine pw_iconst d169_12 ?_
        refine pw_istore d169_13 m169 rfl rfl ?_
        exact L15 _ (0) (0) _ (by omega) (by omega) (by omega) (pv_mu _)
  refine pw_iconst d169_0 ?_
  refine pw_istore_n d169_1 m169 rfl rfl ?_
  exact L2 _ (0) _ _ _ (by omega) (pv_mu _)

abbrev Q170 (τ : Nat → Option Nat) (ρ : Nat → Nat → Nat) (h : pv_H) (a0 : Nat) (a1 : Nat) : Option Value → pv_H → Prop := fun r h' => h = h' ∧ ∃ z : Int, r = some (.int (pv_I z)) ∧ (-1) ≤ z ∧ z ≤ 53
set_option maxHeartbeats 4000000 in
set_option maxRecDepth 20000 in
/-- AngleNet$Row.wrongCorner(LAngleNet$Net;)I -/
theorem ct170 {τ : Nat → Option Nat} {ρ : Nat → Nat → Nat} {K : Nat → Nat} {h : pv_H} {a0 : Nat} {a1 : Nat} (hT : pv_Ty τ ρ h) (hA0 : τ a0 = some 3) (hA1 : τ a1 = some 2) : pv_C K 170 [.ref a0, .ref a1] h (Q170 τ ρ h a0 a1) := by
  refine pw_entry 1 ?_
  show pv_T K 170 0 (pv_fl [some (.ref a0), some (.ref a1), none]) [] h (Q170 τ ρ h a0 a1)
  have L2 : ∀ (nn : Nat) (xL2_2 : Int), (0 ≤ xL2_2 ∧ xL2_2 ≤ 54) → 54 - xL2_2 < nn → pv_T K 170 2 (pv_fl [some (.ref a0), some (.ref a1), some (.int (pv_I xL2_2))]) [] h (Q170 τ ρ h a0 a1) := by
    intro nn
    induction nn with
    | zero => intro xL2_2 rL2_2 hm; exfalso; omega
    | succ nn ih2 =>
      intro xL2_2 rL2_2 hm2
      refine pw_iload_n d170_2 rfl ?_
      refine pw_iconst d170_3 ?_
      refine pw_aload_n d170_4 rfl ?_
      refine pw_getI d170_5 g170_32 hT hA1 rfl rfl (fun u5 vu5 => ?_)
      refine pw_imul d170_8 ?_
      refine pw_icmp_ge d170_9 rfl (by omega) (by omega) (fun c9 => ?_) (fun c9 => ?_)
      · refine pw_iconst d170_50 ?_
        exact pw_ireturn d170_51 tt170 ⟨rfl, (-1), rfl, (by omega), (by omega)⟩
      · refine pw_aload_n d170_12 rfl ?_
        refine pw_getR d170_13 g170_9 hT hA0 rfl rfl (fun t13 => ?_)
        have t13 : τ (ρ a0 3) = some 31 := t13
        refine pw_iload_n d170_16 rfl ?_
        refine pw_lald d170_17 hT t13 rfl rfl (by omega) (by omega) (fun u17 => ?_)
        refine pw_aload_n d170_18 rfl ?_
        refine pw_getI d170_19 g170_54 hT hA1 rfl rfl (fun u19 vu19 => ?_)
        refine pw_i2l d170_22 (by omega) ?_
        refine pw_lcmp d170_23 (by omega) (by omega) (fun z23 ez23 => ?_)
        refine pw_if_lt d170_24 rfl (by omega) (fun c24 => ?_) (fun c24 => ?_)
        · refine pw_iload_n d170_42 rfl ?_
          exact pw_ireturn d170_43 tt170 ⟨rfl, xL2_2, rfl, (by omega), (by omega)⟩
        · refine pw_aload_n d170_27 rfl ?_
          refine pw_getR d170_28 g170_9 hT hA0 rfl rfl (fun t28 => ?_)
          have t28 : τ (ρ a0 3) = some 31 := t28
          refine pw_iload_n d170_31 rfl ?_
          refine pw_lald d170_32 hT t28 rfl rfl (by omega) (by omega) (fun u32 => ?_)
          refine pw_aload_n d170_33 rfl ?_
          refine pw_getI d170_34 g170_57 hT hA1 rfl rfl (fun u34 vu34 => ?_)
          refine pw_i2l d170_37 (by omega) ?_
          refine pw_lcmp d170_38 (by omega) (by omega) (fun z38 ez38 => ?_)
          refine pw_if_le d170_39 rfl (by omega) (fun c39 => ?_) (fun c39 => ?_)
          · refine pw_iinc d170_44 m170 rfl rfl rfl ?_
            refine pw_goto d170_47 rfl ?_
            exact ih2 ((xL2_2 + 1)) (by omega) (by omega)
          · refine pw_iload_n d170_42 rfl ?_
            exact pw_ireturn d170_43 tt170 ⟨rfl, xL2_2, rfl, (by omega), (by omega)⟩
  refine pw_iconst d170_0 ?_
  refine pw_istore_n d170_1 m170 rfl rfl ?_
  exact L2 _ (0) (by omega) (pv_mu _)
