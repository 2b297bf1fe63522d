abbrev Q228F (τ : Nat → Option Nat) (ρ : Nat → Nat → Nat) (h : pv_H) (a0 : Nat) : Option Value → pv_H → Prop := fun r h' => h = h' ∧ ∃ z : Int, r = some (.int (pv_I z)) ∧ 0 ≤ z ∧ z ≤ 100 ∧ ((∃ p q : Nat, q < p ∧ p < pr_N (pv_aI h (ρ a0 1)) ∧ pr_s (pv_aI h (ρ a0 1)) p q ∧ (fun j : Nat => (j : Int)) p ≠ (fun j : Nat => (j : Int)) q) → z ≠ 0)
set_option maxHeartbeats 4000000 in
set_option maxRecDepth 20000 in
/-- AngleNetModel.sidesMany()I -/
theorem ct228F {τ : Nat → Option Nat} {ρ : Nat → Nat → Nat} {K : Nat → Nat} {h : pv_H} {a0 : Nat} (hT : pv_Ty τ ρ h) (hA0 : τ a0 = some 7) : pv_C K 228 [.ref a0] h (Q228F τ ρ h a0) := by
  refine pw_entry 3 ?_
  show pv_T K 228 0 (pv_fl [some (.ref a0), none, none, none]) [] h (Q228F τ ρ h a0)
  have hR0_1 : τ (ρ a0 1) = some 40 := hT.rf (t' := 40) hA0 rfl rfl
  have L4 : ∀ (nn : Nat) (xL1_4 xL2_4 : Int) (o3_4 : Option Value), (0 ≤ xL1_4 ∧ xL1_4 ≤ 100) → (0 ≤ xL2_4 ∧ xL2_4 ≤ 10) → (pd_dv (pv_aI h (ρ a0 1)) (fun j : Nat => (j : Int)) xL2_4 0 xL1_4) → (xL1_4 ≤ 10 * xL2_4) → 10 - xL2_4 < nn → pv_T K 228 4 (pv_fl [some (.ref a0), some (.int (pv_I xL1_4)), some (.int (pv_I xL2_4)), o3_4]) [] h (Q228F τ ρ h a0) := by
    intro nn
    induction nn with
    | zero => intro xL1_4 xL2_4 o3_4 rL1_4 rL2_4 i0_4 i1_4 hm; exfalso; omega
    | succ nn ih4 =>
      intro xL1_4 xL2_4 o3_4 rL1_4 rL2_4 i0_4 i1_4 hm4
      have L16 : ∀ (nn : Nat) (xL1_16 xL3_16 : Int), (0 ≤ xL1_16 ∧ xL1_16 ≤ 100) → (0 ≤ xL2_4 ∧ xL2_4 ≤ 9) → (0 ≤ xL3_16 ∧ xL3_16 ≤ 10) → (pd_dv (pv_aI h (ρ a0 1)) (fun j : Nat => (j : Int)) xL2_4 xL3_16 xL1_16) → (xL1_16 ≤ 10 * xL2_4 + xL3_16) → (xL3_16 ≤ xL2_4) → 10 - xL3_16 < nn → pv_T K 228 16 (pv_fl [some (.ref a0), some (.int (pv_I xL1_16)), some (.int (pv_I xL2_4)), some (.int (pv_I xL3_16))]) [] h (Q228F τ ρ h a0) := by
        intro nn
        induction nn with
        | zero => intro xL1_16 xL3_16 rL1_16 rL2_16 rL3_16 i0_16 i1_16 i2_16 hm; exfalso; omega
        | succ nn ih16 =>
          intro xL1_16 xL3_16 rL1_16 rL2_16 rL3_16 i0_16 i1_16 i2_16 hm16
          have J36 : ∀ (xS0_36 xS1_36 : Int) (o1_36 : Option Value), (1 ≤ xL2_4 ∧ xL2_4 ≤ 9) → (0 ≤ xL3_16 ∧ xL3_16 ≤ 9) → (0 ≤ xS0_36 ∧ xS0_36 ≤ 1) → (0 ≤ xS1_36 ∧ xS1_36 ≤ 100) → (pd_dv (pv_aI h (ρ a0 1)) (fun j : Nat => (j : Int)) xL2_4 (xL3_16 + 1) (xL1_16 + xS0_36)) → (xS1_36 = xL1_16) → (xL3_16 < xL2_4) → pv_T K 228 36 (pv_fl [some (.ref a0), o1_36, some (.int (pv_I xL2_4)), some (.int (pv_I xL3_16))]) [.int (pv_I xS0_36), .int (pv_I xS1_36)] h (Q228F τ ρ h a0) := by
            intro xS0_36 xS1_36 o1_36 rL2_36 rL3_36 rS0_36 rS1_36 i0_36 i1_36 i2_36
            refine pw_iadd d228_36 ?_
            refine pw_istore_n d228_37 m228 rfl rfl ?_
            refine pw_iinc d228_38 m228 rfl rfl rfl ?_
            refine pw_goto d228_41 rfl ?_
            exact ih16 ((xS1_36 + xS0_36)) ((xL3_16 + 1)) (by omega) (by omega) (by omega) (by first | exact i0_4 | (rw [i1_36]; exact i0_36)) (by omega) (by omega) (by omega)
          refine pw_iload_n d228_16 rfl ?_
          refine pw_iload_n d228_17 rfl ?_
          refine pw_icmp_ge d228_18 rfl (by omega) (by omega) (fun c18 => ?_) (fun c18 => ?_)
          · refine pw_iinc d228_44 m228 rfl rfl rfl ?_
            refine pw_goto d228_47 rfl ?_
            exact ih4 (xL1_16) ((xL2_4 + 1)) _ (by omega) (by omega) (by first | exact pd_dv.zero | exact pd_dv.row i0_16 (by omega)) (by omega) (by omega)
          · refine pw_iload_n d228_21 rfl ?_
            refine pw_aload_n d228_22 rfl ?_
            refine pw_iload_n d228_23 rfl ?_
            refine pw_iload_n d228_24 rfl ?_
            refine pw_callV2 d228_25 k228_221 hT hA0 rfl rfl rfl (ct217F (τ := τ) (ρ := ρ) hT hA0 (by omega) (by omega)) (fun r25 h25 q25 => ?_)
            obtain ⟨eh25, z25, ez25, lz25, uz25, pz25_0⟩ := q25
            subst eh25
            subst ez25
            refine pw_if_eq d228_28 rfl (by omega) (fun c28 => ?_) (fun c28 => ?_)
            · refine pw_iconst d228_35 ?_
              exact J36 (0) (xL1_16) _ (by omega) (by omega) (by omega) (by omega) (by first | exact (fun _ => by omega) | (rw [Int.add_zero]; exact pd_dv.side i0_16 (by rcases pz25_0 with q | q; (exfalso; omega); exact q.2) (by omega))) (by first | rfl | omega) (by omega)
            · refine pw_iconst d228_31 ?_
              refine pw_goto d228_32 rfl ?_
              exact J36 (1) (xL1_16) _ (by omega) (by omega) (by omega) (by omega) (by first | exact (fun _ => by omega) | (rw [Int.add_zero]; exact pd_dv.side i0_16 (by rcases pz25_0 with q | q; (exfalso; omega); exact q.2) (by omega))) (by first | rfl | omega) (by omega)
      refine pw_iload_n d228_4 rfl ?_
      refine pw_aload_n d228_5 rfl ?_
      refine pw_getR d228_6 g228_9 hT hA0 rfl rfl (fun t6 => ?_)
      have t6 : τ (ρ a0 1) = some 40 := t6
      refine pw_iconst d228_9 ?_
      refine pw_ialdB d228_10 hT t6 rfl rfl (by omega) (by omega) (fun u10 => ?_)
      have u10 : pv_wok ((0 : Int)) (pv_aI h (ρ a0 1) ((0 : Int)).toNat) := u10
      have vu10 := u10.2.1 (by omega)
      refine pw_icmp_ge d228_11 rfl (by omega) (by omega) (fun c11 => ?_) (fun c11 => ?_)
      · refine pw_iload_n d228_50 rfl ?_
        exact pw_ireturn d228_51 tt228 ⟨rfl, xL1_4, rfl, (by omega), (by omega), (by exact pd_dv.fin i0_4 (show pv_aI h (ρ a0 1) (0 : Int).toNat ≤ _ by omega))⟩
      · refine pw_iconst d228_14 ?_
        refine pw_istore_n d228_15 m228 rfl rfl ?_
        exact L16 _ (xL1_4) (0) (by omega) (by omega) (by omega) (by first | exact i0_4 | (rw [i1_36]; exact i0_36)) (by omega) (by omega) (pv_mu _)
  refine pw_iconst d228_0 ?_
  refine pw_istore_n d228_1 m228 rfl rfl ?_
  refine pw_iconst d228_2 ?_
  refine pw_istore_n d228_3 m228 rfl rfl ?_
  exact L4 _ (0) (0) _ (by omega) (by omega) (by first | exact pd_dv.zero | exact pd_dv.row i0_16 (by omega)) (by omega) (pv_mu _)

abbrev Q281 (τ : Nat → Option Nat) (ρ : Nat → Nat → Nat) (h : pv_H) (a0 : Nat) (x1 : Int) : Option Value → pv_H → Prop := fun r h' => pv_Ty τ ρ h' ∧ pv_Fr τ [466] h h' ∧ ∃ z : Int, r = some (.int (pv_I z)) ∧ (-2147483648) ≤ z ∧ z ≤ 2147483647
set_option maxHeartbeats 4000000 in
set_option maxRecDepth 20000 in
/-- AngleNetModel.draw(I)I -/
theorem ct281 {τ : Nat → Option Nat} {ρ : Nat → Nat → Nat} {K : Nat → Nat} {h : pv_H} {a0 : Nat} {x1 : Int} (hT : pv_Ty τ ρ h) (hA0 : τ a0 = some 7) (hX1 : 1 ≤ x1 ∧ x1 ≤ 100) : pv_C K 281 [.ref a0, .int (pv_I x1)] h (Q281 τ ρ h a0 x1) := by
  refine pw_entry 0 ?_
  show pv_T K 281 0 (pv_fl [some (.ref a0), some (.int (pv_I x1))]) [] h (Q281 τ ρ h a0 x1)
  have hF0 : pv_Fr τ [466] h h := pv_Fr.rf
  refine pw_aload_n d281_0 rfl ?_
  refine pw_ldc2 (v := pv_J 1103515245) d281_1 n281_1 ?_
  refine pw_aload_n d281_4 rfl ?_
  refine pw_getJ d281_5 g281_385 hT hA0 rfl rfl (fun u5 => ?_)
  refine pw_lmul d281_8 ?_
  refine pw_ldc2 (v := pv_J 12345) d281_9 n281_9 ?_
  refine pw_ladd d281_12 ?_
  refine pw_ldc2 (v := pv_J 2147483648) d281_13 n281_13 ?_
  refine pw_lremU d281_16 (by omega) (by omega) (fun z16 hz16 ez16 => ?_)
  refine pw_putJ d281_17 g281_385 w7_18 hT hA0 rfl rfl rfl (by omega) (fun h17 T17 F17 E17 => ?_)
  have f17 := hF0.tr (F17.up (by decide))
  refine pw_aload_n d281_20 rfl ?_
  refine pw_getJ d281_21 g281_385 T17 hA0 rfl rfl (fun u21 => ?_)
  refine pw_ldc2 (v := pv_J 65536) d281_24 n281_24 ?_
  refine pw_ldivU d281_27 (by omega) (by omega) (fun z27 hz27 ez27 => ?_)
  refine pw_iload_n d281_28 rfl ?_
  refine pw_i2l d281_29 (by omega) ?_
  refine pw_lremU d281_30 (by omega) (by omega) (fun z30 hz30 ez30 => ?_)
  refine pw_l2i d281_31 ?_
  refine pw_any (fun z31 hz31 ez31 => ?_)
  exact pw_ireturn d281_32 tt281 ⟨T17, f17, z31, rfl, (by omega), (by omega)⟩

abbrev Q280 (τ : Nat → Option Nat) (ρ : Nat → Nat → Nat) (h : pv_H) (a0 : Nat) (x1 : Int) (x2 : Int) : Option Value → pv_H → Prop := fun r h' => pv_Ty τ ρ h' ∧ pv_Fr τ [466, 2623] h h' ∧ ∃ z : Int, r = some (.int (pv_I z)) ∧ (-2) ≤ z ∧ z ≤ 40 ∧ (pw_ok (pv_aI h' (ρ a0 1)))
set_option maxHeartbeats 4000000 in
set_option maxRecDepth 20000 in
/-- AngleNetModel.flips(II)I -/
theorem ct280 {τ : Nat → Option Nat} {ρ : Nat → Nat → Nat} {K : Nat → Nat} {h : pv_H} {a0 : Nat} {x1 : Int} {x2 : Int} (hT : pv_Ty τ ρ h) (hA0 : τ a0 = some 7) (hX1 : (-2147483648) ≤ x1 ∧ x1 ≤ 2147483647) (hX2 : (-2147483648) ≤ x2 ∧ x2 ≤ 2147483647) (hP0 : pw_ok (pv_aI h (ρ a0 1))) : pv_C K 280 [.ref a0, .int (pv_I x1), .int (pv_I x2)] h (Q280 τ ρ h a0 x1 x2) := by
  refine pw_entry 3 ?_
  show pv_T K 280 0 (pv_fl [some (.ref a0), some (.int (pv_I x1)), some (.int (pv_I x2)), none, none, none]) [] h (Q280 τ ρ h a0 x1 x2)
  have hR0_1 : τ (ρ a0 1) = some 40 := hT.rf (t' := 40) hA0 rfl rfl
  have hF0 : pv_Fr τ [466, 2623] h h := pv_Fr.rf
  have L52 : ∀ (nn : Nat) (h_52 : pv_H) (xL3_52 xL4_52 : Int) (o1_52 o5_52 : Option Value), (pv_Ty τ ρ h_52) → (pv_Fr τ [466, 2623] h h_52) → (1 ≤ x2 ∧ x2 ≤ 40) → (0 ≤ xL3_52 ∧ xL3_52 ≤ 40) → (0 ≤ xL4_52 ∧ xL4_52 ≤ 53) → (pw_ok (pv_aI h_52 (ρ a0 1))) → (1 ≤ pv_aI h_52 (ρ a0 1) (1 : Int).toNat) → (xL3_52 ≤ xL4_52) → (1 ≤ x2 ∧ x2 ≤ 40) → 53 - xL4_52 < nn → pv_T K 280 52 (pv_fl [some (.ref a0), o1_52, some (.int (pv_I x2)), some (.int (pv_I xL3_52)), some (.int (pv_I xL4_52)), o5_52]) [] h_52 (Q280 τ ρ h a0 x1 x2) := by
    intro nn
    induction nn with
    | zero => intro h_52 xL3_52 xL4_52 o1_52 o5_52 hT_52 hF_52 rL2_52 rL3_52 rL4_52 i0_52 i1_52 i2_52 i3_52 hm; exfalso; omega
    | succ nn ih52 =>
      intro h_52 xL3_52 xL4_52 o1_52 o5_52 hT_52 hF_52 rL2_52 rL3_52 rL4_52 i0_52 i1_52 i2_52 i3_52 hm52
      have J124 : ∀ (h_124 : pv_H) (xS0_124 : Int) (o1_124 o3_124 o5_124 : Option Value), (pv_Ty τ ρ h_124) → (pv_Fr τ [466, 2623] h h_124) → (1 ≤ x2 ∧ x2 ≤ 40) → (0 ≤ xL4_52 ∧ xL4_52 ≤ 45) → (0 ≤ xS0_124 ∧ xS0_124 ≤ 1) → (0 ≤ xL3_52 ∧ xL3_52 ≤ 40) → (pw_ok (pv_aI h_124 (ρ a0 1))) → (1 ≤ pv_aI h_124 (ρ a0 1) (1 : Int).toNat) → (xL3_52 = xL3_52) → (0 ≤ xS0_124 ∧ xS0_124 ≤ 1) → (xL4_52 < x2) → pv_T K 280 124 (pv_fl [some (.ref a0), o1_124, some (.int (pv_I x2)), o3_124, some (.int (pv_I xL4_52)), o5_124]) [.int (pv_I xS0_124), .int (pv_I xL3_52)] h_124 (Q280 τ ρ h a0 x1 x2) := by
        intro h_124 xS0_124 o1_124 o3_124 o5_124 hT_124 hF_124 rL2_124 rL4_124 rS0_124 rS1_124 i0_124 i1_124 i2_124 i3_124 i4_124
        refine pw_iadd d280_124 ?_
        refine pw_istore_n d280_125 m280 rfl rfl ?_
        refine pw_iinc d280_126 m280 rfl rfl rfl ?_
        refine pw_goto d280_129 rfl ?_
        exact ih52 h_124 ((xL3_52 + xS0_124)) ((xL4_52 + 1)) _ _ hT_124 hF_124 (by omega) (by omega) (by omega) (by first | exact i0_124 | (rw [F44.aeq hR0_1 (by decide)]; exact hP0)) (by first | omega | (have := congrFun (F44.aeq hR0_1 (by decide)) (1 : Int).toNat; omega)) (by omega) (by omega) (by omega)
      have J123 : ∀ (h_123 : pv_H) (o1_123 o3_123 o5_123 : Option Value), (pv_Ty τ ρ h_123) → (pv_Fr τ [466, 2623] h h_123) → (1 ≤ x2 ∧ x2 ≤ 40) → (0 ≤ xL4_52 ∧ xL4_52 ≤ 45) → (0 ≤ xL3_52 ∧ xL3_52 ≤ 40) → (pw_ok (pv_aI h_123 (ρ a0 1))) → (1 ≤ pv_aI h_123 (ρ a0 1) (1 : Int).toNat) → (xL3_52 = xL3_52) → (xL4_52 < x2) → pv_T K 280 123 (pv_fl [some (.ref a0), o1_123, some (.int (pv_I x2)), o3_123, some (.int (pv_I xL4_52)), o5_123]) [.int (pv_I xL3_52)] h_123 (Q280 τ ρ h a0 x1 x2) := by
        intro h_123 o1_123 o3_123 o5_123 hT_123 hF_123 rL2_123 rL4_123 rS0_123 i0_123 i1_123 i2_123 i3_123
        refine pw_iconst d280_123 ?_
        exact J124 h_123 (0) _ _ _ hT_123 hF_123 (by omega) (by omega) (by omega) (by omega) (by first | assumption | exact pz113_0 ok67) (by omega) (by first | rfl | omega) (by omega) (by omega)
      have n52 : pv_aI h_52 (ρ a0 1) (0 : Int).toNat ≤ 10 := (hT_52.wc hR0_1 (j := 0) rfl (by decide)).2.1 (by decide) |>.2
      refine pw_iload d280_52 rfl ?_
      refine pw_iload_n d280_54 rfl ?_
      refine pw_icmp_ge d280_55 rfl (by omega) (by omega) (fun c55 => ?_) (fun c55 => ?_)
      · refine pw_iload_n d280_132 rfl ?_
        exact pw_ireturn d280_133 tt280 ⟨hT_52, hF_52, xL3_52, rfl, (by omega), (by omega), (by first | exact hP0 | exact i0_52)⟩
      · refine pw_aload_n d280_58 rfl ?_
        refine pw_aload_n d280_59 rfl ?_
        refine pw_aload_n d280_60 rfl ?_
        refine pw_callV0 d280_61 k280_265 hT_52 hA0 rfl rfl rfl (ct228F (τ := τ) (ρ := ρ) hT_52 hA0) (fun r61 h61 q61 => ?_)
        obtain ⟨eh61, z61, ez61, lz61, uz61, pz61_0⟩ := q61
        subst eh61
        subst ez61
        have nz64 : z61 ≠ 0 := pz61_0 (fs_side i0_52 i1_52)
        refine pw_callV1 d280_64 k280_399 hT_52 hA0 rfl rfl rfl (ct281 (τ := τ) (ρ := ρ) hT_52 hA0 (by omega)) (fun r64 h64 q64 => ?_)
        obtain ⟨T64, F64, z64, ez64, lz64, uz64⟩ := q64
        subst ez64
        have f64 := hF_52.tr (F64.up (by decide))
        have g67 : pv_aI h64 (ρ a0 1) = pv_aI h_52 (ρ a0 1) := F64.aeq hR0_1 (by decide)
        have ok67 : pw_ok (pv_aI h64 (ρ a0 1)) := by rw [g67]; exact i0_52
        have n67 := congrFun g67 (1 : Int).toNat
        have n670 := congrFun g67 (0 : Int).toNat
        have pg67 := ok67.G (by omega)
        refine pw_callV1 d280_67 k280_238 T64 hA0 rfl rfl rfl (ct222 (τ := τ) (ρ := ρ) T64 hA0 (by omega)) (fun r67 h67 q67 => ?_)
        obtain ⟨eh67, z67, ez67, lz67, uz67⟩ := q67
        subst eh67
        subst ez67
        refine pw_istore d280_70 m280 rfl rfl ?_
        refine pw_iload_n d280_72 rfl ?_
        refine pw_aload_n d280_73 rfl ?_
        refine pw_iload d280_74 rfl ?_
        refine pw_bipush d280_76 (by decide) ?_
        refine pw_idivT d280_78 (by omega) (by omega) (by omega) (fun z78 hz78 ez78 => ?_)
        refine pw_iload d280_79 rfl ?_
        refine pw_bipush d280_81 (by decide) ?_
        refine pw_iremT d280_83 (by omega) (by omega) (by omega) (fun z83 hz83 ez83 => ?_)
        refine pw_callV2 d280_84 k280_354 T64 hA0 rfl rfl rfl (ct268 (τ := τ) (ρ := ρ) T64 hA0 (by omega) (by omega) (by first | assumption | omega)) (fun r84 h84 q84 => ?_)
        obtain ⟨eh84, z84, ez84, lz84, uz84, pz84_0, pz84_1, pz84_2, pz84_3⟩ := q84
        subst eh84
        subst ez84
        refine pw_if_eq d280_87 rfl (by omega) (fun c87 => ?_) (fun c87 => ?_)
        · exact J123 h64 _ _ _ T64 f64 (by omega) (by omega) (by omega) (by first | exact ok67 | exact pz113_0 ok67) (by omega) (by first | rfl | omega) (by omega)
        · refine pw_aload_n d280_90 rfl ?_
          refine pw_getR d280_91 g280_9 T64 hA0 rfl rfl (fun t91 => ?_)
          have t91 : τ (ρ a0 1) = some 40 := t91
          refine pw_bipush d280_94 (by decide) ?_
          refine pw_ialdB d280_96 T64 t91 rfl rfl (by omega) (by omega) (fun u96 => ?_)
          have u96 : pv_wok ((6 : Int)) (pv_aI h64 (ρ a0 1) ((6 : Int)).toNat) := u96
          have vu96 := u96.2.2.2.2.2.2.1 (by omega)
          refine pw_bipush d280_97 (by decide) ?_
          refine pw_icmp_ge d280_99 rfl (by omega) (by omega) (fun c99 => ?_) (fun c99 => ?_)
          · exact J123 h64 _ _ _ T64 f64 (by omega) (by omega) (by omega) (by first | exact ok67 | exact pz113_0 ok67) (by omega) (by first | rfl | omega) (by omega)
          · refine pw_aload_n d280_102 rfl ?_
            refine pw_iload d280_103 rfl ?_
            refine pw_bipush d280_105 (by decide) ?_
            refine pw_idivT d280_107 (by omega) (by omega) (by omega) (fun z107 hz107 ez107 => ?_)
            refine pw_iload d280_108 rfl ?_
            refine pw_bipush d280_110 (by decide) ?_
            refine pw_iremT d280_112 (by omega) (by omega) (by omega) (fun z112 hz112 ez112 => ?_)
            refine pw_callV2 d280_113 k280_380 T64 hA0 rfl rfl rfl (ct271 (τ := τ) (ρ := ρ) T64 hA0 (by omega) (by omega) (by first | assumption | omega)) (fun r113 h113 q113 => ?_)
            obtain ⟨T113, F113, z113, ez113, lz113, uz113, pz113_0, pz113_1, pz113_2, pz113_3⟩ := q113
            subst ez113
            have f113 := f64.tr (F113.up (by decide))
            refine pw_if_lt d280_116 rfl (by omega) (fun c116 => ?_) (fun c116 => ?_)
            · exact J123 h113 _ _ _ T113 f113 (by omega) (by omega) (by omega) (by first | exact ok67 | exact pz113_0 ok67) (by omega) (by first | rfl | omega) (by omega)
            · refine pw_iconst d280_119 ?_
              refine pw_goto d280_120 rfl ?_
              exact J124 h113 (1) _ _ _ T113 f113 (by omega) (by omega) (by omega) (by omega) (by first | assumption | exact pz113_0 ok67) (by omega) (by first | rfl | omega) (by omega) (by omega)
  refine pw_aload_n d280_0 rfl ?_
  refine pw_callV0 d280_1 k280_283 hT hA0 rfl rfl rfl (ct224 (τ := τ) (ρ := ρ) hT hA0) (fun r1 h1 q1 => ?_)
  obtain ⟨eh1, z1, ez1, lz1, uz1⟩ := q1
  subst eh1
  subst ez1
  refine pw_if_eq d280_4 rfl (by omega) (fun c4 => ?_) (fun c4 => ?_)
  · refine pw_bipush d280_38 (by decide) ?_
    exact pw_ireturn d280_40 tt280 ⟨hT, hF0, (-2), rfl, (by omega), (by omega), (by first | exact hP0 | exact i0_52)⟩
  · refine pw_aload_n d280_7 rfl ?_
    refine pw_callV0 d280_8 k280_216 hT hA0 rfl rfl rfl (ct216 (τ := τ) (ρ := ρ) hT hA0) (fun r8 h8 q8 => ?_)
    obtain ⟨eh8, z8, ez8, lz8, uz8, pz8_0⟩ := q8
    subst eh8
    subst ez8
    refine pw_if_eq d280_11 rfl (by omega) (fun c11 => ?_) (fun c11 => ?_)
    · refine pw_bipush d280_38 (by decide) ?_
      exact pw_ireturn d280_40 tt280 ⟨hT, hF0, (-2), rfl, (by omega), (by omega), (by first | exact hP0 | exact i0_52)⟩
    · refine pw_iload_n d280_14 rfl ?_
      refine pw_i2l d280_15 (by omega) ?_
      refine pw_lconst (z := 0) d280_16 (by decide) ?_
      refine pw_ldc2 (v := pv_J 2000000000) d280_17 n280_17 ?_
      refine pw_callS3 d280_20 k280_73 rfl rfl (ct184 (τ := τ) (ρ := ρ) (by omega) (by omega) (by omega)) (fun r20 h20 q20 => ?_)
      obtain ⟨eh20, z20, ez20, lz20, uz20, pz20_0⟩ := q20
      subst eh20
      subst ez20
      refine pw_if_eq d280_23 rfl (by omega) (fun c23 => ?_) (fun c23 => ?_)
      · refine pw_bipush d280_38 (by decide) ?_
        exact pw_ireturn d280_40 tt280 ⟨hT, hF0, (-2), rfl, (by omega), (by omega), (by first | exact hP0 | exact i0_52)⟩
      · refine pw_iload_n d280_26 rfl ?_
        refine pw_i2l d280_27 (by omega) ?_
        refine pw_lconst (z := 1) d280_28 (by decide) ?_
        refine pw_ldc2 (v := pv_J 40) d280_29 n280_29 ?_
        refine pw_callS3 d280_32 k280_73 rfl rfl (ct184 (τ := τ) (ρ := ρ) (by omega) (by omega) (by omega)) (fun r32 h32 q32 => ?_)
        obtain ⟨eh32, z32, ez32, lz32, uz32, pz32_0⟩ := q32
        subst eh32
        subst ez32
        refine pw_if_ne d280_35 rfl (by omega) (fun c35 => ?_) (fun c35 => ?_)
        · refine pw_aload_n d280_41 rfl ?_
          refine pw_iload_n d280_42 rfl ?_
          refine pw_i2l d280_43 (by omega) ?_
          refine pw_putJ d280_44 g280_385 w7_18 hT hA0 rfl rfl rfl (by omega) (fun h44 T44 F44 E44 => ?_)
          have f44 := hF0.tr (F44.up (by decide))
          refine pw_iconst d280_47 ?_
          refine pw_istore_n d280_48 m280 rfl rfl ?_
          refine pw_iconst d280_49 ?_
          refine pw_istore d280_50 m280 rfl rfl ?_
          exact L52 _ h44 (0) (0) _ _ T44 f44 (by omega) (by omega) (by omega) (by first | exact i0_124 | (rw [F44.aeq hR0_1 (by decide)]; exact hP0)) (by first | omega | (have := congrFun (F44.aeq hR0_1 (by decide)) (1 : Int).toNat; omega)) (by omega) (by omega) (pv_mu _)
        · refine pw_bipush d280_38 (by decide) ?_
          exact pw_ireturn d280_40 tt280 ⟨hT, hF0, (-2), rfl, (by omega), (by omega), (by first | exact hP0 | exact i0_52)⟩
