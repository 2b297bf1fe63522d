abbrev Q94 (τ : Nat → Option Nat) (ρ : Nat → Nat → Nat) (h : pv_H) (a0 : Nat) : Option Value → pv_H → Prop := fun r h' => h = h' ∧ ∃ z : Int, r = some (.int (pv_I z)) ∧ 0 ≤ z ∧ z ≤ 1023
set_option maxHeartbeats 4000000 in
set_option maxRecDepth 20000 in
/-- AngleNet$Laying.told(LAngleNet$Net;)I -/
theorem ct94 {τ : Nat → Option Nat} {ρ : Nat → Nat → Nat} {K : Nat → Nat} {h : pv_H} {a0 : Nat} (hT : pv_Ty τ ρ h) (hA0 : τ a0 = some 2) : pv_C K 94 [.ref a0] h (Q94 τ ρ h a0) := by
  refine pw_entry 2 ?_
  show pv_T K 94 0 (pv_fl [some (.ref a0), none, none]) [] h (Q94 τ ρ h a0)
  have L4 : ∀ (nn : Nat) (xL1_4 xL2_4 : Int), (0 ≤ xL1_4 ∧ xL1_4 ≤ 1023) → (0 ≤ xL2_4 ∧ xL2_4 ≤ 10) → 10 - xL2_4 < nn → pv_T K 94 4 (pv_fl [some (.ref a0), some (.int (pv_I xL1_4)), some (.int (pv_I xL2_4))]) [] h (Q94 τ ρ h a0) := by
    intro nn
    induction nn with
    | zero => intro xL1_4 xL2_4 rL1_4 rL2_4 hm; exfalso; omega
    | succ nn ih4 =>
      intro xL1_4 xL2_4 rL1_4 rL2_4 hm4
      have J30 : ∀ (xS0_30 : Int) (o1_30 : Option Value), (0 ≤ xL2_4 ∧ xL2_4 ≤ 9) → (0 ≤ xS0_30 ∧ xS0_30 ≤ 540) → (0 ≤ xL1_4 ∧ xL1_4 ≤ 1023) → pv_T K 94 30 (pv_fl [some (.ref a0), o1_30, some (.int (pv_I xL2_4))]) [.int (pv_I xS0_30), .int (pv_I xL1_4)] h (Q94 τ ρ h a0) := by
        intro xS0_30 o1_30 rL2_30 rS0_30 rS1_30
        refine pw_ior d94_30 (fun z30 hz30 ez30 => ?_)
        have bz30 := pv_or_b (n := 10) (m := 1024) (x := xL1_4) (y := xS0_30) (by omega) (by omega) (by omega) (by omega) (by decide) (by decide) hz30 ez30
        refine pw_istore_n d94_31 m94 rfl rfl ?_
        refine pw_iinc d94_32 m94 rfl rfl rfl ?_
        refine pw_goto d94_35 rfl ?_
        exact ih4 (z30) ((xL2_4 + 1)) (by omega) (by omega) (by omega)
      refine pw_iload_n d94_4 rfl ?_
      refine pw_aload_n d94_5 rfl ?_
      refine pw_getI d94_6 g94_21 hT hA0 rfl rfl (fun u6 vu6 => ?_)
      refine pw_icmp_ge d94_9 rfl (by omega) (by omega) (fun c9 => ?_) (fun c9 => ?_)
      · refine pw_iload_n d94_38 rfl ?_
        exact pw_ireturn d94_39 tt94 ⟨rfl, xL1_4, rfl, (by omega), (by omega)⟩
      · refine pw_iload_n d94_12 rfl ?_
        refine pw_aload_n d94_13 rfl ?_
        refine pw_getR d94_14 g94_27 hT hA0 rfl rfl (fun t14 => ?_)
        have t14 : τ (ρ a0 7) = some 22 := t14
        refine pw_iload_n d94_17 rfl ?_
        refine pw_iald d94_18 hT t14 rfl rfl (by omega) (by omega) (fun u18 vu18 => ?_)
        refine pw_iconst d94_19 ?_
        refine pw_icmp_eq d94_20 rfl (by omega) (by omega) (fun c20 => ?_) (fun c20 => ?_)
        · refine pw_iconst d94_29 ?_
          exact J30 (0) _ (by omega) (by omega) (by omega)
        · refine pw_iconst d94_23 ?_
          refine pw_iload_n d94_24 rfl ?_
          refine pw_ishl d94_25 (fun z25 hz25 ez25 => ?_)
          have bz25 := pv_shl1_b (n := 9) (m := 512) (y := xL2_4) (by omega) (by omega) (by decide) (by decide) hz25 ez25
          refine pw_goto d94_26 rfl ?_
          exact J30 (z25) _ (by omega) (by omega) (by omega)
  refine pw_iconst d94_0 ?_
  refine pw_istore_n d94_1 m94 rfl rfl ?_
  refine pw_iconst d94_2 ?_
  refine pw_istore_n d94_3 m94 rfl rfl ?_
  exact L4 _ (0) (0) (by omega) (by omega) (pv_mu _)

abbrev Q96 (τ : Nat → Option Nat) (ρ : Nat → Nat → Nat) (h : pv_H) (a0 : Nat) (x1 : Int) (x2 : Int) : Option Value → pv_H → Prop := fun r h' => h = h' ∧ ∃ z : Int, r = some (.int (pv_I z)) ∧ (-2147483648) ≤ z ∧ z ≤ 2147483647
set_option maxHeartbeats 4000000 in
set_option maxRecDepth 20000 in
/-- AngleNet$Laying.mostOf(LAngleNet$Net;II)I -/
theorem ct96 {τ : Nat → Option Nat} {ρ : Nat → Nat → Nat} {K : Nat → Nat} {h : pv_H} {a0 : Nat} {x1 : Int} {x2 : Int} (hT : pv_Ty τ ρ h) (hA0 : τ a0 = some 2) (hX1 : 0 ≤ x1 ∧ x1 ≤ 17) (hX2 : (-2147483648) ≤ x2 ∧ x2 ≤ 2147483647) : pv_C K 96 [.ref a0, .int (pv_I x1), .int (pv_I x2)] h (Q96 τ ρ h a0 x1 x2) := by
  refine pw_entry 0 ?_
  show pv_T K 96 0 (pv_fl [some (.ref a0), some (.int (pv_I x1)), some (.int (pv_I x2))]) [] h (Q96 τ ρ h a0 x1 x2)
  refine pw_aload_n d96_0 rfl ?_
  refine pw_getI d96_1 g96_65 hT hA0 rfl rfl (fun u1 vu1 => ?_)
  refine pw_iload_n d96_4 rfl ?_
  refine pw_imul d96_5 ?_
  refine pw_any (fun z5 hz5 ez5 => ?_)
  refine pw_aload_n d96_6 rfl ?_
  refine pw_getR d96_7 g96_66 hT hA0 rfl rfl (fun t7 => ?_)
  have t7 : τ (ρ a0 6) = some 21 := t7
  refine pw_iload_n d96_10 rfl ?_
  refine pw_iald d96_11 hT t7 rfl rfl (by omega) (by omega) (fun u11 vu11 => ?_)
  refine pw_aload_n d96_12 rfl ?_
  refine pw_getI d96_13 g96_69 hT hA0 rfl rfl (fun u13 vu13 => ?_)
  refine pw_iconst d96_16 ?_
  refine pw_iload_n d96_17 rfl ?_
  refine pw_isub d96_18 ?_
  refine pw_imul d96_19 ?_
  refine pw_any (fun z19 hz19 ez19 => ?_)
  refine pw_isub d96_20 ?_
  refine pw_any (fun z21 hz21 ez21 => ?_)
  refine pw_mmin d96_21 k96_70 rfl (by omega) (by omega) (fun z21b pz21b hz21b => ?_)
  exact pw_ireturn d96_24 tt96 ⟨rfl, z21b, rfl, (by omega), (by omega)⟩

abbrev Q98 (τ : Nat → Option Nat) (ρ : Nat → Nat → Nat) (h : pv_H) (a0 : Nat) (x1 : Int) (x2 : Int) : Option Value → pv_H → Prop := fun r h' => h = h' ∧ ∃ z : Int, r = some (.int (pv_I z)) ∧ (-2147483648) ≤ z ∧ z ≤ 2147483647
set_option maxHeartbeats 4000000 in
set_option maxRecDepth 20000 in
/-- AngleNet$Laying.leastOf(LAngleNet$Net;II)I -/
theorem ct98 {τ : Nat → Option Nat} {ρ : Nat → Nat → Nat} {K : Nat → Nat} {h : pv_H} {a0 : Nat} {x1 : Int} {x2 : Int} (hT : pv_Ty τ ρ h) (hA0 : τ a0 = some 2) (hX1 : 0 ≤ x1 ∧ x1 ≤ 17) (hX2 : (-2147483648) ≤ x2 ∧ x2 ≤ 2147483647) : pv_C K 98 [.ref a0, .int (pv_I x1), .int (pv_I x2)] h (Q98 τ ρ h a0 x1 x2) := by
  refine pw_entry 0 ?_
  show pv_T K 98 0 (pv_fl [some (.ref a0), some (.int (pv_I x1)), some (.int (pv_I x2))]) [] h (Q98 τ ρ h a0 x1 x2)
  refine pw_aload_n d98_0 rfl ?_
  refine pw_getI d98_1 g98_69 hT hA0 rfl rfl (fun u1 vu1 => ?_)
  refine pw_iload_n d98_4 rfl ?_
  refine pw_imul d98_5 ?_
  refine pw_any (fun z5 hz5 ez5 => ?_)
  refine pw_aload_n d98_6 rfl ?_
  refine pw_getR d98_7 g98_66 hT hA0 rfl rfl (fun t7 => ?_)
  have t7 : τ (ρ a0 6) = some 21 := t7
  refine pw_iload_n d98_10 rfl ?_
  refine pw_iald d98_11 hT t7 rfl rfl (by omega) (by omega) (fun u11 vu11 => ?_)
  refine pw_aload_n d98_12 rfl ?_
  refine pw_getI d98_13 g98_65 hT hA0 rfl rfl (fun u13 vu13 => ?_)
  refine pw_iconst d98_16 ?_
  refine pw_iload_n d98_17 rfl ?_
  refine pw_isub d98_18 ?_
  refine pw_imul d98_19 ?_
  refine pw_any (fun z19 hz19 ez19 => ?_)
  refine pw_isub d98_20 ?_
  refine pw_any (fun z21 hz21 ez21 => ?_)
  refine pw_mmax d98_21 k98_76 rfl (by omega) (by omega) (fun z21b pz21b hz21b => ?_)
  exact pw_ireturn d98_24 tt98 ⟨rfl, z21b, rfl, (by omega), (by omega)⟩

abbrev Q95 (τ : Nat → Option Nat) (ρ : Nat → Nat → Nat) (h : pv_H) (a0 : Nat) (a1 : Nat) (x2 : Int) : Option Value → pv_H → Prop := fun r h' => pv_Ty τ ρ h' ∧ pv_Fr τ [323, 324, 325, 326, 327, 2239, 2303, 2367] h h' ∧ ∃ z : Int, r = some (.int (pv_I z)) ∧ 1 ≤ z ∧ z ≤ 1024
set_option maxHeartbeats 4000000 in
set_option maxRecDepth 20000 in
/-- AngleNet$Laying.begin(LAngleNet$Net;I)I -/
theorem ct95 {τ : Nat → Option Nat} {ρ : Nat → Nat → Nat} {K : Nat → Nat} {h : pv_H} {a0 : Nat} {a1 : Nat} {x2 : Int} (hT : pv_Ty τ ρ h) (hA0 : τ a0 = some 5) (hA1 : τ a1 = some 2) (hX2 : (-2147483648) ≤ x2 ∧ x2 ≤ 2147483647) : pv_C K 95 [.ref a0, .ref a1, .int (pv_I x2)] h (Q95 τ ρ h a0 a1 x2) := by
  refine pw_entry 1 ?_
  show pv_T K 95 0 (pv_fl [some (.ref a0), some (.ref a1), some (.int (pv_I x2)), none]) [] h (Q95 τ ρ h a0 a1 x2)
  have hF0 : pv_Fr τ [323, 324, 325, 326, 327, 2239, 2303, 2367] h h := pv_Fr.rf
  have L71 : ∀ (nn : Nat) (h_71 : pv_H) (xL3_71 : Int) (o2_71 : Option Value), (pv_Ty τ ρ h_71) → (pv_Fr τ [323, 324, 325, 326, 327, 2239, 2303, 2367] h h_71) → (0 ≤ xL3_71 ∧ xL3_71 ≤ 18) → 18 - xL3_71 < nn → pv_T K 95 71 (pv_fl [some (.ref a0), some (.ref a1), o2_71, some (.int (pv_I xL3_71))]) [] h_71 (Q95 τ ρ h a0 a1 x2) := by
    intro nn
    induction nn with
    | zero => intro h_71 xL3_71 o2_71 hT_71 hF_71 rL3_71 hm; exfalso; omega
    | succ nn ih71 =>
      intro h_71 xL3_71 o2_71 hT_71 hF_71 rL3_71 hm71
      refine pw_iload_n d95_71 rfl ?_
      refine pw_aload_n d95_72 rfl ?_
      refine pw_getI d95_73 g95_45 hT_71 hA1 rfl rfl (fun u73 vu73 => ?_)
      refine pw_icmp_ge d95_76 rfl (by omega) (by omega) (fun c76 => ?_) (fun c76 => ?_)
      · refine pw_iconst d95_133 ?_
        refine pw_aload_n d95_134 rfl ?_
        refine pw_getI d95_135 g95_30 hT_71 hA0 rfl rfl (fun u135 vu135 => ?_)
        refine pw_ishl d95_138 (fun z138 hz138 ez138 => ?_)
        have bz138 := pv_shl1_b (n := 10) (m := 1024) (y := (pv_fI h_71 a0 3)) (by omega) (by omega) (by decide) (by decide) hz138 ez138
        exact pw_ireturn d95_139 tt95 ⟨hT_71, hF_71, z138, rfl, (by omega), (by omega)⟩
      · refine pw_aload_n d95_79 rfl ?_
        refine pw_getR d95_80 g95_15 hT_71 hA0 rfl rfl (fun t80 => ?_)
        have t80 : τ (ρ a0 1) = some 35 := t80
        refine pw_iload_n d95_83 rfl ?_
        refine pw_aload_n d95_84 rfl ?_
        refine pw_iload_n d95_85 rfl ?_
        refine pw_callV1 d95_86 k95_48 hT_71 hA1 rfl rfl rfl (ct40 (τ := τ) (ρ := ρ) hT_71 hA1 (by omega)) (fun r86 h86 q86 => ?_)
        obtain ⟨eh86, z86, ez86, lz86, uz86⟩ := q86
        subst eh86
        subst ez86
        refine pw_iast d95_89 hT_71 t80 rfl rfl rfl (by omega) (by omega) (by omega) (by omega) (fun h89 T89 F89 E89 => ?_)
        have f89 := hF_71.tr (F89.up (by decide))
        have q89 := ((F89 a1 2 hA1).1 1 (by decide)).1
        refine pw_aload_n d95_90 rfl ?_
        refine pw_getR d95_91 g95_18 T89 hA0 rfl rfl (fun t91 => ?_)
        have t91 : τ (ρ a0 2) = some 36 := t91
        refine pw_iload_n d95_94 rfl ?_
        refine pw_iconst d95_95 ?_
        refine pw_iast d95_96 T89 t91 rfl rfl rfl (by omega) (by omega) (by omega) (by omega) (fun h96 T96 F96 E96 => ?_)
        have f96 := f89.tr (F96.up (by decide))
        have q96 := ((F96 a1 2 hA1).1 1 (by decide)).1
        refine pw_aload_n d95_97 rfl ?_
        refine pw_dup d95_98 rfl ?_
        refine pw_getI d95_99 g95_36 T96 hA0 rfl rfl (fun u99 vu99 => ?_)
        refine pw_aload_n d95_102 rfl ?_
        refine pw_iload_n d95_103 rfl ?_
        refine pw_iconst d95_104 ?_
        refine pw_callS3 d95_105 k95_51 rfl rfl (ct96 (τ := τ) (ρ := ρ) T96 hA1 (by omega) (by omega)) (fun r105 h105 q105 => ?_)
        obtain ⟨eh105, z105, ez105, lz105, uz105⟩ := q105
        subst eh105
        subst ez105
        refine pw_iadd d95_108 ?_
        refine pw_any (fun z109 hz109 ez109 => ?_)
        refine pw_putI d95_109 g95_36 w5_5 T96 hA0 rfl rfl rfl (by omega) (by omega) (fun h109 T109 F109 E109 => ?_)
        have f109 := f96.tr (F109.up (by decide))
        have q109 := ((F109 a1 2 hA1).1 1 (by decide)).1
        refine pw_aload_n d95_112 rfl ?_
        refine pw_dup d95_113 rfl ?_
        refine pw_getI d95_114 g95_39 T109 hA0 rfl rfl (fun u114 vu114 => ?_)
        refine pw_aload_n d95_117 rfl ?_
        refine pw_iload_n d95_118 rfl ?_
        refine pw_iconst d95_119 ?_
        refine pw_callS3 d95_120 k95_55 rfl rfl (ct98 (τ := τ) (ρ := ρ) T109 hA1 (by omega) (by omega)) (fun r120 h120 q120 => ?_)
        obtain ⟨eh120, z120, ez120, lz120, uz120⟩ := q120
        subst eh120
        subst ez120
        refine pw_iadd d95_123 ?_
        refine pw_any (fun z124 hz124 ez124 => ?_)
        refine pw_putI d95_124 g95_39 w5_6 T109 hA0 rfl rfl rfl (by omega) (by omega) (fun h124 T124 F124 E124 => ?_)
        have f124 := f109.tr (F124.up (by decide))
        have q124 := ((F124 a0 5 hA0).1 5 (by decide)).1
        have q124b := ((F124 a1 2 hA1).1 1 (by decide)).1
        refine pw_iinc d95_127 m95 rfl rfl rfl ?_
        refine pw_goto d95_130 rfl ?_
        exact ih71 h124 ((xL3_71 + 1)) _ T124 f124 (by omega) (by omega)
  have L7 : ∀ (nn : Nat) (h_7 : pv_H) (xL3_7 : Int), (pv_Ty τ ρ h_7) → (pv_Fr τ [323, 324, 325, 326, 327, 2239, 2303, 2367] h h_7) → ((-2147483648) ≤ x2 ∧ x2 ≤ 2147483647) → (0 ≤ xL3_7 ∧ xL3_7 ≤ 10) → (pv_fI h_7 a0 3 ≤ xL3_7) → 10 - xL3_7 < nn → pv_T K 95 7 (pv_fl [some (.ref a0), some (.ref a1), some (.int (pv_I x2)), some (.int (pv_I xL3_7))]) [] h_7 (Q95 τ ρ h a0 a1 x2) := by
    intro nn
    induction nn with
    | zero => intro h_7 xL3_7 hT_7 hF_7 rL2_7 rL3_7 i0_7 hm; exfalso; omega
    | succ nn ih7 =>
      intro h_7 xL3_7 hT_7 hF_7 rL2_7 rL3_7 i0_7 hm7
      have J43 : ∀ (h_43 : pv_H), (pv_Ty τ ρ h_43) → (pv_Fr τ [323, 324, 325, 326, 327, 2239, 2303, 2367] h h_43) → ((-2147483648) ≤ x2 ∧ x2 ≤ 2147483647) → (0 ≤ xL3_7 ∧ xL3_7 ≤ 9) → (pv_fI h_43 a0 3 ≤ xL3_7 + 1) → pv_T K 95 43 (pv_fl [some (.ref a0), some (.ref a1), some (.int (pv_I x2)), some (.int (pv_I xL3_7))]) [] h_43 (Q95 τ ρ h a0 a1 x2) := by
        intro h_43 hT_43 hF_43 rL2_43 rL3_43 i0_43
        refine pw_iinc d95_43 m95 rfl rfl rfl ?_
        refine pw_goto d95_46 rfl ?_
        exact ih7 h_43 ((xL3_7 + 1)) hT_43 hF_43 (by omega) (by omega) (by omega) (by omega)
      refine pw_iload_n d95_7 rfl ?_
      refine pw_aload_n d95_8 rfl ?_
      refine pw_getI d95_9 g95_21 hT_7 hA1 rfl rfl (fun u9 vu9 => ?_)
      refine pw_icmp_ge d95_12 rfl (by omega) (by omega) (fun c12 => ?_) (fun c12 => ?_)
      · refine pw_aload_n d95_49 rfl ?_
        refine pw_iconst d95_50 ?_
        refine pw_putI d95_51 g95_33 w5_4 hT_7 hA0 rfl rfl rfl (by omega) (by omega) (fun h51 T51 F51 E51 => ?_)
        have f51 := hF_7.tr (F51.up (by decide))
        have q51 := ((F51 a1 2 hA1).1 0 (by decide)).1
        refine pw_aload_n d95_54 rfl ?_
        refine pw_iconst d95_55 ?_
        refine pw_putI d95_56 g95_36 w5_5 T51 hA0 rfl rfl rfl (by omega) (by omega) (fun h56 T56 F56 E56 => ?_)
        have f56 := f51.tr (F56.up (by decide))
        have q56 := ((F56 a0 5 hA0).1 4 (by decide)).1
        have q56b := ((F56 a1 2 hA1).1 0 (by decide)).1
        refine pw_aload_n d95_59 rfl ?_
        refine pw_iconst d95_60 ?_
        refine pw_putI d95_61 g95_39 w5_6 T56 hA0 rfl rfl rfl (by omega) (by omega) (fun h61 T61 F61 E61 => ?_)
        have f61 := f56.tr (F61.up (by decide))
        have q61 := ((F61 a0 5 hA0).1 4 (by decide)).1
        have q61b := ((F61 a0 5 hA0).1 5 (by decide)).1
        have q61c := ((F61 a1 2 hA1).1 0 (by decide)).1
        refine pw_aload_n d95_64 rfl ?_
        refine pw_iconst d95_65 ?_
        refine pw_putI d95_66 g95_42 w5_7 T61 hA0 rfl rfl rfl (by omega) (by omega) (fun h66 T66 F66 E66 => ?_)
        have f66 := f61.tr (F66.up (by decide))
        have q66 := ((F66 a0 5 hA0).1 4 (by decide)).1
        have q66b := ((F66 a0 5 hA0).1 5 (by decide)).1
        have q66c := ((F66 a0 5 hA0).1 6 (by decide)).1
        have q66d := ((F66 a1 2 hA1).1 0 (by decide)).1
        refine pw_iconst d95_69 ?_
        refine pw_istore_n d95_70 m95 rfl rfl ?_
        exact L71 _ h66 (0) _ T66 f66 (by omega) (pv_mu _)
      · refine pw_iload_n d95_15 rfl ?_
        refine pw_iload_n d95_16 rfl ?_
        refine pw_ishr d95_17 (fun z17 hz17 ez17 => ?_)
        refine pw_iconst d95_18 ?_
        refine pw_iand d95_19 (fun z19 hz19 ez19 => ?_)
        have bz19 := pv_and1_b hz19 ez19
        refine pw_if_eq d95_20 rfl (by omega) (fun c20 => ?_) (fun c20 => ?_)
        · exact J43 h_7 hT_7 hF_7 (by omega) (by omega) (by omega)
        · refine pw_aload_n d95_23 rfl ?_
          refine pw_getR d95_24 g95_9 hT_7 hA0 rfl rfl (fun t24 => ?_)
          have t24 : τ (ρ a0 0) = some 34 := t24
          refine pw_aload_n d95_27 rfl ?_
          refine pw_getI d95_28 g95_30 hT_7 hA0 rfl rfl (fun u28 vu28 => ?_)
          refine pw_iload_n d95_31 rfl ?_
          refine pw_iast d95_32 hT_7 t24 rfl rfl rfl (by omega) (by omega) (by omega) (by omega) (fun h32 T32 F32 E32 => ?_)
          have f32 := hF_7.tr (F32.up (by decide))
          have q32 := ((F32 a0 5 hA0).1 3 (by decide)).1
          have q32b := ((F32 a1 2 hA1).1 0 (by decide)).1
          refine pw_aload_n d95_33 rfl ?_
          refine pw_dup d95_34 rfl ?_
          refine pw_getI d95_35 g95_30 T32 hA0 rfl rfl (fun u35 vu35 => ?_)
          refine pw_iconst d95_38 ?_
          refine pw_iadd d95_39 ?_
          refine pw_putI d95_40 g95_30 w5_3 T32 hA0 rfl rfl rfl (by omega) (by omega) (fun h40 T40 F40 E40 => ?_)
          have f40 := f32.tr (F40.up (by decide))
          have q40 := ((F40 a1 2 hA1).1 0 (by decide)).1
          exact J43 h40 T40 f40 (by omega) (by omega) (by omega)
  refine pw_aload_n d95_0 rfl ?_
  refine pw_iconst d95_1 ?_
  refine pw_putI d95_2 g95_30 w5_3 hT hA0 rfl rfl rfl (by omega) (by omega) (fun h2 T2 F2 E2 => ?_)
  have f2 := hF0.tr (F2.up (by decide))
  refine pw_iconst d95_5 ?_
  refine pw_istore_n d95_6 m95 rfl rfl ?_
  exact L7 _ h2 (0) T2 f2 (by omega) (by omega) (by omega) (pv_mu _)

abbrev Q100 (τ : Nat → Option Nat) (ρ : Nat → Nat → Nat) (h : pv_H) (a0 : Nat) (a1 : Nat) (x2 : Int) (x3 : Int) : Option Value → pv_H → Prop := fun r h' => pv_Ty τ ρ h' ∧ pv_Fr τ [325, 326, 2367] h h' ∧ r = none
set_option maxHeartbeats 4000000 in
set_option maxRecDepth 20000 in
/-- AngleNet$Laying.move(LAngleNet$Net;II)V -/
theorem ct100 {τ : Nat → Option Nat} {ρ : Nat → Nat → Nat} {K : Nat → Nat} {h : pv_H} {a0 : Nat} {a1 : Nat} {x2 : Int} {x3 : Int} (hT : pv_Ty τ ρ h) (hA0 : τ a0 = some 5) (hA1 : τ a1 = some 2) (hX2 : (-2147483648) ≤ x2 ∧ x2 ≤ 2147483647) (hX3 : (-2147483648) ≤ x3 ∧ x3 ≤ 2147483647) : pv_C K 100 [.ref a0, .ref a1, .int (pv_I x2), .int (pv_I x3)] h (Q100 τ ρ h a0 a1 x2 x3) := by
  refine pw_entry 2 ?_
  show pv_T K 100 0 (pv_fl [some (.ref a0), some (.ref a1), some (.int (pv_I x2)), some (.int (pv_I x3)), none, none]) [] h (Q100 τ ρ h a0 a1 x2 x3)
  have hF0 : pv_Fr τ [325, 326, 2367] h h := pv_Fr.rf
  have L3 : ∀ (nn : Nat) (h_3 : pv_H) (xL4_3 : Int) (o5_3 : Option Value), (pv_Ty τ ρ h_3) → (pv_Fr τ [325, 326, 2367] h h_3) → ((-2147483648) ≤ x2 ∧ x2 ≤ 2147483647) → ((-2147483648) ≤ x3 ∧ x3 ≤ 2147483647) → (0 ≤ xL4_3 ∧ xL4_3 ≤ 18) → 18 - xL4_3 < nn → pv_T K 100 3 (pv_fl [some (.ref a0), some (.ref a1), some (.int (pv_I x2)), some (.int (pv_I x3)), some (.int (pv_I xL4_3)), o5_3]) [] h_3 (Q100 τ ρ h a0 a1 x2 x3) := by
    intro nn
    induction nn with
    | zero => intro h_3 xL4_3 o5_3 hT_3 hF_3 rL2_3 rL3_3 rL4_3 hm; exfalso; omega
    | succ nn ih3 =>
      intro h_3 xL4_3 o5_3 hT_3 hF_3 rL2_3 rL3_3 rL4_3 hm3
      have J102 : ∀ (h_102 : pv_H) (o5_102 : Option Value), (pv_Ty τ ρ h_102) → (pv_Fr τ [325, 326, 2367] h h_102) → ((-2147483648) ≤ x2 ∧ x2 ≤ 2147483647) → ((-2147483648) ≤ x3 ∧ x3 ≤ 2147483647) → (0 ≤ xL4_3 ∧ xL4_3 ≤ 17) → pv_T K 100 102 (pv_fl [some (.ref a0), some (.ref a1), some (.int (pv_I x2)), some (.int (pv_I x3)), some (.int (pv_I xL4_3)), o5_102]) [] h_102 (Q100 τ ρ h a0 a1 x2 x3) := by
        intro h_102 o5_102 hT_102 hF_102 rL2_102 rL3_102 rL4_102
        refine pw_iinc d100_102 m100 rfl rfl rfl ?_
        refine pw_goto d100_105 rfl ?_
        exact ih3 h_102 ((xL4_3 + 1)) _ hT_102 hF_102 (by omega) (by omega) (by omega) (by omega)
      refine pw_iload d100_3 rfl ?_
      refine pw_aload_n d100_5 rfl ?_
      refine pw_getI d100_6 g100_45 hT_3 hA1 rfl rfl (fun u6 vu6 => ?_)
      refine pw_icmp_ge d100_9 rfl (by omega) (by omega) (fun c9 => ?_) (fun c9 => ?_)
      · exact pw_return d100_108 tt100 ⟨hT_3, hF_3, rfl⟩
      · refine pw_aload_n d100_12 rfl ?_
        refine pw_getR d100_13 g100_15 hT_3 hA0 rfl rfl (fun t13 => ?_)
        have t13 : τ (ρ a0 1) = some 35 := t13
        refine pw_iload d100_16 rfl ?_
        refine pw_iald d100_18 hT_3 t13 rfl rfl (by omega) (by omega) (fun u18 vu18 => ?_)
        refine pw_iload_n d100_19 rfl ?_
        refine pw_ishr d100_20 (fun z20 hz20 ez20 => ?_)
        refine pw_iconst d100_21 ?_
        refine pw_iand d100_22 (fun z22 hz22 ez22 => ?_)
        have bz22 := pv_and1_b hz22 ez22
        refine pw_if_eq d100_23 rfl (by omega) (fun c23 => ?_) (fun c23 => ?_)
        · exact J102 h_3 _ hT_3 hF_3 (by omega) (by omega) (by omega)
        · refine pw_aload_n d100_26 rfl ?_
          refine pw_getR d100_27 g100_18 hT_3 hA0 rfl rfl (fun t27 => ?_)
          have t27 : τ (ρ a0 2) = some 36 := t27
          refine pw_iload d100_30 rfl ?_
          refine pw_iald d100_32 hT_3 t27 rfl rfl (by omega) (by omega) (fun u32 vu32 => ?_)
          refine pw_istore d100_33 m100 rfl rfl ?_
          refine pw_aload_n d100_35 rfl ?_
          refine pw_dup d100_36 rfl ?_
          refine pw_getI d100_37 g100_36 hT_3 hA0 rfl rfl (fun u37 vu37 => ?_)
          refine pw_aload_n d100_40 rfl ?_
          refine pw_iload d100_41 rfl ?_
          refine pw_iload d100_43 rfl ?_
          refine pw_iload_n d100_45 rfl ?_
          refine pw_iadd d100_46 ?_
          refine pw_any (fun z47 hz47 ez47 => ?_)
          refine pw_callS3 d100_47 k100_51 rfl rfl (ct96 (τ := τ) (ρ := ρ) hT_3 hA1 (by omega) (by omega)) (fun r47 h47 q47 => ?_)
          obtain ⟨eh47, z47b, ez47b, lz47b, uz47b⟩ := q47
          subst eh47
          subst ez47b
          refine pw_aload_n d100_50 rfl ?_
          refine pw_iload d100_51 rfl ?_
          refine pw_iload d100_53 rfl ?_
          refine pw_callS3 d100_55 k100_51 rfl rfl (ct96 (τ := τ) (ρ := ρ) hT_3 hA1 (by omega) (by omega)) (fun r55 h55 q55 => ?_)
          obtain ⟨eh55, z55, ez55, lz55, uz55⟩ := q55
          subst eh55
          subst ez55
          refine pw_isub d100_58 ?_
          refine pw_iadd d100_59 ?_
          refine pw_any (fun z60 hz60 ez60 => ?_)
          refine pw_putI d100_60 g100_36 w5_5 hT_3 hA0 rfl rfl rfl (by omega) (by omega) (fun h60 T60 F60 E60 => ?_)
          have f60 := hF_3.tr (F60.up (by decide))
          have q60 := ((F60 a1 2 hA1).1 1 (by decide)).1
          refine pw_aload_n d100_63 rfl ?_
          refine pw_dup d100_64 rfl ?_
          refine pw_getI d100_65 g100_39 T60 hA0 rfl rfl (fun u65 vu65 => ?_)
          refine pw_aload_n d100_68 rfl ?_
          refine pw_iload d100_69 rfl ?_
          refine pw_iload d100_71 rfl ?_
          refine pw_iload_n d100_73 rfl ?_
          refine pw_iadd d100_74 ?_
          refine pw_any (fun z75 hz75 ez75 => ?_)
          refine pw_callS3 d100_75 k100_55 rfl rfl (ct98 (τ := τ) (ρ := ρ) T60 hA1 (by omega) (by omega)) (fun r75 h75 q75 => ?_)
          obtain ⟨eh75, z75b, ez75b, lz75b, uz75b⟩ := q75
          subst eh75
          subst ez75b
          refine pw_aload_n d100_78 rfl ?_
          refine pw_iload d100_79 rfl ?_
          refine pw_iload d100_81 rfl ?_
          refine pw_callS3 d100_83 k100_55 rfl rfl (ct98 (τ := τ) (ρ := ρ) T60 hA1 (by omega) (by omega)) (fun r83 h83 q83 => ?_)
          obtain ⟨eh83, z83, ez83, lz83, uz83⟩ := q83
          subst eh83
          subst ez83
          refine pw_isub d100_86 ?_
          refine pw_iadd d100_87 ?_
          refine pw_any (fun z88 hz88 ez88 => ?_)
          refine pw_putI d100_88 g100_39 w5_6 T60 hA0 rfl rfl rfl (by omega) (by omega) (fun h88 T88 F88 E88 => ?_)
          have f88 := f60.tr (F88.up (by decide))
          have q88 := ((F88 a0 5 hA0).1 5 (by decide)).1
          have q88b := ((F88 a1 2 hA1).1 1 (by decide)).1
          refine pw_aload_n d100_91 rfl ?_
          refine pw_getR d100_92 g100_18 T88 hA0 rfl rfl (fun t92 => ?_)
          have t92 : τ (ρ a0 2) = some 36 := t92
          refine pw_iload d100_95 rfl ?_
          refine pw_iload d100_97 rfl ?_
          refine pw_iload_n d100_99 rfl ?_
          refine pw_iadd d100_100 ?_
          refine pw_any (fun z101 hz101 ez101 => ?_)
          refine pw_iast d100_101 T88 t92 rfl rfl rfl (by omega) (by omega) (by omega) (by omega) (fun h101 T101 F101 E101 => ?_)
          have f101 := f88.tr (F101.up (by decide))
          have q101 := ((F101 a0 5 hA0).1 5 (by decide)).1
          have q101b := ((F101 a0 5 hA0).1 6 (by decide)).1
          have q101c := ((F101 a1 2 hA1).1 1 (by decide)).1
          exact J102 h101 _ T101 f101 (by omega) (by omega) (by omega)
  refine pw_iconst d100_0 ?_
  refine pw_istore d100_1 m100 rfl rfl ?_
  exact L3 _ h (0) _ hT hF0 (by omega) (by omega) (by omega) (pv_mu _)

abbrev Q99 (τ : Nat → Option Nat) (ρ : Nat → Nat → Nat) (h : pv_H) (a0 : Nat) (a1 : Nat) (x2 : Int) : Option Value → pv_H → Prop := fun r h' => pv_Ty τ ρ h' ∧ pv_Fr τ [324, 325, 326, 327, 2367] h h' ∧ r = none
set_option maxHeartbeats 4000000 in
set_option maxRecDepth 20000 in
/-- AngleNet$Laying.goTo(LAngleNet$Net;I)V -/
theorem ct99 {τ : Nat → Option Nat} {ρ : Nat → Nat → Nat} {K : Nat → Nat} {h : pv_H} {a0 : Nat} {a1 : Nat} {x2 : Int} (hT : pv_Ty τ ρ h) (hA0 : τ a0 = some 5) (hA1 : τ a1 = some 2) (hX2 : (-2147483648) ≤ x2 ∧ x2 ≤ 2147483647) : pv_C K 99 [.ref a0, .ref a1, .int (pv_I x2)] h (Q99 τ ρ h a0 a1 x2) := by
  refine pw_entry 3 ?_
  show pv_T K 99 0 (pv_fl [some (.ref a0), some (.ref a1), some (.int (pv_I x2)), none, none, none]) [] h (Q99 τ ρ h a0 a1 x2)
  have hF0 : pv_Fr τ [324, 325, 326, 327, 2367] h h := pv_Fr.rf
  have J43 : ∀ (xL4_43 xS0_43 : Int) (o2_43 o3_43 o5_43 : Option Value), (0 ≤ xL4_43 ∧ xL4_43 ≤ 9) → ((-1) ≤ xS0_43 ∧ xS0_43 ≤ 1) → pv_T K 99 43 (pv_fl [some (.ref a0), some (.ref a1), o2_43, o3_43, some (.int (pv_I xL4_43)), o5_43]) [.int (pv_I xS0_43)] h (Q99 τ ρ h a0 a1 x2) := by
    intro xL4_43 xS0_43 o2_43 o3_43 o5_43 rL4_43 rS0_43
    refine pw_istore d99_43 m99 rfl rfl ?_
    refine pw_aload_n d99_45 rfl ?_
    refine pw_dup d99_46 rfl ?_
    refine pw_getI d99_47 g99_33 hT hA0 rfl rfl (fun u47 vu47 => ?_)
    refine pw_iconst d99_50 ?_
    refine pw_iload d99_51 rfl ?_
    refine pw_ishl d99_53 (fun z53 hz53 ez53 => ?_)
    have bz53 := pv_shl1_b (n := 9) (m := 512) (y := xL4_43) (by omega) (by omega) (by decide) (by decide) hz53 ez53
    refine pw_ixor d99_54 (fun z54 hz54 ez54 => ?_)
    refine pw_putI d99_55 g99_33 w5_4 hT hA0 rfl rfl rfl (by omega) (by omega) (fun h55 T55 F55 E55 => ?_)
    have f55 := hF0.tr (F55.up (by decide))
    refine pw_aload_n d99_58 rfl ?_
    refine pw_dup d99_59 rfl ?_
    refine pw_getI d99_60 g99_42 T55 hA0 rfl rfl (fun u60 vu60 => ?_)
    refine pw_iload d99_63 rfl ?_
    refine pw_aload_n d99_65 rfl ?_
    refine pw_getR d99_66 g99_27 T55 hA1 rfl rfl (fun t66 => ?_)
    have t66 : τ (ρ a1 7) = some 22 := t66
    refine pw_iload d99_69 rfl ?_
    refine pw_iald d99_71 T55 t66 rfl rfl (by omega) (by omega) (fun u71 vu71 => ?_)
    refine pw_imul d99_72 ?_
    refine pw_any (fun z72 hz72 ez72 => ?_)
    refine pw_iadd d99_73 ?_
    refine pw_any (fun z74 hz74 ez74 => ?_)
    refine pw_putI d99_74 g99_42 w5_7 T55 hA0 rfl rfl rfl (by omega) (by omega) (fun h74 T74 F74 E74 => ?_)
    have f74 := f55.tr (F74.up (by decide))
    have q74 := ((F74 a0 5 hA0).1 4 (by decide)).1
    refine pw_aload_n d99_77 rfl ?_
    refine pw_aload_n d99_78 rfl ?_
    refine pw_iload d99_79 rfl ?_
    refine pw_iload d99_81 rfl ?_
    refine pw_callV3 d99_83 k99_61 T74 hA0 rfl rfl rfl (ct100 (τ := τ) (ρ := ρ) T74 hA0 hA1 (by omega) (by omega)) (fun r83 h83 q83 => ?_)
    obtain ⟨T83, F83, ez83⟩ := q83
    subst ez83
    have f83 := f74.tr (F83.up (by decide))
    have q83b := ((F83 a0 5 hA0).1 4 (by decide)).1
    have q83c := ((F83 a0 5 hA0).1 7 (by decide)).1
    exact pw_return d99_86 tt99 ⟨T83, f83, rfl⟩
  refine pw_iload_n d99_0 rfl ?_
  refine pw_callS1 d99_1 k99_58 rfl rfl (ct76 (τ := τ) (ρ := ρ) (by omega)) (fun r1 h1 q1 => ?_)
  obtain ⟨eh1, z1, ez1, lz1, uz1, pz1_0⟩ := q1
  subst eh1
  subst ez1
  refine pw_istore_n d99_4 m99 rfl rfl ?_
  refine pw_iload_n d99_5 rfl ?_
  refine pw_if_lt d99_6 rfl (by omega) (fun c6 => ?_) (fun c6 => ?_)
  · exfalso; omega
  · refine pw_iload_n d99_9 rfl ?_
    refine pw_aload_n d99_10 rfl ?_
    refine pw_getI d99_11 g99_30 hT hA0 rfl rfl (fun u11 vu11 => ?_)
    refine pw_icmp_lt d99_14 rfl (by omega) (by omega) (fun c14 => ?_) (fun c14 => ?_)
    · refine pw_aload_n d99_18 rfl ?_
      refine pw_getR d99_19 g99_9 hT hA0 rfl rfl (fun t19 => ?_)
      have t19 : τ (ρ a0 0) = some 34 := t19
      refine pw_iload_n d99_22 rfl ?_
      refine pw_iald d99_23 hT t19 rfl rfl (by omega) (by omega) (fun u23 vu23 => ?_)
      refine pw_istore d99_24 m99 rfl rfl ?_
      refine pw_aload_n d99_26 rfl ?_
      refine pw_getI d99_27 g99_33 hT hA0 rfl rfl (fun u27 vu27 => ?_)
      refine pw_iload d99_30 rfl ?_
      refine pw_ishr d99_32 (fun z32 hz32 ez32 => ?_)
      refine pw_iconst d99_33 ?_
      refine pw_iand d99_34 (fun z34 hz34 ez34 => ?_)
      have bz34 := pv_and1_b hz34 ez34
      refine pw_if_ne d99_35 rfl (by omega) (fun c35 => ?_) (fun c35 => ?_)
      · refine pw_iconst d99_42 ?_
        exact J43 ((pv_aI h (ρ a0 0) (z1).toNat)) ((-1)) _ _ _ (by omega) (by omega)
      · refine pw_iconst d99_38 ?_
        refine pw_goto d99_39 rfl ?_
        exact J43 ((pv_aI h (ρ a0 0) (z1).toNat)) (1) _ _ _ (by omega) (by omega)
    · exact pw_return d99_17 tt99 ⟨hT, hF0, rfl⟩

abbrev Q101 (τ : Nat → Option Nat) (ρ : Nat → Nat → Nat) (h : pv_H) (a0 : Nat) : Option Value → pv_H → Prop := fun r h' => h = h' ∧ ∃ z : Int, r = some (.int (pv_I z)) ∧ 0 ≤ z ∧ z ≤ 2
set_option maxHeartbeats 4000000 in
set_option maxRecDepth 20000 in
/-- AngleNet$Laying.way()I -/
theorem ct101 {τ : Nat → Option Nat} {ρ : Nat → Nat → Nat} {K : Nat → Nat} {h : pv_H} {a0 : Nat} (hT : pv_Ty τ ρ h) (hA0 : τ a0 = some 5) : pv_C K 101 [.ref a0] h (Q101 τ ρ h a0) := by
  refine pw_entry 0 ?_
  show pv_T K 101 0 (pv_fl [some (.ref a0)]) [] h (Q101 τ ρ h a0)
  refine pw_aload_n d101_0 rfl ?_
  refine pw_getI d101_1 g101_42 hT hA0 rfl rfl (fun u1 vu1 => ?_)
  refine pw_aload_n d101_4 rfl ?_
  refine pw_getI d101_5 g101_36 hT hA0 rfl rfl (fun u5 vu5 => ?_)
  refine pw_icmp_le d101_8 rfl (by omega) (by omega) (fun c8 => ?_) (fun c8 => ?_)
  · refine pw_aload_n d101_13 rfl ?_
    refine pw_getI d101_14 g101_42 hT hA0 rfl rfl (fun u14 vu14 => ?_)
    refine pw_aload_n d101_17 rfl ?_
    refine pw_getI d101_18 g101_39 hT hA0 rfl rfl (fun u18 vu18 => ?_)
    refine pw_icmp_ge d101_21 rfl (by omega) (by omega) (fun c21 => ?_) (fun c21 => ?_)
    · refine pw_iconst d101_28 ?_
      exact pw_ireturn d101_29 tt101 ⟨rfl, 0, rfl, (by omega), (by omega)⟩
    · refine pw_iconst d101_24 ?_
      refine pw_goto d101_25 rfl ?_
      exact pw_ireturn d101_29 tt101 ⟨rfl, 2, rfl, (by omega), (by omega)⟩
  · refine pw_iconst d101_11 ?_
    exact pw_ireturn d101_12 tt101 ⟨rfl, 1, rfl, (by omega), (by omega)⟩

abbrev Q93 (τ : Nat → Option Nat) (ρ : Nat → Nat → Nat) (h : pv_H) (a0 : Nat) (a1 : Nat) : Option Value → pv_H → Prop := fun r h' => pv_Ty τ ρ h' ∧ pv_Fr τ [323, 324, 325, 326, 327, 2239, 2303, 2367] h h' ∧ ∃ z : Int, r = some (.int (pv_I z)) ∧ (-2147483648) ≤ z ∧ z ≤ 2147483647
set_option maxHeartbeats 4000000 in
set_option maxRecDepth 20000 in
/-- AngleNet$Laying.barring(LAngleNet$Net;)I -/
theorem ct93 {τ : Nat → Option Nat} {ρ : Nat → Nat → Nat} {K : Nat → Nat} {h : pv_H} {a0 : Nat} {a1 : Nat} (hT : pv_Ty τ ρ h) (hA0 : τ a0 = some 5) (hA1 : τ a1 = some 2) : pv_C K 93 [.ref a0, .ref a1] h (Q93 τ ρ h a0 a1) := by
  refine pw_entry 3 ?_
  show pv_T K 93 0 (pv_fl [some (.ref a0), some (.ref a1), none, none, none]) [] h (Q93 τ ρ h a0 a1)
  have hF0 : pv_Fr τ [323, 324, 325, 326, 327, 2239, 2303, 2367] h h := pv_Fr.rf
  have L15 : ∀ (nn : Nat) (h_15 : pv_H) (xL2_15 xL3_15 xL4_15 : Int), (pv_Ty τ ρ h_15) → (pv_Fr τ [323, 324, 325, 326, 327, 2239, 2303, 2367] h h_15) → (1 ≤ xL2_15 ∧ xL2_15 ≤ 1024) → ((-2147483648) ≤ xL3_15 ∧ xL3_15 ≤ 2147483647) → (0 ≤ xL4_15 ∧ xL4_15 ≤ 1024) → 1024 - xL4_15 < nn → pv_T K 93 15 (pv_fl [some (.ref a0), some (.ref a1), some (.int (pv_I xL2_15)), some (.int (pv_I xL3_15)), some (.int (pv_I xL4_15))]) [] h_15 (Q93 τ ρ h a0 a1) := by
    intro nn
    induction nn with
    | zero => intro h_15 xL2_15 xL3_15 xL4_15 hT_15 hF_15 rL2_15 rL3_15 rL4_15 hm; exfalso; omega
    | succ nn ih15 =>
      intro h_15 xL2_15 xL3_15 xL4_15 hT_15 hF_15 rL2_15 rL3_15 rL4_15 hm15
      have J67 : ∀ (h_67 : pv_H) (xL3_67 : Int), (pv_Ty τ ρ h_67) → (pv_Fr τ [323, 324, 325, 326, 327, 2239, 2303, 2367] h h_67) → (1 ≤ xL2_15 ∧ xL2_15 ≤ 1024) → ((-2147483648) ≤ xL3_67 ∧ xL3_67 ≤ 2147483647) → (0 ≤ xL4_15 ∧ xL4_15 ≤ 1023) → pv_T K 93 67 (pv_fl [some (.ref a0), some (.ref a1), some (.int (pv_I xL2_15)), some (.int (pv_I xL3_67)), some (.int (pv_I xL4_15))]) [] h_67 (Q93 τ ρ h a0 a1) := by
        intro h_67 xL3_67 hT_67 hF_67 rL2_67 rL3_67 rL4_67
        refine pw_iinc d93_67 m93 rfl rfl rfl ?_
        refine pw_goto d93_70 rfl ?_
        exact ih15 h_67 (xL2_15) (xL3_67) ((xL4_15 + 1)) hT_67 hF_67 (by omega) (by omega) (by omega) (by omega)
      have J54 : ∀ (h_54 : pv_H) (o3_54 : Option Value), (pv_Ty τ ρ h_54) → (pv_Fr τ [323, 324, 325, 326, 327, 2239, 2303, 2367] h h_54) → (1 ≤ xL2_15 ∧ xL2_15 ≤ 1024) → (0 ≤ xL4_15 ∧ xL4_15 ≤ 1023) → pv_T K 93 54 (pv_fl [some (.ref a0), some (.ref a1), some (.int (pv_I xL2_15)), o3_54, some (.int (pv_I xL4_15))]) [] h_54 (Q93 τ ρ h a0 a1) := by
        intro h_54 o3_54 hT_54 hF_54 rL2_54 rL4_54
        refine pw_bipush d93_54 (by decide) ?_
        refine pw_aload_n d93_56 rfl ?_
        refine pw_getI d93_57 g93_33 hT_54 hA0 rfl rfl (fun u57 vu57 => ?_)
        refine pw_imul d93_60 ?_
        refine pw_aload_n d93_61 rfl ?_
        refine pw_callV0 d93_62 k93_91 hT_54 hA0 rfl rfl rfl (ct101 (τ := τ) (ρ := ρ) hT_54 hA0) (fun r62 h62 q62 => ?_)
        obtain ⟨eh62, z62, ez62, lz62, uz62⟩ := q62
        subst eh62
        subst ez62
        refine pw_iadd d93_65 ?_
        refine pw_any (fun z66 hz66 ez66 => ?_)
        refine pw_istore_n d93_66 m93 rfl rfl ?_
        exact J67 h_54 (z66) hT_54 hF_54 (by omega) (by omega) (by omega)
      refine pw_iload d93_15 rfl ?_
      refine pw_iload_n d93_17 rfl ?_
      refine pw_icmp_ge d93_18 rfl (by omega) (by omega) (fun c18 => ?_) (fun c18 => ?_)
      · refine pw_iload_n d93_73 rfl ?_
        exact pw_ireturn d93_74 tt93 ⟨hT_15, hF_15, xL3_15, rfl, (by omega), (by omega)⟩
      · refine pw_aload_n d93_21 rfl ?_
        refine pw_aload_n d93_22 rfl ?_
        refine pw_iload d93_23 rfl ?_
        refine pw_callV2 d93_25 k93_87 hT_15 hA0 rfl rfl rfl (ct99 (τ := τ) (ρ := ρ) hT_15 hA0 hA1 (by omega)) (fun r25 h25 q25 => ?_)
        obtain ⟨T25, F25, ez25⟩ := q25
        subst ez25
        have f25 := hF_15.tr (F25.up (by decide))
        refine pw_aload_n d93_28 rfl ?_
        refine pw_callV0 d93_29 k93_91 T25 hA0 rfl rfl rfl (ct101 (τ := τ) (ρ := ρ) T25 hA0) (fun r29 h29 q29 => ?_)
        obtain ⟨eh29, z29, ez29, lz29, uz29⟩ := q29
        subst eh29
        subst ez29
        refine pw_if_eq d93_32 rfl (by omega) (fun c32 => ?_) (fun c32 => ?_)
        · exact J67 h25 (xL3_15) T25 f25 (by omega) (by omega) (by omega)
        · refine pw_iload_n d93_35 rfl ?_
          refine pw_iconst d93_36 ?_
          refine pw_icmp_eq d93_37 rfl (by omega) (by omega) (fun c37 => ?_) (fun c37 => ?_)
          · exact J54 h25 _ T25 f25 (by omega) (by omega)
          · refine pw_aload_n d93_40 rfl ?_
            refine pw_getI d93_41 g93_33 T25 hA0 rfl rfl (fun u41 vu41 => ?_)
            refine pw_iload_n d93_44 rfl ?_
            refine pw_bipush d93_45 (by decide) ?_
            refine pw_idivT d93_47 (by omega) (by omega) (by omega) (fun z47 hz47 ez47 => ?_)
            refine pw_callS2 d93_48 k93_95 rfl rfl (ct102 (τ := τ) (ρ := ρ) (by omega) (by omega)) (fun r48 h48 q48 => ?_)
            obtain ⟨eh48, z48, ez48, lz48, uz48⟩ := q48
            subst eh48
            subst ez48
            refine pw_if_eq d93_51 rfl (by omega) (fun c51 => ?_) (fun c51 => ?_)
            · exact J67 h25 (xL3_15) T25 f25 (by omega) (by omega) (by omega)
            · exact J54 h25 _ T25 f25 (by omega) (by omega)
  refine pw_aload_n d93_0 rfl ?_
  refine pw_aload_n d93_1 rfl ?_
  refine pw_aload_n d93_2 rfl ?_
  refine pw_callS1 d93_3 k93_79 rfl rfl (ct94 (τ := τ) (ρ := ρ) hT hA1) (fun r3 h3 q3 => ?_)
  obtain ⟨eh3, z3, ez3, lz3, uz3⟩ := q3
  subst eh3
  subst ez3
  refine pw_callV2 d93_6 k93_83 hT hA0 rfl rfl rfl (ct95 (τ := τ) (ρ := ρ) hT hA0 hA1 (by omega)) (fun r6 h6 q6 => ?_)
  obtain ⟨T6, F6, z6, ez6, lz6, uz6⟩ := q6
  subst ez6
  have f6 := hF0.tr (F6.up (by decide))
  refine pw_istore_n d93_9 m93 rfl rfl ?_
  refine pw_iconst d93_10 ?_
  refine pw_istore_n d93_11 m93 rfl rfl ?_
  refine pw_iconst d93_12 ?_
  refine pw_istore d93_13 m93 rfl rfl ?_
  exact L15 _ h6 (z6) ((-1)) (0) T6 f6 (by omega) (by omega) (by omega) (pv_mu _)

abbrev Q106 (τ : Nat → Option Nat) (ρ : Nat → Nat → Nat) (h : pv_H) (a0 : Nat) (a1 : Nat) (x2 : Int) (x3 : Int) : Option Value → pv_H → Prop := fun r h' => h = h' ∧ ∃ z : Int, r = some (.int (pv_I z)) ∧ (-2147483648) ≤ z ∧ z ≤ 2147483647
set_option maxHeartbeats 4000000 in
set_option maxRecDepth 20000 in
/-- AngleNet$Laying.mostForCorner(LAngleNet$Net;II)I -/
theorem ct106 {τ : Nat → Option Nat} {ρ : Nat → Nat → Nat} {K : Nat → Nat} {h : pv_H} {a0 : Nat} {a1 : Nat} {x2 : Int} {x3 : Int} (hT : pv_Ty τ ρ h) (hA0 : τ a0 = some 5) (hA1 : τ a1 = some 2) (hX2 : 0 ≤ x2 ∧ x2 ≤ 17) (hX3 : (-2147483648) ≤ x3 ∧ x3 ≤ 2147483647) : pv_C K 106 [.ref a0, .ref a1, .int (pv_I x2), .int (pv_I x3)] h (Q106 τ ρ h a0 a1 x2 x3) := by
  refine pw_entry 1 ?_
  show pv_T K 106 0 (pv_fl [some (.ref a0), some (.ref a1), some (.int (pv_I x2)), some (.int (pv_I x3)), none]) [] h (Q106 τ ρ h a0 a1 x2 x3)
  refine pw_aload_n d106_0 rfl ?_
  refine pw_getR d106_1 g106_18 hT hA0 rfl rfl (fun t1 => ?_)
  have t1 : τ (ρ a0 2) = some 36 := t1
  refine pw_iload_n d106_4 rfl ?_
  refine pw_iald d106_5 hT t1 rfl rfl (by omega) (by omega) (fun u5 vu5 => ?_)
  refine pw_istore d106_6 m106 rfl rfl ?_
  refine pw_aload_n d106_8 rfl ?_
  refine pw_getI d106_9 g106_33 hT hA0 rfl rfl (fun u9 vu9 => ?_)
  refine pw_iload_n d106_12 rfl ?_
  refine pw_ishr d106_13 (fun z13 hz13 ez13 => ?_)
  refine pw_iconst d106_14 ?_
  refine pw_iand d106_15 (fun z15 hz15 ez15 => ?_)
  have bz15 := pv_and1_b hz15 ez15
  refine pw_if_eq d106_16 rfl (by omega) (fun c16 => ?_) (fun c16 => ?_)
  · refine pw_aload_n d106_47 rfl ?_
    refine pw_getI d106_48 g106_36 hT hA0 rfl rfl (fun u48 vu48 => ?_)
    refine pw_aload_n d106_51 rfl ?_
    refine pw_iload_n d106_52 rfl ?_
    refine pw_iload d106_53 rfl ?_
    refine pw_callS3 d106_55 k106_51 rfl rfl (ct96 (τ := τ) (ρ := ρ) hT hA1 (by omega) (by omega)) (fun r55 h55 q55 => ?_)
    obtain ⟨eh55, z55, ez55, lz55, uz55⟩ := q55
    subst eh55
    subst ez55
    refine pw_isub d106_58 ?_
    refine pw_aload_n d106_59 rfl ?_
    refine pw_getR d106_60 g106_66 hT hA1 rfl rfl (fun t60 => ?_)
    have t60 : τ (ρ a1 6) = some 21 := t60
    refine pw_iload_n d106_63 rfl ?_
    refine pw_iald d106_64 hT t60 rfl rfl (by omega) (by omega) (fun u64 vu64 => ?_)
    refine pw_iadd d106_65 ?_
    refine pw_aload_n d106_66 rfl ?_
    refine pw_getI d106_67 g106_69 hT hA1 rfl rfl (fun u67 vu67 => ?_)
    refine pw_iconst d106_70 ?_
    refine pw_iload d106_71 rfl ?_
    refine pw_isub d106_73 ?_
    refine pw_imul d106_74 ?_
    refine pw_any (fun z74 hz74 ez74 => ?_)
    refine pw_isub d106_75 ?_
    refine pw_aload_n d106_76 rfl ?_
    refine pw_getI d106_77 g106_42 hT hA0 rfl rfl (fun u77 vu77 => ?_)
    refine pw_isub d106_80 ?_
    refine pw_any (fun z81 hz81 ez81 => ?_)
    exact pw_ireturn d106_81 tt106 ⟨rfl, z81, rfl, (by omega), (by omega)⟩
  · refine pw_aload_n d106_19 rfl ?_
    refine pw_getI d106_20 g106_42 hT hA0 rfl rfl (fun u20 vu20 => ?_)
    refine pw_aload_n d106_23 rfl ?_
    refine pw_getI d106_24 g106_39 hT hA0 rfl rfl (fun u24 vu24 => ?_)
    refine pw_aload_n d106_27 rfl ?_
    refine pw_iload_n d106_28 rfl ?_
    refine pw_iload d106_29 rfl ?_
    refine pw_callS3 d106_31 k106_55 rfl rfl (ct98 (τ := τ) (ρ := ρ) hT hA1 (by omega) (by omega)) (fun r31 h31 q31 => ?_)
    obtain ⟨eh31, z31, ez31, lz31, uz31⟩ := q31
    subst eh31
    subst ez31
    refine pw_isub d106_34 ?_
    refine pw_isub d106_35 ?_
    refine pw_aload_n d106_36 rfl ?_
    refine pw_getI d106_37 g106_69 hT hA1 rfl rfl (fun u37 vu37 => ?_)
    refine pw_iload d106_40 rfl ?_
    refine pw_iconst d106_42 ?_
    refine pw_isub d106_43 ?_
    refine pw_imul d106_44 ?_
    refine pw_any (fun z44 hz44 ez44 => ?_)
    refine pw_isub d106_45 ?_
    refine pw_any (fun z46 hz46 ez46 => ?_)
    exact pw_ireturn d106_46 tt106 ⟨rfl, z46, rfl, (by omega), (by omega)⟩

abbrev Q107 (τ : Nat → Option Nat) (ρ : Nat → Nat → Nat) (h : pv_H) (a0 : Nat) (a1 : Nat) (x2 : Int) (x3 : Int) : Option Value → pv_H → Prop := fun r h' => h = h' ∧ ∃ z : Int, r = some (.int (pv_I z)) ∧ (-2147483648) ≤ z ∧ z ≤ 2147483647
set_option maxHeartbeats 4000000 in
set_option maxRecDepth 20000 in
/-- AngleNet$Laying.leastForCorner(LAngleNet$Net;II)I -/
theorem ct107 {τ : Nat → Option Nat} {ρ : Nat → Nat → Nat} {K : Nat → Nat} {h : pv_H} {a0 : Nat} {a1 : Nat} {x2 : Int} {x3 : Int} (hT : pv_Ty τ ρ h) (hA0 : τ a0 = some 5) (hA1 : τ a1 = some 2) (hX2 : 0 ≤ x2 ∧ x2 ≤ 17) (hX3 : (-2147483648) ≤ x3 ∧ x3 ≤ 2147483647) : pv_C K 107 [.ref a0, .ref a1, .int (pv_I x2), .int (pv_I x3)] h (Q107 τ ρ h a0 a1 x2 x3) := by
  refine pw_entry 1 ?_
  show pv_T K 107 0 (pv_fl [some (.ref a0), some (.ref a1), some (.int (pv_I x2)), some (.int (pv_I x3)), none]) [] h (Q107 τ ρ h a0 a1 x2 x3)
  refine pw_aload_n d107_0 rfl ?_
  refine pw_getR d107_1 g107_18 hT hA0 rfl rfl (fun t1 => ?_)
  have t1 : τ (ρ a0 2) = some 36 := t1
  refine pw_iload_n d107_4 rfl ?_
  refine pw_iald d107_5 hT t1 rfl rfl (by omega) (by omega) (fun u5 vu5 => ?_)
  refine pw_istore d107_6 m107 rfl rfl ?_
  refine pw_aload_n d107_8 rfl ?_
  refine pw_getI d107_9 g107_33 hT hA0 rfl rfl (fun u9 vu9 => ?_)
  refine pw_iload_n d107_12 rfl ?_
  refine pw_ishr d107_13 (fun z13 hz13 ez13 => ?_)
  refine pw_iconst d107_14 ?_
  refine pw_iand d107_15 (fun z15 hz15 ez15 => ?_)
  have bz15 := pv_and1_b hz15 ez15
  refine pw_if_eq d107_16 rfl (by omega) (fun c16 => ?_) (fun c16 => ?_)
  · refine pw_aload_n d107_47 rfl ?_
    refine pw_getI d107_48 g107_39 hT hA0 rfl rfl (fun u48 vu48 => ?_)
    refine pw_aload_n d107_51 rfl ?_
    refine pw_iload_n d107_52 rfl ?_
    refine pw_iload d107_53 rfl ?_
    refine pw_callS3 d107_55 k107_55 rfl rfl (ct98 (τ := τ) (ρ := ρ) hT hA1 (by omega) (by omega)) (fun r55 h55 q55 => ?_)
    obtain ⟨eh55, z55, ez55, lz55, uz55⟩ := q55
    subst eh55
    subst ez55
    refine pw_isub d107_58 ?_
    refine pw_aload_n d107_59 rfl ?_
    refine pw_getR d107_60 g107_66 hT hA1 rfl rfl (fun t60 => ?_)
    have t60 : τ (ρ a1 6) = some 21 := t60
    refine pw_iload_n d107_63 rfl ?_
    refine pw_iald d107_64 hT t60 rfl rfl (by omega) (by omega) (fun u64 vu64 => ?_)
    refine pw_iadd d107_65 ?_
    refine pw_aload_n d107_66 rfl ?_
    refine pw_getI d107_67 g107_65 hT hA1 rfl rfl (fun u67 vu67 => ?_)
    refine pw_iconst d107_70 ?_
    refine pw_iload d107_71 rfl ?_
    refine pw_isub d107_73 ?_
    refine pw_imul d107_74 ?_
    refine pw_any (fun z74 hz74 ez74 => ?_)
    refine pw_isub d107_75 ?_
    refine pw_aload_n d107_76 rfl ?_
    refine pw_getI d107_77 g107_42 hT hA0 rfl rfl (fun u77 vu77 => ?_)
    refine pw_isub d107_80 ?_
    refine pw_any (fun z81 hz81 ez81 => ?_)
    exact pw_ireturn d107_81 tt107 ⟨rfl, z81, rfl, (by omega), (by omega)⟩
  · refine pw_aload_n d107_19 rfl ?_
    refine pw_getI d107_20 g107_42 hT hA0 rfl rfl (fun u20 vu20 => ?_)
    refine pw_aload_n d107_23 rfl ?_
    refine pw_getI d107_24 g107_36 hT hA0 rfl rfl (fun u24 vu24 => ?_)
    refine pw_aload_n d107_27 rfl ?_
    refine pw_iload_n d107_28 rfl ?_
    refine pw_iload d107_29 rfl ?_
    refine pw_callS3 d107_31 k107_51 rfl rfl (ct96 (τ := τ) (ρ := ρ) hT hA1 (by omega) (by omega)) (fun r31 h31 q31 => ?_)
    obtain ⟨eh31, z31, ez31, lz31, uz31⟩ := q31
    subst eh31
    subst ez31
    refine pw_isub d107_34 ?_
    refine pw_isub d107_35 ?_
    refine pw_aload_n d107_36 rfl ?_
    refine pw_getI d107_37 g107_65 hT hA1 rfl rfl (fun u37 vu37 => ?_)
    refine pw_iload d107_40 rfl ?_
    refine pw_iconst d107_42 ?_
    refine pw_isub d107_43 ?_
    refine pw_imul d107_44 ?_
    refine pw_any (fun z44 hz44 ez44 => ?_)
    refine pw_isub d107_45 ?_
    refine pw_any (fun z46 hz46 ez46 => ?_)
    exact pw_ireturn d107_46 tt107 ⟨rfl, z46, rfl, (by omega), (by omega)⟩

abbrev Q105 (τ : Nat → Option Nat) (ρ : Nat → Nat → Nat) (h : pv_H) (a0 : Nat) (a1 : Nat) (x2 : Int) (x3 : Int) (x4 : Int) : Option Value → pv_H → Prop := fun r h' => pv_Ty τ ρ h' ∧ pv_Fr τ [323, 324, 325, 326, 327, 2239, 2303, 2367] h h' ∧ ∃ z : Int, r = some (.int (pv_I z)) ∧ (-2147483648) ≤ z ∧ z ≤ 2147483647
set_option maxHeartbeats 4000000 in
set_option maxRecDepth 20000 in
/-- AngleNet$Laying.cornerBound(LAngleNet$Net;IIZ)I -/
theorem ct105 {τ : Nat → Option Nat} {ρ : Nat → Nat → Nat} {K : Nat → Nat} {h : pv_H} {a0 : Nat} {a1 : Nat} {x2 : Int} {x3 : Int} {x4 : Int} (hT : pv_Ty τ ρ h) (hA0 : τ a0 = some 5) (hA1 : τ a1 = some 2) (hX2 : 0 ≤ x2 ∧ x2 ≤ 17) (hX3 : (-2147483648) ≤ x3 ∧ x3 ≤ 2147483647) (hX4 : 0 ≤ x4 ∧ x4 ≤ 1) : pv_C K 105 [.ref a0, .ref a1, .int (pv_I x2), .int (pv_I x3), .int (pv_I x4)] h (Q105 τ ρ h a0 a1 x2 x3 x4) := by
  refine pw_entry 3 ?_
  show pv_T K 105 0 (pv_fl [some (.ref a0), some (.ref a1), some (.int (pv_I x2)), some (.int (pv_I x3)), some (.int (pv_I x4)), none, none, none]) [] h (Q105 τ ρ h a0 a1 x2 x3 x4)
  have hF0 : pv_Fr τ [323, 324, 325, 326, 327, 2239, 2303, 2367] h h := pv_Fr.rf
  have L32 : ∀ (nn : Nat) (h_32 : pv_H) (xL5_32 xL6_32 xL7_32 : Int), (pv_Ty τ ρ h_32) → (pv_Fr τ [323, 324, 325, 326, 327, 2239, 2303, 2367] h h_32) → (0 ≤ x2 ∧ x2 ≤ 17) → ((-2147483648) ≤ x3 ∧ x3 ≤ 2147483647) → (0 ≤ x4 ∧ x4 ≤ 1) → (1 ≤ xL5_32 ∧ xL5_32 ≤ 1024) → ((-2147483648) ≤ xL6_32 ∧ xL6_32 ≤ 2147483647) → (0 ≤ xL7_32 ∧ xL7_32 ≤ 1024) → 1024 - xL7_32 < nn → pv_T K 105 32 (pv_fl [some (.ref a0), some (.ref a1), some (.int (pv_I x2)), some (.int (pv_I x3)), some (.int (pv_I x4)), some (.int (pv_I xL5_32)), some (.int (pv_I xL6_32)), some (.int (pv_I xL7_32))]) [] h_32 (Q105 τ ρ h a0 a1 x2 x3 x4) := by
    intro nn
    induction nn with
    | zero => intro h_32 xL5_32 xL6_32 xL7_32 hT_32 hF_32 rL2_32 rL3_32 rL4_32 rL5_32 rL6_32 rL7_32 hm; exfalso; omega
    | succ nn ih32 =>
      intro h_32 xL5_32 xL6_32 xL7_32 hT_32 hF_32 rL2_32 rL3_32 rL4_32 rL5_32 rL6_32 rL7_32 hm32
      have J91 : ∀ (h_91 : pv_H) (xL6_91 : Int), (pv_Ty τ ρ h_91) → (pv_Fr τ [323, 324, 325, 326, 327, 2239, 2303, 2367] h h_91) → (0 ≤ x2 ∧ x2 ≤ 17) → ((-2147483648) ≤ x3 ∧ x3 ≤ 2147483647) → (0 ≤ x4 ∧ x4 ≤ 1) → (1 ≤ xL5_32 ∧ xL5_32 ≤ 1024) → ((-2147483648) ≤ xL6_91 ∧ xL6_91 ≤ 2147483647) → (0 ≤ xL7_32 ∧ xL7_32 ≤ 1023) → pv_T K 105 91 (pv_fl [some (.ref a0), some (.ref a1), some (.int (pv_I x2)), some (.int (pv_I x3)), some (.int (pv_I x4)), some (.int (pv_I xL5_32)), some (.int (pv_I xL6_91)), some (.int (pv_I xL7_32))]) [] h_91 (Q105 τ ρ h a0 a1 x2 x3 x4) := by
        intro h_91 xL6_91 hT_91 hF_91 rL2_91 rL3_91 rL4_91 rL5_91 rL6_91 rL7_91
        refine pw_iinc d105_91 m105 rfl rfl rfl ?_
        refine pw_goto d105_94 rfl ?_
        exact ih32 h_91 (xL5_32) (xL6_91) ((xL7_32 + 1)) hT_91 hF_91 (by omega) (by omega) (by omega) (by omega) (by omega) (by omega) (by omega)
      refine pw_iload d105_32 rfl ?_
      refine pw_iload d105_34 rfl ?_
      refine pw_icmp_ge d105_36 rfl (by omega) (by omega) (fun c36 => ?_) (fun c36 => ?_)
      · refine pw_iload d105_97 rfl ?_
        exact pw_ireturn d105_99 tt105 ⟨hT_32, hF_32, xL6_32, rfl, (by omega), (by omega)⟩
      · refine pw_aload_n d105_39 rfl ?_
        refine pw_aload_n d105_40 rfl ?_
        refine pw_iload d105_41 rfl ?_
        refine pw_callV2 d105_43 k105_87 hT_32 hA0 rfl rfl rfl (ct99 (τ := τ) (ρ := ρ) hT_32 hA0 hA1 (by omega)) (fun r43 h43 q43 => ?_)
        obtain ⟨T43, F43, ez43⟩ := q43
        subst ez43
        have f43 := hF_32.tr (F43.up (by decide))
        refine pw_aload_n d105_46 rfl ?_
        refine pw_callV0 d105_47 k105_91 T43 hA0 rfl rfl rfl (ct101 (τ := τ) (ρ := ρ) T43 hA0) (fun r47 h47 q47 => ?_)
        obtain ⟨eh47, z47, ez47, lz47, uz47⟩ := q47
        subst eh47
        subst ez47
        refine pw_if_eq d105_50 rfl (by omega) (fun c50 => ?_) (fun c50 => ?_)
        · refine pw_iload d105_55 rfl ?_
          refine pw_if_eq d105_57 rfl (by omega) (fun c57 => ?_) (fun c57 => ?_)
          · refine pw_iload d105_77 rfl ?_
            refine pw_aload_n d105_79 rfl ?_
            refine pw_aload_n d105_80 rfl ?_
            refine pw_iload_n d105_81 rfl ?_
            refine pw_iload_n d105_82 rfl ?_
            refine pw_callV3 d105_83 k105_102 T43 hA0 rfl rfl rfl (ct107 (τ := τ) (ρ := ρ) T43 hA0 hA1 (by omega) (by omega)) (fun r83 h83 q83 => ?_)
            obtain ⟨eh83, z83, ez83, lz83, uz83⟩ := q83
            subst eh83
            subst ez83
            refine pw_mmax d105_86 k105_76 rfl (by omega) (by omega) (fun z86 pz86 hz86 => ?_)
            refine pw_istore d105_89 m105 rfl rfl ?_
            exact J91 h43 (z86) T43 f43 (by omega) (by omega) (by omega) (by omega) (by omega) (by omega)
          · refine pw_iload d105_60 rfl ?_
            refine pw_aload_n d105_62 rfl ?_
            refine pw_aload_n d105_63 rfl ?_
            refine pw_iload_n d105_64 rfl ?_
            refine pw_iload_n d105_65 rfl ?_
            refine pw_callV3 d105_66 k105_99 T43 hA0 rfl rfl rfl (ct106 (τ := τ) (ρ := ρ) T43 hA0 hA1 (by omega) (by omega)) (fun r66 h66 q66 => ?_)
            obtain ⟨eh66, z66, ez66, lz66, uz66⟩ := q66
            subst eh66
            subst ez66
            refine pw_mmin d105_69 k105_70 rfl (by omega) (by omega) (fun z69 pz69 hz69 => ?_)
            refine pw_istore d105_72 m105 rfl rfl ?_
            refine pw_goto d105_74 rfl ?_
            exact J91 h43 (z69) T43 f43 (by omega) (by omega) (by omega) (by omega) (by omega) (by omega)
        · refine pw_iconst d105_53 ?_
          exact pw_ireturn d105_54 tt105 ⟨T43, f43, (-1), rfl, (by omega), (by omega)⟩
  have J27 : ∀ (h_27 : pv_H) (xL5_27 xS0_27 : Int) (o6_27 o7_27 : Option Value), (pv_Ty τ ρ h_27) → (pv_Fr τ [323, 324, 325, 326, 327, 2239, 2303, 2367] h h_27) → (0 ≤ x2 ∧ x2 ≤ 17) → ((-2147483648) ≤ x3 ∧ x3 ≤ 2147483647) → (0 ≤ x4 ∧ x4 ≤ 1) → (1 ≤ xL5_27 ∧ xL5_27 ≤ 1024) → (0 ≤ xS0_27 ∧ xS0_27 ≤ 360) → pv_T K 105 27 (pv_fl [some (.ref a0), some (.ref a1), some (.int (pv_I x2)), some (.int (pv_I x3)), some (.int (pv_I x4)), some (.int (pv_I xL5_27)), o6_27, o7_27]) [.int (pv_I xS0_27)] h_27 (Q105 τ ρ h a0 a1 x2 x3 x4) := by
    intro h_27 xL5_27 xS0_27 o6_27 o7_27 hT_27 hF_27 rL2_27 rL3_27 rL4_27 rL5_27 rS0_27
    refine pw_istore d105_27 m105 rfl rfl ?_
    refine pw_iconst d105_29 ?_
    refine pw_istore d105_30 m105 rfl rfl ?_
    exact L32 _ h_27 (xL5_27) (xS0_27) (0) hT_27 hF_27 (by omega) (by omega) (by omega) (by omega) (by omega) (by omega) (pv_mu _)
  refine pw_aload_n d105_0 rfl ?_
  refine pw_aload_n d105_1 rfl ?_
  refine pw_aload_n d105_2 rfl ?_
  refine pw_callS1 d105_3 k105_79 rfl rfl (ct94 (τ := τ) (ρ := ρ) hT hA1) (fun r3 h3 q3 => ?_)
  obtain ⟨eh3, z3, ez3, lz3, uz3⟩ := q3
  subst eh3
  subst ez3
  refine pw_callV2 d105_6 k105_83 hT hA0 rfl rfl rfl (ct95 (τ := τ) (ρ := ρ) hT hA0 hA1 (by omega)) (fun r6 h6 q6 => ?_)
  obtain ⟨T6, F6, z6, ez6, lz6, uz6⟩ := q6
  subst ez6
  have f6 := hF0.tr (F6.up (by decide))
  refine pw_istore d105_9 m105 rfl rfl ?_
  refine pw_iload d105_11 rfl ?_
  refine pw_if_eq d105_13 rfl (by omega) (fun c13 => ?_) (fun c13 => ?_)
  · refine pw_aload_n d105_23 rfl ?_
    refine pw_getI d105_24 g105_69 T6 hA1 rfl rfl (fun u24 vu24 => ?_)
    exact J27 h6 (z6) ((pv_fI h6 a1 3)) _ _ T6 f6 (by omega) (by omega) (by omega) (by omega) (by omega)
  · refine pw_aload_n d105_16 rfl ?_
    refine pw_getI d105_17 g105_65 T6 hA1 rfl rfl (fun u17 vu17 => ?_)
    refine pw_goto d105_20 rfl ?_
    exact J27 h6 (z6) ((pv_fI h6 a1 4)) _ _ T6 f6 (by omega) (by omega) (by omega) (by omega) (by omega)

abbrev Q110 (τ : Nat → Option Nat) (ρ : Nat → Nat → Nat) (h : pv_H) (a0 : Nat) (a1 : Nat) (x2 : Int) (x3 : Int) : Option Value → pv_H → Prop := fun r h' => pv_Ty τ ρ h' ∧ pv_Fr τ [323, 324, 325, 326, 327, 2239, 2303, 2367] h h' ∧ ∃ z : Int, r = some (.int (pv_I z)) ∧ (-1) ≤ z ∧ z ≤ 3600
set_option maxHeartbeats 4000000 in
set_option maxRecDepth 20000 in
/-- AngleNet$Laying.angleBound(LAngleNet$Net;IZ)I -/
theorem ct110 {τ : Nat → Option Nat} {ρ : Nat → Nat → Nat} {K : Nat → Nat} {h : pv_H} {a0 : Nat} {a1 : Nat} {x2 : Int} {x3 : Int} (hT : pv_Ty τ ρ h) (hA0 : τ a0 = some 5) (hA1 : τ a1 = some 2) (hX2 : (-2147483648) ≤ x2 ∧ x2 ≤ 2147483647) (hX3 : 0 ≤ x3 ∧ x3 ≤ 1) : pv_C K 110 [.ref a0, .ref a1, .int (pv_I x2), .int (pv_I x3)] h (Q110 τ ρ h a0 a1 x2 x3) := by
  refine pw_entry 4 ?_
  show pv_T K 110 0 (pv_fl [some (.ref a0), some (.ref a1), some (.int (pv_I x2)), some (.int (pv_I x3)), none, none, none, none]) [] h (Q110 τ ρ h a0 a1 x2 x3)
  have hF0 : pv_Fr τ [323, 324, 325, 326, 327, 2239, 2303, 2367] h h := pv_Fr.rf
  have L28 : ∀ (nn : Nat) (h_28 : pv_H) (xL4_28 xL5_28 xL6_28 xL7_28 : Int), (pv_Ty τ ρ h_28) → (pv_Fr τ [323, 324, 325, 326, 327, 2239, 2303, 2367] h h_28) → ((-2147483648) ≤ x2 ∧ x2 ≤ 2147483647) → (0 ≤ x3 ∧ x3 ≤ 1) → (1 ≤ xL4_28 ∧ xL4_28 ≤ 1024) → (1 ≤ xL5_28 ∧ xL5_28 ≤ 2147483647) → ((-2147483648) ≤ xL6_28 ∧ xL6_28 ≤ 3600) → (0 ≤ xL7_28 ∧ xL7_28 ≤ 1024) → 1024 - xL7_28 < nn → pv_T K 110 28 (pv_fl [some (.ref a0), some (.ref a1), some (.int (pv_I x2)), some (.int (pv_I x3)), some (.int (pv_I xL4_28)), some (.int (pv_I xL5_28)), some (.int (pv_I xL6_28)), some (.int (pv_I xL7_28))]) [] h_28 (Q110 τ ρ h a0 a1 x2 x3) := by
    intro nn
    induction nn with
    | zero => intro h_28 xL4_28 xL5_28 xL6_28 xL7_28 hT_28 hF_28 rL2_28 rL3_28 rL4_28 rL5_28 rL6_28 rL7_28 hm; exfalso; omega
    | succ nn ih28 =>
      intro h_28 xL4_28 xL5_28 xL6_28 xL7_28 hT_28 hF_28 rL2_28 rL3_28 rL4_28 rL5_28 rL6_28 rL7_28 hm28
      refine pw_iload d110_28 rfl ?_
      refine pw_iload d110_30 rfl ?_
      refine pw_icmp_ge d110_32 rfl (by omega) (by omega) (fun c32 => ?_) (fun c32 => ?_)
      · refine pw_iload d110_103 rfl ?_
        refine pw_iload d110_105 rfl ?_
        refine pw_icmp_le d110_107 rfl (by omega) (by omega) (fun c107 => ?_) (fun c107 => ?_)
        · refine pw_iload_n d110_112 rfl ?_
          refine pw_if_eq d110_113 rfl (by omega) (fun c113 => ?_) (fun c113 => ?_)
          · refine pw_iload d110_121 rfl ?_
            exact pw_ireturn d110_123 tt110 ⟨hT_28, hF_28, xL5_28, rfl, (by omega), (by omega)⟩
          · refine pw_iload d110_116 rfl ?_
            refine pw_goto d110_118 rfl ?_
            exact pw_ireturn d110_123 tt110 ⟨hT_28, hF_28, xL6_28, rfl, (by omega), (by omega)⟩
        · refine pw_iconst d110_110 ?_
          exact pw_ireturn d110_111 tt110 ⟨hT_28, hF_28, (-1), rfl, (by omega), (by omega)⟩
      · refine pw_aload_n d110_35 rfl ?_
        refine pw_aload_n d110_36 rfl ?_
        refine pw_iload d110_37 rfl ?_
        refine pw_callV2 d110_39 k110_87 hT_28 hA0 rfl rfl rfl (ct99 (τ := τ) (ρ := ρ) hT_28 hA0 hA1 (by omega)) (fun r39 h39 q39 => ?_)
        obtain ⟨T39, F39, ez39⟩ := q39
        subst ez39
        have f39 := hF_28.tr (F39.up (by decide))
        refine pw_aload_n d110_42 rfl ?_
        refine pw_callV0 d110_43 k110_91 T39 hA0 rfl rfl rfl (ct101 (τ := τ) (ρ := ρ) T39 hA0) (fun r43 h43 q43 => ?_)
        obtain ⟨eh43, z43, ez43, lz43, uz43⟩ := q43
        subst eh43
        subst ez43
        refine pw_if_eq d110_46 rfl (by omega) (fun c46 => ?_) (fun c46 => ?_)
        · refine pw_aload_n d110_51 rfl ?_
          refine pw_aload_n d110_52 rfl ?_
          refine pw_iload_n d110_53 rfl ?_
          refine pw_iconst d110_54 ?_
          refine pw_callV3 d110_55 k110_61 T39 hA0 rfl rfl rfl (ct100 (τ := τ) (ρ := ρ) T39 hA0 hA1 (by omega) (by omega)) (fun r55 h55 q55 => ?_)
          obtain ⟨T55, F55, ez55⟩ := q55
          subst ez55
          have f55 := f39.tr (F55.up (by decide))
          refine pw_iload d110_58 rfl ?_
          refine pw_aload_n d110_60 rfl ?_
          refine pw_getI d110_61 g110_39 T55 hA0 rfl rfl (fun u61 vu61 => ?_)
          refine pw_aload_n d110_64 rfl ?_
          refine pw_getI d110_65 g110_42 T55 hA0 rfl rfl (fun u65 vu65 => ?_)
          refine pw_isub d110_68 ?_
          refine pw_any (fun z69 hz69 ez69 => ?_)
          refine pw_mmax d110_69 k110_76 rfl (by omega) (by omega) (fun z69b pz69b hz69b => ?_)
          refine pw_istore d110_72 m110 rfl rfl ?_
          refine pw_iload d110_74 rfl ?_
          refine pw_aload_n d110_76 rfl ?_
          refine pw_getI d110_77 g110_36 T55 hA0 rfl rfl (fun u77 vu77 => ?_)
          refine pw_aload_n d110_80 rfl ?_
          refine pw_getI d110_81 g110_42 T55 hA0 rfl rfl (fun u81 vu81 => ?_)
          refine pw_isub d110_84 ?_
          refine pw_any (fun z85 hz85 ez85 => ?_)
          refine pw_mmin d110_85 k110_70 rfl (by omega) (by omega) (fun z85b pz85b hz85b => ?_)
          refine pw_istore d110_88 m110 rfl rfl ?_
          refine pw_aload_n d110_90 rfl ?_
          refine pw_aload_n d110_91 rfl ?_
          refine pw_iload_n d110_92 rfl ?_
          refine pw_iconst d110_93 ?_
          refine pw_callV3 d110_94 k110_61 T55 hA0 rfl rfl rfl (ct100 (τ := τ) (ρ := ρ) T55 hA0 hA1 (by omega) (by omega)) (fun r94 h94 q94 => ?_)
          obtain ⟨T94, F94, ez94⟩ := q94
          subst ez94
          have f94 := f55.tr (F94.up (by decide))
          have q94b := ((F94 a0 5 hA0).1 7 (by decide)).1
          refine pw_iinc d110_97 m110 rfl rfl rfl ?_
          refine pw_goto d110_100 rfl ?_
          exact ih28 h94 (xL4_28) (z69b) (z85b) ((xL7_28 + 1)) T94 f94 (by omega) (by omega) (by omega) (by omega) (by omega) (by omega) (by omega)
        · refine pw_iconst d110_49 ?_
          exact pw_ireturn d110_50 tt110 ⟨T39, f39, (-1), rfl, (by omega), (by omega)⟩
  refine pw_aload_n d110_0 rfl ?_
  refine pw_aload_n d110_1 rfl ?_
  refine pw_aload_n d110_2 rfl ?_
  refine pw_callS1 d110_3 k110_79 rfl rfl (ct94 (τ := τ) (ρ := ρ) hT hA1) (fun r3 h3 q3 => ?_)
  obtain ⟨eh3, z3, ez3, lz3, uz3⟩ := q3
  subst eh3
  subst ez3
  refine pw_iconst d110_6 ?_
  refine pw_iload_n d110_7 rfl ?_
  refine pw_ishl d110_8 (fun z8 hz8 ez8 => ?_)
  refine pw_iconst d110_9 ?_
  refine pw_ixor d110_10 (fun z10 hz10 ez10 => ?_)
  refine pw_iand d110_11 (fun z11 hz11 ez11 => ?_)
  refine pw_callV2 d110_12 k110_83 hT hA0 rfl rfl rfl (ct95 (τ := τ) (ρ := ρ) hT hA0 hA1 (by omega)) (fun r12 h12 q12 => ?_)
  obtain ⟨T12, F12, z12, ez12, lz12, uz12⟩ := q12
  subst ez12
  have f12 := hF0.tr (F12.up (by decide))
  refine pw_istore d110_15 m110 rfl rfl ?_
  refine pw_iconst d110_17 ?_
  refine pw_istore d110_18 m110 rfl rfl ?_
  refine pw_sipush d110_20 (by decide) ?_
  refine pw_istore d110_23 m110 rfl rfl ?_
  refine pw_iconst d110_25 ?_
  refine pw_istore d110_26 m110 rfl rfl ?_
  exact L28 _ h12 (z12) (1) (3600) (0) T12 f12 (by omega) (by omega) (by omega) (by omega) (by omega) (by omega) (pv_mu _)
