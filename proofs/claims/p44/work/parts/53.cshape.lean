abbrev Q66 (τ : Nat → Option Nat) (ρ : Nat → Nat → Nat) (h : pv_H) (a0 : Nat) (a1 : Nat) : Option Value → pv_H → Prop := fun r h' => h = h' ∧ ∃ z : Int, r = some (.int (pv_I z)) ∧ 0 ≤ z ∧ z ≤ 1023
set_option maxHeartbeats 4000000 in
set_option maxRecDepth 20000 in
/-- AngleNet$Shape.usedPosts(LAngleNet$Net;)I -/
theorem ct66 {τ : Nat → Option Nat} {ρ : Nat → Nat → Nat} {K : Nat → Nat} {h : pv_H} {a0 : Nat} {a1 : Nat} (hT : pv_Ty τ ρ h) (hA0 : τ a0 = some 4) (hA1 : τ a1 = some 2) : pv_C K 66 [.ref a0, .ref a1] h (Q66 τ ρ h a0 a1) := by
  refine pw_entry 2 ?_
  show pv_T K 66 0 (pv_fl [some (.ref a0), some (.ref a1), none, none]) [] h (Q66 τ ρ h a0 a1)
  have L4 : ∀ (nn : Nat) (xL2_4 xL3_4 : Int) (o0_4 : Option Value), (0 ≤ xL2_4 ∧ xL2_4 ≤ 1023) → (0 ≤ xL3_4 ∧ xL3_4 ≤ 18) → 18 - xL3_4 < nn → pv_T K 66 4 (pv_fl [o0_4, some (.ref a1), some (.int (pv_I xL2_4)), some (.int (pv_I xL3_4))]) [] h (Q66 τ ρ h a0 a1) := by
    intro nn
    induction nn with
    | zero => intro xL2_4 xL3_4 o0_4 rL2_4 rL3_4 hm; exfalso; omega
    | succ nn ih4 =>
      intro xL2_4 xL3_4 o0_4 rL2_4 rL3_4 hm4
      refine pw_iload_n d66_4 rfl ?_
      refine pw_aload_n d66_5 rfl ?_
      refine pw_getI d66_6 g66_18 hT hA1 rfl rfl (fun u6 vu6 => ?_)
      refine pw_icmp_ge d66_9 rfl (by omega) (by omega) (fun c9 => ?_) (fun c9 => ?_)
      · refine pw_iload_n d66_26 rfl ?_
        exact pw_ireturn d66_27 tt66 ⟨rfl, xL2_4, rfl, (by omega), (by omega)⟩
      · refine pw_iload_n d66_12 rfl ?_
        refine pw_aload_n d66_13 rfl ?_
        refine pw_iload_n d66_14 rfl ?_
        refine pw_callV1 d66_15 k66_24 hT hA1 rfl rfl rfl (ct40 (τ := τ) (ρ := ρ) hT hA1 (by omega)) (fun r15 h15 q15 => ?_)
        obtain ⟨eh15, z15, ez15, lz15, uz15⟩ := q15
        subst eh15
        subst ez15
        refine pw_ior d66_18 (fun z18 hz18 ez18 => ?_)
        have bz18 := pv_or_b (n := 10) (m := 1024) (x := xL2_4) (y := z15) (by omega) (by omega) (by omega) (by omega) (by decide) (by decide) hz18 ez18
        refine pw_istore_n d66_19 m66 rfl rfl ?_
        refine pw_iinc d66_20 m66 rfl rfl rfl ?_
        refine pw_goto d66_23 rfl ?_
        exact ih4 (z18) ((xL3_4 + 1)) _ (by omega) (by omega) (by omega)
  refine pw_iconst d66_0 ?_
  refine pw_istore_n d66_1 m66 rfl rfl ?_
  refine pw_iconst d66_2 ?_
  refine pw_istore_n d66_3 m66 rfl rfl ?_
  exact L4 _ (0) (0) _ (by omega) (by omega) (pv_mu _)

abbrev Q65 (τ : Nat → Option Nat) (ρ : Nat → Nat → Nat) (h : pv_H) (a0 : Nat) (a1 : Nat) : Option Value → pv_H → Prop := fun r h' => h = h' ∧ ∃ z : Int, r = some (.int (pv_I z)) ∧ (-2147483648) ≤ z ∧ z ≤ 2147483647
set_option maxHeartbeats 4000000 in
set_option maxRecDepth 20000 in
/-- AngleNet$Shape.euler(LAngleNet$Net;)I -/
theorem ct65 {τ : Nat → Option Nat} {ρ : Nat → Nat → Nat} {K : Nat → Nat} {h : pv_H} {a0 : Nat} {a1 : Nat} (hT : pv_Ty τ ρ h) (hA0 : τ a0 = some 4) (hA1 : τ a1 = some 2) : pv_C K 65 [.ref a0, .ref a1] h (Q65 τ ρ h a0 a1) := by
  refine pw_entry 0 ?_
  show pv_T K 65 0 (pv_fl [some (.ref a0), some (.ref a1)]) [] h (Q65 τ ρ h a0 a1)
  refine pw_aload_n d65_0 rfl ?_
  refine pw_aload_n d65_1 rfl ?_
  refine pw_callV1 d65_2 k65_28 hT hA0 rfl rfl rfl (ct66 (τ := τ) (ρ := ρ) hT hA0 hA1) (fun r2 h2 q2 => ?_)
  obtain ⟨eh2, z2, ez2, lz2, uz2⟩ := q2
  subst eh2
  subst ez2
  refine pw_callS1 d65_5 k65_32 rfl rfl (ct67 (τ := τ) (ρ := ρ) (by omega)) (fun r5 h5 q5 => ?_)
  obtain ⟨eh5, z5, ez5, lz5, uz5⟩ := q5
  subst eh5
  subst ez5
  refine pw_aload_n d65_8 rfl ?_
  refine pw_callV0 d65_9 k65_37 hT hA1 rfl rfl rfl (ct68 (τ := τ) (ρ := ρ) hT hA1) (fun r9 h9 q9 => ?_)
  obtain ⟨eh9, z9, ez9, lz9, uz9⟩ := q9
  subst eh9
  subst ez9
  refine pw_isub d65_12 ?_
  refine pw_aload_n d65_13 rfl ?_
  refine pw_getI d65_14 g65_18 hT hA1 rfl rfl (fun u14 vu14 => ?_)
  refine pw_iadd d65_17 ?_
  refine pw_any (fun z18 hz18 ez18 => ?_)
  exact pw_ireturn d65_18 tt65 ⟨rfl, z18, rfl, (by omega), (by omega)⟩

abbrev Q70 (τ : Nat → Option Nat) (ρ : Nat → Nat → Nat) (h : pv_H) (a0 : Nat) (a1 : Nat) (x2 : Int) : Option Value → pv_H → Prop := fun r h' => h = h' ∧ ∃ z : Int, r = some (.int (pv_I z)) ∧ 0 ≤ z ∧ z ≤ 1
set_option maxHeartbeats 4000000 in
set_option maxRecDepth 20000 in
/-- AngleNet$Shape.hangsTogether(LAngleNet$Net;I)Z -/
theorem ct70 {τ : Nat → Option Nat} {ρ : Nat → Nat → Nat} {K : Nat → Nat} {h : pv_H} {a0 : Nat} {a1 : Nat} {x2 : Int} (hT : pv_Ty τ ρ h) (hA0 : τ a0 = some 4) (hA1 : τ a1 = some 2) (hX2 : (-2147483648) ≤ x2 ∧ x2 ≤ 2147483647) : pv_C K 70 [.ref a0, .ref a1, .int (pv_I x2)] h (Q70 τ ρ h a0 a1 x2) := by
  refine pw_entry 5 ?_
  show pv_T K 70 0 (pv_fl [some (.ref a0), some (.ref a1), some (.int (pv_I x2)), none, none, none, none, none]) [] h (Q70 τ ρ h a0 a1 x2)
  have L8 : ∀ (nn : Nat) (xL3_8 xL4_8 xL5_8 : Int) (o0_8 o6_8 o7_8 : Option Value), ((-2147483648) ≤ x2 ∧ x2 ≤ 2147483647) → ((-2147483648) ≤ xL3_8 ∧ xL3_8 ≤ 2147483647) → ((-2147483648) ≤ xL4_8 ∧ xL4_8 ≤ 2147483647) → (0 ≤ xL5_8 ∧ xL5_8 ≤ 18) → 18 - xL5_8 < nn → pv_T K 70 8 (pv_fl [o0_8, some (.ref a1), some (.int (pv_I x2)), some (.int (pv_I xL3_8)), some (.int (pv_I xL4_8)), some (.int (pv_I xL5_8)), o6_8, o7_8]) [] h (Q70 τ ρ h a0 a1 x2) := by
    intro nn
    induction nn with
    | zero => intro xL3_8 xL4_8 xL5_8 o0_8 o6_8 o7_8 rL2_8 rL3_8 rL4_8 rL5_8 hm; exfalso; omega
    | succ nn ih8 =>
      intro xL3_8 xL4_8 xL5_8 o0_8 o6_8 o7_8 rL2_8 rL3_8 rL4_8 rL5_8 hm8
      have L20 : ∀ (nn : Nat) (xL3_20 xL4_20 xL6_20 : Int) (o0_20 o7_20 : Option Value), ((-2147483648) ≤ x2 ∧ x2 ≤ 2147483647) → ((-2147483648) ≤ xL3_20 ∧ xL3_20 ≤ 2147483647) → ((-2147483648) ≤ xL4_20 ∧ xL4_20 ≤ 2147483647) → (0 ≤ xL5_8 ∧ xL5_8 ≤ 17) → (0 ≤ xL6_20 ∧ xL6_20 ≤ 18) → 18 - xL6_20 < nn → pv_T K 70 20 (pv_fl [o0_20, some (.ref a1), some (.int (pv_I x2)), some (.int (pv_I xL3_20)), some (.int (pv_I xL4_20)), some (.int (pv_I xL5_8)), some (.int (pv_I xL6_20)), o7_20]) [] h (Q70 τ ρ h a0 a1 x2) := by
        intro nn
        induction nn with
        | zero => intro xL3_20 xL4_20 xL6_20 o0_20 o7_20 rL2_20 rL3_20 rL4_20 rL5_20 rL6_20 hm; exfalso; omega
        | succ nn ih20 =>
          intro xL3_20 xL4_20 xL6_20 o0_20 o7_20 rL2_20 rL3_20 rL4_20 rL5_20 rL6_20 hm20
          have J79 : ∀ (xL3_79 xL4_79 : Int) (o0_79 o7_79 : Option Value), ((-2147483648) ≤ x2 ∧ x2 ≤ 2147483647) → ((-2147483648) ≤ xL3_79 ∧ xL3_79 ≤ 2147483647) → ((-2147483648) ≤ xL4_79 ∧ xL4_79 ≤ 2147483647) → (0 ≤ xL5_8 ∧ xL5_8 ≤ 17) → (0 ≤ xL6_20 ∧ xL6_20 ≤ 17) → pv_T K 70 79 (pv_fl [o0_79, some (.ref a1), some (.int (pv_I x2)), some (.int (pv_I xL3_79)), some (.int (pv_I xL4_79)), some (.int (pv_I xL5_8)), some (.int (pv_I xL6_20)), o7_79]) [] h (Q70 τ ρ h a0 a1 x2) := by
            intro xL3_79 xL4_79 o0_79 o7_79 rL2_79 rL3_79 rL4_79 rL5_79 rL6_79
            refine pw_iinc d70_79 m70 rfl rfl rfl ?_
            refine pw_goto d70_82 rfl ?_
            exact ih20 (xL3_79) (xL4_79) ((xL6_20 + 1)) _ _ (by omega) (by omega) (by omega) (by omega) (by omega) (by omega)
          have J65 : ∀ (xL3_65 xL4_65 xL7_65 : Int) (o0_65 : Option Value), ((-2147483648) ≤ x2 ∧ x2 ≤ 2147483647) → ((-2147483648) ≤ xL3_65 ∧ xL3_65 ≤ 2147483647) → ((-2147483648) ≤ xL4_65 ∧ xL4_65 ≤ 2147483647) → (0 ≤ xL5_8 ∧ xL5_8 ≤ 17) → (0 ≤ xL6_20 ∧ xL6_20 ≤ 17) → ((-2147483648) ≤ xL7_65 ∧ xL7_65 ≤ 2147483647) → pv_T K 70 65 (pv_fl [o0_65, some (.ref a1), some (.int (pv_I x2)), some (.int (pv_I xL3_65)), some (.int (pv_I xL4_65)), some (.int (pv_I xL5_8)), some (.int (pv_I xL6_20)), some (.int (pv_I xL7_65))]) [] h (Q70 τ ρ h a0 a1 x2) := by
            intro xL3_65 xL4_65 xL7_65 o0_65 rL2_65 rL3_65 rL4_65 rL5_65 rL6_65 rL7_65
            refine pw_iload_n d70_65 rfl ?_
            refine pw_iconst d70_66 ?_
            refine pw_iload d70_67 rfl ?_
            refine pw_ishl d70_69 (fun z69 hz69 ez69 => ?_)
            have bz69 := pv_shl1_b (n := 17) (m := 131072) (y := xL6_20) (by omega) (by omega) (by decide) (by decide) hz69 ez69
            refine pw_ior d70_70 (fun z70 hz70 ez70 => ?_)
            refine pw_istore_n d70_71 m70 rfl rfl ?_
            refine pw_iload d70_72 rfl ?_
            refine pw_iload d70_74 rfl ?_
            refine pw_ior d70_76 (fun z76 hz76 ez76 => ?_)
            refine pw_istore d70_77 m70 rfl rfl ?_
            exact J79 (z70) (z76) _ _ (by omega) (by omega) (by omega) (by omega) (by omega)
          refine pw_iload d70_20 rfl ?_
          refine pw_aload_n d70_22 rfl ?_
          refine pw_getI d70_23 g70_18 hT hA1 rfl rfl (fun u23 vu23 => ?_)
          refine pw_icmp_ge d70_26 rfl (by omega) (by omega) (fun c26 => ?_) (fun c26 => ?_)
          · refine pw_iinc d70_85 m70 rfl rfl rfl ?_
            refine pw_goto d70_88 rfl ?_
            exact ih8 (xL3_20) (xL4_20) ((xL5_8 + 1)) _ _ _ (by omega) (by omega) (by omega) (by omega) (by omega)
          · refine pw_aload_n d70_29 rfl ?_
            refine pw_iload d70_30 rfl ?_
            refine pw_callV1 d70_32 k70_24 hT hA1 rfl rfl rfl (ct40 (τ := τ) (ρ := ρ) hT hA1 (by omega)) (fun r32 h32 q32 => ?_)
            obtain ⟨eh32, z32, ez32, lz32, uz32⟩ := q32
            subst eh32
            subst ez32
            refine pw_iconst d70_35 ?_
            refine pw_iload_n d70_36 rfl ?_
            refine pw_ishl d70_37 (fun z37 hz37 ez37 => ?_)
            refine pw_iconst d70_38 ?_
            refine pw_ixor d70_39 (fun z39 hz39 ez39 => ?_)
            refine pw_iand d70_40 (fun z40 hz40 ez40 => ?_)
            refine pw_istore d70_41 m70 rfl rfl ?_
            refine pw_aload_n d70_43 rfl ?_
            refine pw_iload d70_44 rfl ?_
            refine pw_iload_n d70_46 rfl ?_
            refine pw_callV2 d70_47 k70_48 hT hA1 rfl rfl rfl (ct58 (τ := τ) (ρ := ρ) hT hA1 (by omega) (by omega)) (fun r47 h47 q47 => ?_)
            obtain ⟨eh47, z47, ez47, lz47, uz47⟩ := q47
            subst eh47
            subst ez47
            refine pw_if_eq d70_50 rfl (by omega) (fun c50 => ?_) (fun c50 => ?_)
            · exact J79 (xL3_20) (xL4_20) _ _ (by omega) (by omega) (by omega) (by omega) (by omega)
            · refine pw_iload_n d70_53 rfl ?_
              refine pw_if_eq d70_54 rfl (by omega) (fun c54 => ?_) (fun c54 => ?_)
              · exact J65 (xL3_20) (xL4_20) (z40) _ (by omega) (by omega) (by omega) (by omega) (by omega) (by omega)
              · refine pw_iload d70_57 rfl ?_
                refine pw_iload d70_59 rfl ?_
                refine pw_iand d70_61 (fun z61 hz61 ez61 => ?_)
                refine pw_if_eq d70_62 rfl (by omega) (fun c62 => ?_) (fun c62 => ?_)
                · exact J79 (xL3_20) (xL4_20) _ _ (by omega) (by omega) (by omega) (by omega) (by omega)
                · exact J65 (xL3_20) (xL4_20) (z40) _ (by omega) (by omega) (by omega) (by omega) (by omega) (by omega)
      refine pw_iload d70_8 rfl ?_
      refine pw_aload_n d70_10 rfl ?_
      refine pw_getI d70_11 g70_18 hT hA1 rfl rfl (fun u11 vu11 => ?_)
      refine pw_icmp_ge d70_14 rfl (by omega) (by omega) (fun c14 => ?_) (fun c14 => ?_)
      · refine pw_iload_n d70_91 rfl ?_
        refine pw_callS1 d70_92 k70_32 rfl rfl (ct67 (τ := τ) (ρ := ρ) (by omega)) (fun r92 h92 q92 => ?_)
        obtain ⟨eh92, z92, ez92, lz92, uz92⟩ := q92
        subst eh92
        subst ez92
        refine pw_aload_n d70_95 rfl ?_
        refine pw_iload_n d70_96 rfl ?_
        refine pw_callV1 d70_97 k70_52 hT hA1 rfl rfl rfl (ct57 (τ := τ) (ρ := ρ) hT hA1 (by omega)) (fun r97 h97 q97 => ?_)
        obtain ⟨eh97, z97, ez97, lz97, uz97⟩ := q97
        subst eh97
        subst ez97
        refine pw_icmp_ne d70_100 rfl (by omega) (by omega) (fun c100 => ?_) (fun c100 => ?_)
        · refine pw_iconst d70_107 ?_
          exact pw_zreturn d70_108 tt70 (by omega) ⟨rfl, 0, rfl, (by omega), (by omega)⟩
        · refine pw_iconst d70_103 ?_
          refine pw_goto d70_104 rfl ?_
          exact pw_zreturn d70_108 tt70 (by omega) ⟨rfl, 1, rfl, (by omega), (by omega)⟩
      · refine pw_iconst d70_17 ?_
        refine pw_istore d70_18 m70 rfl rfl ?_
        exact L20 _ (xL3_8) (xL4_8) (0) _ _ (by omega) (by omega) (by omega) (by omega) (by omega) (pv_mu _)
  refine pw_iconst d70_0 ?_
  refine pw_istore_n d70_1 m70 rfl rfl ?_
  refine pw_iconst d70_2 ?_
  refine pw_istore d70_3 m70 rfl rfl ?_
  refine pw_iconst d70_5 ?_
  refine pw_istore d70_6 m70 rfl rfl ?_
  exact L8 _ (0) (0) (0) _ _ _ (by omega) (by omega) (by omega) (by omega) (pv_mu _)

abbrev Q69 (τ : Nat → Option Nat) (ρ : Nat → Nat → Nat) (h : pv_H) (a0 : Nat) (a1 : Nat) : Option Value → pv_H → Prop := fun r h' => h = h' ∧ ∃ z : Int, r = some (.int (pv_I z)) ∧ 0 ≤ z ∧ z ≤ 1
set_option maxHeartbeats 4000000 in
set_option maxRecDepth 20000 in
/-- AngleNet$Shape.isGood(LAngleNet$Net;)Z -/
theorem ct69 {τ : Nat → Option Nat} {ρ : Nat → Nat → Nat} {K : Nat → Nat} {h : pv_H} {a0 : Nat} {a1 : Nat} (hT : pv_Ty τ ρ h) (hA0 : τ a0 = some 4) (hA1 : τ a1 = some 2) : pv_C K 69 [.ref a0, .ref a1] h (Q69 τ ρ h a0 a1) := by
  refine pw_entry 1 ?_
  show pv_T K 69 0 (pv_fl [some (.ref a0), some (.ref a1), none]) [] h (Q69 τ ρ h a0 a1)
  have L2 : ∀ (nn : Nat) (xL2_2 : Int), (0 ≤ xL2_2 ∧ xL2_2 ≤ 10) → 10 - xL2_2 < nn → pv_T K 69 2 (pv_fl [some (.ref a0), some (.ref a1), some (.int (pv_I xL2_2))]) [] h (Q69 τ ρ h a0 a1) := by
    intro nn
    induction nn with
    | zero => intro xL2_2 rL2_2 hm; exfalso; omega
    | succ nn ih2 =>
      intro xL2_2 rL2_2 hm2
      refine pw_iload_n d69_2 rfl ?_
      refine pw_aload_n d69_3 rfl ?_
      refine pw_getI d69_4 g69_41 hT hA1 rfl rfl (fun u4 vu4 => ?_)
      refine pw_icmp_ge d69_7 rfl (by omega) (by omega) (fun c7 => ?_) (fun c7 => ?_)
      · refine pw_iconst d69_27 ?_
        exact pw_zreturn d69_28 tt69 (by omega) ⟨rfl, 1, rfl, (by omega), (by omega)⟩
      · refine pw_aload_n d69_10 rfl ?_
        refine pw_aload_n d69_11 rfl ?_
        refine pw_iload_n d69_12 rfl ?_
        refine pw_callV2 d69_13 k69_44 hT hA0 rfl rfl rfl (ct70 (τ := τ) (ρ := ρ) hT hA0 hA1 (by omega)) (fun r13 h13 q13 => ?_)
        obtain ⟨eh13, z13, ez13, lz13, uz13⟩ := q13
        subst eh13
        subst ez13
        refine pw_if_ne d69_16 rfl (by omega) (fun c16 => ?_) (fun c16 => ?_)
        · refine pw_iinc d69_21 m69 rfl rfl rfl ?_
          refine pw_goto d69_24 rfl ?_
          exact ih2 ((xL2_2 + 1)) (by omega) (by omega)
        · refine pw_iconst d69_19 ?_
          exact pw_zreturn d69_20 tt69 (by omega) ⟨rfl, 0, rfl, (by omega), (by omega)⟩
  refine pw_iconst d69_0 ?_
  refine pw_istore_n d69_1 m69 rfl rfl ?_
  exact L2 _ (0) (by omega) (pv_mu _)

abbrev Q72 (τ : Nat → Option Nat) (ρ : Nat → Nat → Nat) (h : pv_H) (a0 : Nat) (a1 : Nat) (x2 : Int) : Option Value → pv_H → Prop := fun r h' => h = h' ∧ ∃ z : Int, r = some (.int (pv_I z)) ∧ 0 ≤ z ∧ z ≤ 1023
set_option maxHeartbeats 4000000 in
set_option maxRecDepth 20000 in
/-- AngleNet$Shape.partOf(LAngleNet$Net;I)I -/
theorem ct72 {τ : Nat → Option Nat} {ρ : Nat → Nat → Nat} {K : Nat → Nat} {h : pv_H} {a0 : Nat} {a1 : Nat} {x2 : Int} (hT : pv_Ty τ ρ h) (hA0 : τ a0 = some 4) (hA1 : τ a1 = some 2) (hX2 : (-2147483648) ≤ x2 ∧ x2 ≤ 2147483647) : pv_C K 72 [.ref a0, .ref a1, .int (pv_I x2)] h (Q72 τ ρ h a0 a1 x2) := by
  refine pw_entry 4 ?_
  show pv_T K 72 0 (pv_fl [some (.ref a0), some (.ref a1), some (.int (pv_I x2)), none, none, none, none]) [] h (Q72 τ ρ h a0 a1 x2)
  have L5 : ∀ (nn : Nat) (xL3_5 xL4_5 : Int) (o0_5 o5_5 o6_5 : Option Value), ((-2147483648) ≤ x2 ∧ x2 ≤ 2147483647) → (0 ≤ xL3_5 ∧ xL3_5 ≤ 1023) → (0 ≤ xL4_5 ∧ xL4_5 ≤ 17) → 17 - xL4_5 < nn → pv_T K 72 5 (pv_fl [o0_5, some (.ref a1), some (.int (pv_I x2)), some (.int (pv_I xL3_5)), some (.int (pv_I xL4_5)), o5_5, o6_5]) [] h (Q72 τ ρ h a0 a1 x2) := by
    intro nn
    induction nn with
    | zero => intro xL3_5 xL4_5 o0_5 o5_5 o6_5 rL2_5 rL3_5 rL4_5 hm; exfalso; omega
    | succ nn ih5 =>
      intro xL3_5 xL4_5 o0_5 o5_5 o6_5 rL2_5 rL3_5 rL4_5 hm5
      have L17 : ∀ (nn : Nat) (xL3_17 xL5_17 : Int) (o0_17 o6_17 : Option Value), ((-2147483648) ≤ x2 ∧ x2 ≤ 2147483647) → (0 ≤ xL3_17 ∧ xL3_17 ≤ 1023) → (0 ≤ xL4_5 ∧ xL4_5 ≤ 10) → (0 ≤ xL5_17 ∧ xL5_17 ≤ 18) → 18 - xL5_17 < nn → pv_T K 72 17 (pv_fl [o0_17, some (.ref a1), some (.int (pv_I x2)), some (.int (pv_I xL3_17)), some (.int (pv_I xL4_5)), some (.int (pv_I xL5_17)), o6_17]) [] h (Q72 τ ρ h a0 a1 x2) := by
        intro nn
        induction nn with
        | zero => intro xL3_17 xL5_17 o0_17 o6_17 rL2_17 rL3_17 rL4_17 rL5_17 hm; exfalso; omega
        | succ nn ih17 =>
          intro xL3_17 xL5_17 o0_17 o6_17 rL2_17 rL3_17 rL4_17 rL5_17 hm17
          have J50 : ∀ (xL3_50 : Int) (o0_50 o6_50 : Option Value), ((-2147483648) ≤ x2 ∧ x2 ≤ 2147483647) → (0 ≤ xL3_50 ∧ xL3_50 ≤ 1023) → (0 ≤ xL4_5 ∧ xL4_5 ≤ 10) → (0 ≤ xL5_17 ∧ xL5_17 ≤ 17) → pv_T K 72 50 (pv_fl [o0_50, some (.ref a1), some (.int (pv_I x2)), some (.int (pv_I xL3_50)), some (.int (pv_I xL4_5)), some (.int (pv_I xL5_17)), o6_50]) [] h (Q72 τ ρ h a0 a1 x2) := by
            intro xL3_50 o0_50 o6_50 rL2_50 rL3_50 rL4_50 rL5_50
            refine pw_iinc d72_50 m72 rfl rfl rfl ?_
            refine pw_goto d72_53 rfl ?_
            exact ih17 (xL3_50) ((xL5_17 + 1)) _ _ (by omega) (by omega) (by omega) (by omega) (by omega)
          refine pw_iload d72_17 rfl ?_
          refine pw_aload_n d72_19 rfl ?_
          refine pw_getI d72_20 g72_18 hT hA1 rfl rfl (fun u20 vu20 => ?_)
          refine pw_icmp_ge d72_23 rfl (by omega) (by omega) (fun c23 => ?_) (fun c23 => ?_)
          · refine pw_iinc d72_56 m72 rfl rfl rfl ?_
            refine pw_goto d72_59 rfl ?_
            exact ih5 (xL3_17) ((xL4_5 + 1)) _ _ _ (by omega) (by omega) (by omega) (by omega)
          · refine pw_aload_n d72_26 rfl ?_
            refine pw_iload d72_27 rfl ?_
            refine pw_callV1 d72_29 k72_24 hT hA1 rfl rfl rfl (ct40 (τ := τ) (ρ := ρ) hT hA1 (by omega)) (fun r29 h29 q29 => ?_)
            obtain ⟨eh29, z29, ez29, lz29, uz29⟩ := q29
            subst eh29
            subst ez29
            refine pw_istore d72_32 m72 rfl rfl ?_
            refine pw_iload d72_34 rfl ?_
            refine pw_iload_n d72_36 rfl ?_
            refine pw_iconst d72_37 ?_
            refine pw_iload_n d72_38 rfl ?_
            refine pw_ishl d72_39 (fun z39 hz39 ez39 => ?_)
            refine pw_ior d72_40 (fun z40 hz40 ez40 => ?_)
            refine pw_iand d72_41 (fun z41 hz41 ez41 => ?_)
            refine pw_if_eq d72_42 rfl (by omega) (fun c42 => ?_) (fun c42 => ?_)
            · exact J50 (xL3_17) _ _ (by omega) (by omega) (by omega) (by omega)
            · refine pw_iload_n d72_45 rfl ?_
              refine pw_iload d72_46 rfl ?_
              refine pw_ior d72_48 (fun z48 hz48 ez48 => ?_)
              have bz48 := pv_or_b (n := 10) (m := 1024) (x := xL3_17) (y := z29) (by omega) (by omega) (by omega) (by omega) (by decide) (by decide) hz48 ez48
              refine pw_istore_n d72_49 m72 rfl rfl ?_
              exact J50 (z48) _ _ (by omega) (by omega) (by omega) (by omega)
      refine pw_iload d72_5 rfl ?_
      refine pw_aload_n d72_7 rfl ?_
      refine pw_getI d72_8 g72_41 hT hA1 rfl rfl (fun u8 vu8 => ?_)
      refine pw_icmp_gt d72_11 rfl (by omega) (by omega) (fun c11 => ?_) (fun c11 => ?_)
      · refine pw_iload_n d72_62 rfl ?_
        exact pw_ireturn d72_63 tt72 ⟨rfl, xL3_5, rfl, (by omega), (by omega)⟩
      · refine pw_iconst d72_14 ?_
        refine pw_istore d72_15 m72 rfl rfl ?_
        exact L17 _ (xL3_5) (0) _ _ (by omega) (by omega) (by omega) (by omega) (pv_mu _)
  refine pw_iconst d72_0 ?_
  refine pw_istore_n d72_1 m72 rfl rfl ?_
  refine pw_iconst d72_2 ?_
  refine pw_istore d72_3 m72 rfl rfl ?_
  exact L5 _ (0) (0) _ _ _ (by omega) (by omega) (by omega) (pv_mu _)

abbrev Q71 (τ : Nat → Option Nat) (ρ : Nat → Nat → Nat) (h : pv_H) (a0 : Nat) (a1 : Nat) : Option Value → pv_H → Prop := fun r h' => h = h' ∧ ∃ z : Int, r = some (.int (pv_I z)) ∧ (-2147483648) ≤ z ∧ z ≤ 2147483647
set_option maxHeartbeats 4000000 in
set_option maxRecDepth 20000 in
/-- AngleNet$Shape.parts(LAngleNet$Net;)I -/
theorem ct71 {τ : Nat → Option Nat} {ρ : Nat → Nat → Nat} {K : Nat → Nat} {h : pv_H} {a0 : Nat} {a1 : Nat} (hT : pv_Ty τ ρ h) (hA0 : τ a0 = some 4) (hA1 : τ a1 = some 2) : pv_C K 71 [.ref a0, .ref a1] h (Q71 τ ρ h a0 a1) := by
  refine pw_entry 3 ?_
  show pv_T K 71 0 (pv_fl [some (.ref a0), some (.ref a1), none, none, none]) [] h (Q71 τ ρ h a0 a1)
  have L11 : ∀ (nn : Nat) (xL2_11 xL3_11 xL4_11 : Int), ((-2147483648) ≤ xL2_11 ∧ xL2_11 ≤ 2147483647) → ((-2147483648) ≤ xL3_11 ∧ xL3_11 ≤ 2147483647) → (0 ≤ xL4_11 ∧ xL4_11 ≤ 10) → 10 - xL4_11 < nn → pv_T K 71 11 (pv_fl [some (.ref a0), some (.ref a1), some (.int (pv_I xL2_11)), some (.int (pv_I xL3_11)), some (.int (pv_I xL4_11))]) [] h (Q71 τ ρ h a0 a1) := by
    intro nn
    induction nn with
    | zero => intro xL2_11 xL3_11 xL4_11 rL2_11 rL3_11 rL4_11 hm; exfalso; omega
    | succ nn ih11 =>
      intro xL2_11 xL3_11 xL4_11 rL2_11 rL3_11 rL4_11 hm11
      have J44 : ∀ (xL2_44 xL3_44 : Int), ((-2147483648) ≤ xL2_44 ∧ xL2_44 ≤ 2147483647) → ((-2147483648) ≤ xL3_44 ∧ xL3_44 ≤ 2147483647) → (0 ≤ xL4_11 ∧ xL4_11 ≤ 9) → pv_T K 71 44 (pv_fl [some (.ref a0), some (.ref a1), some (.int (pv_I xL2_44)), some (.int (pv_I xL3_44)), some (.int (pv_I xL4_11))]) [] h (Q71 τ ρ h a0 a1) := by
        intro xL2_44 xL3_44 rL2_44 rL3_44 rL4_44
        refine pw_iinc d71_44 m71 rfl rfl rfl ?_
        refine pw_goto d71_47 rfl ?_
        exact ih11 (xL2_44) (xL3_44) ((xL4_11 + 1)) (by omega) (by omega) (by omega) (by omega)
      refine pw_iload d71_11 rfl ?_
      refine pw_aload_n d71_13 rfl ?_
      refine pw_getI d71_14 g71_41 hT hA1 rfl rfl (fun u14 vu14 => ?_)
      refine pw_icmp_ge d71_17 rfl (by omega) (by omega) (fun c17 => ?_) (fun c17 => ?_)
      · refine pw_iload_n d71_50 rfl ?_
        exact pw_ireturn d71_51 tt71 ⟨rfl, xL3_11, rfl, (by omega), (by omega)⟩
      · refine pw_iload_n d71_20 rfl ?_
        refine pw_iload d71_21 rfl ?_
        refine pw_ishr d71_23 (fun z23 hz23 ez23 => ?_)
        refine pw_iconst d71_24 ?_
        refine pw_iand d71_25 (fun z25 hz25 ez25 => ?_)
        have bz25 := pv_and1_b hz25 ez25
        refine pw_if_eq d71_26 rfl (by omega) (fun c26 => ?_) (fun c26 => ?_)
        · exact J44 (xL2_11) (xL3_11) (by omega) (by omega) (by omega)
        · refine pw_iload_n d71_29 rfl ?_
          refine pw_aload_n d71_30 rfl ?_
          refine pw_aload_n d71_31 rfl ?_
          refine pw_iload d71_32 rfl ?_
          refine pw_callV2 d71_34 k71_55 hT hA0 rfl rfl rfl (ct72 (τ := τ) (ρ := ρ) hT hA0 hA1 (by omega)) (fun r34 h34 q34 => ?_)
          obtain ⟨eh34, z34, ez34, lz34, uz34⟩ := q34
          subst eh34
          subst ez34
          refine pw_iconst d71_37 ?_
          refine pw_ixor d71_38 (fun z38 hz38 ez38 => ?_)
          refine pw_iand d71_39 (fun z39 hz39 ez39 => ?_)
          refine pw_istore_n d71_40 m71 rfl rfl ?_
          refine pw_iincU d71_41 m71 rfl rfl rfl (fun z41 hz41 => ?_)
          exact J44 (z39) (z41) (by omega) (by omega) (by omega)
  refine pw_aload_n d71_0 rfl ?_
  refine pw_aload_n d71_1 rfl ?_
  refine pw_callV1 d71_2 k71_28 hT hA0 rfl rfl rfl (ct66 (τ := τ) (ρ := ρ) hT hA0 hA1) (fun r2 h2 q2 => ?_)
  obtain ⟨eh2, z2, ez2, lz2, uz2⟩ := q2
  subst eh2
  subst ez2
  refine pw_istore_n d71_5 m71 rfl rfl ?_
  refine pw_iconst d71_6 ?_
  refine pw_istore_n d71_7 m71 rfl rfl ?_
  refine pw_iconst d71_8 ?_
  refine pw_istore d71_9 m71 rfl rfl ?_
  exact L11 _ (z2) (0) (0) (by omega) (by omega) (by omega) (pv_mu _)

abbrev Q77 (τ : Nat → Option Nat) (ρ : Nat → Nat → Nat) (h : pv_H) (a0 : Nat) (x1 : Int) (x2 : Int) (x3 : Int) : Option Value → pv_H → Prop := fun r h' => h = h' ∧ ∃ z : Int, r = some (.int (pv_I z)) ∧ 0 ≤ z ∧ z ≤ 1
set_option maxHeartbeats 4000000 in
set_option maxRecDepth 20000 in
/-- AngleNet$Shape.goesAlong(LAngleNet$Net;III)Z -/
theorem ct77 {τ : Nat → Option Nat} {ρ : Nat → Nat → Nat} {K : Nat → Nat} {h : pv_H} {a0 : Nat} {x1 : Int} {x2 : Int} {x3 : Int} (hT : pv_Ty τ ρ h) (hA0 : τ a0 = some 2) (hX1 : 0 ≤ x1 ∧ x1 ≤ 17) (hX2 : (-2147483648) ≤ x2 ∧ x2 ≤ 2147483647) (hX3 : (-2147483648) ≤ x3 ∧ x3 ≤ 2147483647) : pv_C K 77 [.ref a0, .int (pv_I x1), .int (pv_I x2), .int (pv_I x3)] h (Q77 τ ρ h a0 x1 x2 x3) := by
  refine pw_entry 1 ?_
  show pv_T K 77 0 (pv_fl [some (.ref a0), some (.int (pv_I x1)), some (.int (pv_I x2)), some (.int (pv_I x3)), none]) [] h (Q77 τ ρ h a0 x1 x2 x3)
  have L3 : ∀ (nn : Nat) (xL4_3 : Int), (0 ≤ x1 ∧ x1 ≤ 17) → ((-2147483648) ≤ x2 ∧ x2 ≤ 2147483647) → ((-2147483648) ≤ x3 ∧ x3 ≤ 2147483647) → (0 ≤ xL4_3 ∧ xL4_3 ≤ 3) → 3 - xL4_3 < nn → pv_T K 77 3 (pv_fl [some (.ref a0), some (.int (pv_I x1)), some (.int (pv_I x2)), some (.int (pv_I x3)), some (.int (pv_I xL4_3))]) [] h (Q77 τ ρ h a0 x1 x2 x3) := by
    intro nn
    induction nn with
    | zero => intro xL4_3 rL1_3 rL2_3 rL3_3 rL4_3 hm; exfalso; omega
    | succ nn ih3 =>
      intro xL4_3 rL1_3 rL2_3 rL3_3 rL4_3 hm3
      refine pw_iload d77_3 rfl ?_
      refine pw_iconst d77_5 ?_
      refine pw_icmp_ge d77_6 rfl (by omega) (by omega) (fun c6 => ?_) (fun c6 => ?_)
      · refine pw_iconst d77_55 ?_
        exact pw_zreturn d77_56 tt77 (by omega) ⟨rfl, 0, rfl, (by omega), (by omega)⟩
      · refine pw_aload_n d77_9 rfl ?_
        refine pw_getR d77_10 g77_79 hT hA0 rfl rfl (fun t10 => ?_)
        have t10 : τ (ρ a0 5) = some 20 := t10
        refine pw_iconst d77_13 ?_
        refine pw_iload_n d77_14 rfl ?_
        refine pw_imul d77_15 ?_
        refine pw_iload d77_16 rfl ?_
        refine pw_iadd d77_18 ?_
        refine pw_iald d77_19 hT t10 rfl rfl (by omega) (by omega) (fun u19 vu19 => ?_)
        refine pw_iload_n d77_20 rfl ?_
        refine pw_icmp_ne d77_21 rfl (by omega) (by omega) (fun c21 => ?_) (fun c21 => ?_)
        · refine pw_iinc d77_49 m77 rfl rfl rfl ?_
          refine pw_goto d77_52 rfl ?_
          exact ih3 ((xL4_3 + 1)) (by omega) (by omega) (by omega) (by omega) (by omega)
        · refine pw_aload_n d77_24 rfl ?_
          refine pw_getR d77_25 g77_79 hT hA0 rfl rfl (fun t25 => ?_)
          have t25 : τ (ρ a0 5) = some 20 := t25
          refine pw_iconst d77_28 ?_
          refine pw_iload_n d77_29 rfl ?_
          refine pw_imul d77_30 ?_
          refine pw_iload d77_31 rfl ?_
          refine pw_iconst d77_33 ?_
          refine pw_iadd d77_34 ?_
          refine pw_iconst d77_35 ?_
          refine pw_irem d77_36 (by omega) (by omega) (by omega) (by omega) ?_
          refine pw_iadd d77_37 ?_
          refine pw_iald d77_38 hT t25 rfl rfl (by omega) (by omega) (fun u38 vu38 => ?_)
          refine pw_iload_n d77_39 rfl ?_
          refine pw_icmp_ne d77_40 rfl (by omega) (by omega) (fun c40 => ?_) (fun c40 => ?_)
          · refine pw_iconst d77_47 ?_
            exact pw_zreturn d77_48 tt77 (by omega) ⟨rfl, 0, rfl, (by omega), (by omega)⟩
          · refine pw_iconst d77_43 ?_
            refine pw_goto d77_44 rfl ?_
            exact pw_zreturn d77_48 tt77 (by omega) ⟨rfl, 1, rfl, (by omega), (by omega)⟩
  refine pw_iconst d77_0 ?_
  refine pw_istore d77_1 m77 rfl rfl ?_
  exact L3 _ (0) (by omega) (by omega) (by omega) (by omega) (pv_mu _)

abbrev Q75 (τ : Nat → Option Nat) (ρ : Nat → Nat → Nat) (h : pv_H) (a0 : Nat) (x1 : Int) (x2 : Int) : Option Value → pv_H → Prop := fun r h' => h = h' ∧ ∃ z : Int, r = some (.int (pv_I z)) ∧ (-1) ≤ z ∧ z ≤ 1
set_option maxHeartbeats 4000000 in
set_option maxRecDepth 20000 in
/-- AngleNet$Shape.turnBetween(LAngleNet$Net;II)I -/
theorem ct75 {τ : Nat → Option Nat} {ρ : Nat → Nat → Nat} {K : Nat → Nat} {h : pv_H} {a0 : Nat} {x1 : Int} {x2 : Int} (hT : pv_Ty τ ρ h) (hA0 : τ a0 = some 2) (hX1 : 0 ≤ x1 ∧ x1 ≤ 17) (hX2 : 0 ≤ x2 ∧ x2 ≤ 17) : pv_C K 75 [.ref a0, .int (pv_I x1), .int (pv_I x2)] h (Q75 τ ρ h a0 x1 x2) := by
  refine pw_entry 3 ?_
  show pv_T K 75 0 (pv_fl [some (.ref a0), some (.int (pv_I x1)), some (.int (pv_I x2)), none, none, none]) [] h (Q75 τ ρ h a0 x1 x2)
  refine pw_aload_n d75_0 rfl ?_
  refine pw_iload_n d75_1 rfl ?_
  refine pw_callV1 d75_2 k75_24 hT hA0 rfl rfl rfl (ct40 (τ := τ) (ρ := ρ) hT hA0 (by omega)) (fun r2 h2 q2 => ?_)
  obtain ⟨eh2, z2, ez2, lz2, uz2⟩ := q2
  subst eh2
  subst ez2
  refine pw_aload_n d75_5 rfl ?_
  refine pw_iload_n d75_6 rfl ?_
  refine pw_callV1 d75_7 k75_24 hT hA0 rfl rfl rfl (ct40 (τ := τ) (ρ := ρ) hT hA0 (by omega)) (fun r7 h7 q7 => ?_)
  obtain ⟨eh7, z7, ez7, lz7, uz7⟩ := q7
  subst eh7
  subst ez7
  refine pw_iand d75_10 (fun z10 hz10 ez10 => ?_)
  refine pw_istore_n d75_11 m75 rfl rfl ?_
  refine pw_iload_n d75_12 rfl ?_
  refine pw_iload_n d75_13 rfl ?_
  refine pw_icmp_eq d75_14 rfl (by omega) (by omega) (fun c14 => ?_) (fun c14 => ?_)
  · refine pw_iconst d75_25 ?_
    exact pw_ireturn d75_26 tt75 ⟨rfl, 0, rfl, (by omega), (by omega)⟩
  · refine pw_iload_n d75_17 rfl ?_
    refine pw_callS1 d75_18 k75_32 rfl rfl (ct67 (τ := τ) (ρ := ρ) (by omega)) (fun r18 h18 q18 => ?_)
    obtain ⟨eh18, z18, ez18, lz18, uz18⟩ := q18
    subst eh18
    subst ez18
    refine pw_iconst d75_21 ?_
    refine pw_icmp_eq d75_22 rfl (by omega) (by omega) (fun c22 => ?_) (fun c22 => ?_)
    · refine pw_iload_n d75_27 rfl ?_
      refine pw_callS1 d75_28 k75_72 rfl rfl (ct76 (τ := τ) (ρ := ρ) (by omega)) (fun r28 h28 q28 => ?_)
      obtain ⟨eh28, z28, ez28, lz28, uz28, pz28_0⟩ := q28
      subst eh28
      subst ez28
      refine pw_istore d75_31 m75 rfl rfl ?_
      refine pw_iload_n d75_33 rfl ?_
      refine pw_iload_n d75_34 rfl ?_
      refine pw_iconst d75_35 ?_
      refine pw_isub d75_36 ?_
      refine pw_iand d75_37 (fun z37 hz37 ez37 => ?_)
      refine pw_callS1 d75_38 k75_72 rfl rfl (ct76 (τ := τ) (ρ := ρ) (by omega)) (fun r38 h38 q38 => ?_)
      obtain ⟨eh38, z38, ez38, lz38, uz38, pz38_0⟩ := q38
      subst eh38
      subst ez38
      refine pw_istore d75_41 m75 rfl rfl ?_
      refine pw_aload_n d75_43 rfl ?_
      refine pw_iload_n d75_44 rfl ?_
      refine pw_iload d75_45 rfl ?_
      refine pw_iload d75_47 rfl ?_
      refine pw_callS4 d75_49 k75_75 rfl rfl (ct77 (τ := τ) (ρ := ρ) hT hA0 (by omega) (by omega) (by omega)) (fun r49 h49 q49 => ?_)
      obtain ⟨eh49, z49, ez49, lz49, uz49⟩ := q49
      subst eh49
      subst ez49
      refine pw_aload_n d75_52 rfl ?_
      refine pw_iload_n d75_53 rfl ?_
      refine pw_iload d75_54 rfl ?_
      refine pw_iload d75_56 rfl ?_
      refine pw_callS4 d75_58 k75_75 rfl rfl (ct77 (τ := τ) (ρ := ρ) hT hA0 (by omega) (by omega) (by omega)) (fun r58 h58 q58 => ?_)
      obtain ⟨eh58, z58, ez58, lz58, uz58⟩ := q58
      subst eh58
      subst ez58
      refine pw_icmp_ne d75_61 rfl (by omega) (by omega) (fun c61 => ?_) (fun c61 => ?_)
      · refine pw_iconst d75_68 ?_
        exact pw_ireturn d75_69 tt75 ⟨rfl, 1, rfl, (by omega), (by omega)⟩
      · refine pw_iconst d75_64 ?_
        refine pw_goto d75_65 rfl ?_
        exact pw_ireturn d75_69 tt75 ⟨rfl, (-1), rfl, (by omega), (by omega)⟩
    · refine pw_iconst d75_25 ?_
      exact pw_ireturn d75_26 tt75 ⟨rfl, 0, rfl, (by omega), (by omega)⟩

abbrev Q74 (τ : Nat → Option Nat) (ρ : Nat → Nat → Nat) (h : pv_H) (a0 : Nat) (a1 : Nat) (x2 : Int) : Option Value → pv_H → Prop := fun r h' => pv_Ty τ ρ h' ∧ pv_Fr τ [2111, 2175] h h' ∧ ∃ z : Int, r = some (.int (pv_I z)) ∧ 0 ≤ z ∧ z ≤ 1
set_option maxHeartbeats 4000000 in
set_option maxRecDepth 20000 in
/-- AngleNet$Shape.turnOthersFrom(LAngleNet$Net;I)Z -/
theorem ct74 {τ : Nat → Option Nat} {ρ : Nat → Nat → Nat} {K : Nat → Nat} {h : pv_H} {a0 : Nat} {a1 : Nat} {x2 : Int} (hT : pv_Ty τ ρ h) (hA0 : τ a0 = some 4) (hA1 : τ a1 = some 2) (hX2 : 0 ≤ x2 ∧ x2 ≤ 17) : pv_C K 74 [.ref a0, .ref a1, .int (pv_I x2)] h (Q74 τ ρ h a0 a1 x2) := by
  refine pw_entry 5 ?_
  show pv_T K 74 0 (pv_fl [some (.ref a0), some (.ref a1), some (.int (pv_I x2)), none, none, none, none, none]) [] h (Q74 τ ρ h a0 a1 x2)
  have hF0 : pv_Fr τ [2111, 2175] h h := pv_Fr.rf
  have L12 : ∀ (nn : Nat) (h_12 : pv_H) (xL3_12 xL4_12 : Int) (o2_12 o5_12 o6_12 o7_12 : Option Value), (pv_Ty τ ρ h_12) → (pv_Fr τ [2111, 2175] h h_12) → (1 ≤ xL3_12 ∧ xL3_12 ≤ 18) → (0 ≤ xL4_12 ∧ xL4_12 ≤ 18) → 18 - xL4_12 < nn → pv_T K 74 12 (pv_fl [some (.ref a0), some (.ref a1), o2_12, some (.int (pv_I xL3_12)), some (.int (pv_I xL4_12)), o5_12, o6_12, o7_12]) [] h_12 (Q74 τ ρ h a0 a1 x2) := by
    intro nn
    induction nn with
    | zero => intro h_12 xL3_12 xL4_12 o2_12 o5_12 o6_12 o7_12 hT_12 hF_12 rL3_12 rL4_12 hm; exfalso; omega
    | succ nn ih12 =>
      intro h_12 xL3_12 xL4_12 o2_12 o5_12 o6_12 o7_12 hT_12 hF_12 rL3_12 rL4_12 hm12
      have L37 : ∀ (nn : Nat) (h_37 : pv_H) (xL3_37 xL5_37 xL6_37 : Int) (o2_37 o7_37 : Option Value), (pv_Ty τ ρ h_37) → (pv_Fr τ [2111, 2175] h h_37) → (1 ≤ xL3_37 ∧ xL3_37 ≤ 18) → (0 ≤ xL4_12 ∧ xL4_12 ≤ 17) → (0 ≤ xL5_37 ∧ xL5_37 ≤ 17) → (0 ≤ xL6_37 ∧ xL6_37 ≤ 18) → 18 - xL6_37 < nn → pv_T K 74 37 (pv_fl [some (.ref a0), some (.ref a1), o2_37, some (.int (pv_I xL3_37)), some (.int (pv_I xL4_12)), some (.int (pv_I xL5_37)), some (.int (pv_I xL6_37)), o7_37]) [] h_37 (Q74 τ ρ h a0 a1 x2) := by
        intro nn
        induction nn with
        | zero => intro h_37 xL3_37 xL5_37 xL6_37 o2_37 o7_37 hT_37 hF_37 rL3_37 rL4_37 rL5_37 rL6_37 hm; exfalso; omega
        | succ nn ih37 =>
          intro h_37 xL3_37 xL5_37 xL6_37 o2_37 o7_37 hT_37 hF_37 rL3_37 rL4_37 rL5_37 rL6_37 hm37
          have J127 : ∀ (h_127 : pv_H) (xL3_127 : Int) (o2_127 o7_127 : Option Value), (pv_Ty τ ρ h_127) → (pv_Fr τ [2111, 2175] h h_127) → (1 ≤ xL3_127 ∧ xL3_127 ≤ 18) → (0 ≤ xL4_12 ∧ xL4_12 ≤ 17) → (0 ≤ xL5_37 ∧ xL5_37 ≤ 17) → (0 ≤ xL6_37 ∧ xL6_37 ≤ 17) → pv_T K 74 127 (pv_fl [some (.ref a0), some (.ref a1), o2_127, some (.int (pv_I xL3_127)), some (.int (pv_I xL4_12)), some (.int (pv_I xL5_37)), some (.int (pv_I xL6_37)), o7_127]) [] h_127 (Q74 τ ρ h a0 a1 x2) := by
            intro h_127 xL3_127 o2_127 o7_127 hT_127 hF_127 rL3_127 rL4_127 rL5_127 rL6_127
            refine pw_iinc d74_127 m74 rfl rfl rfl ?_
            refine pw_goto d74_130 rfl ?_
            exact ih37 h_127 (xL3_127) (xL5_37) ((xL6_37 + 1)) _ _ hT_127 hF_127 (by omega) (by omega) (by omega) (by omega) (by omega)
          have J108 : ∀ (h_108 : pv_H) (xL3_108 xL7_108 : Int) (o2_108 : Option Value), (pv_Ty τ ρ h_108) → (pv_Fr τ [2111, 2175] h h_108) → (1 ≤ xL3_108 ∧ xL3_108 ≤ 18) → (0 ≤ xL4_12 ∧ xL4_12 ≤ 17) → (0 ≤ xL5_37 ∧ xL5_37 ≤ 17) → (0 ≤ xL6_37 ∧ xL6_37 ≤ 17) → ((-2147483648) ≤ xL7_108 ∧ xL7_108 ≤ 2147483647) → pv_T K 74 108 (pv_fl [some (.ref a0), some (.ref a1), o2_108, some (.int (pv_I xL3_108)), some (.int (pv_I xL4_12)), some (.int (pv_I xL5_37)), some (.int (pv_I xL6_37)), some (.int (pv_I xL7_108))]) [] h_108 (Q74 τ ρ h a0 a1 x2) := by
            intro h_108 xL3_108 xL7_108 o2_108 hT_108 hF_108 rL3_108 rL4_108 rL5_108 rL6_108 rL7_108
            refine pw_iload d74_108 rfl ?_
            refine pw_if_eq d74_110 rfl (by omega) (fun c110 => ?_) (fun c110 => ?_)
            · exact J127 h_108 (xL3_108) _ _ hT_108 hF_108 (by omega) (by omega) (by omega) (by omega)
            · refine pw_aload_n d74_113 rfl ?_
              refine pw_getR d74_114 g74_9 hT_108 hA0 rfl rfl (fun t114 => ?_)
              have t114 : τ (ρ a0 0) = some 32 := t114
              refine pw_iload d74_117 rfl ?_
              refine pw_iald d74_119 hT_108 t114 rfl rfl (by omega) (by omega) (fun u119 vu119 => ?_)
              refine pw_iload d74_120 rfl ?_
              refine pw_icmp_eq d74_122 rfl (by omega) (by omega) (fun c122 => ?_) (fun c122 => ?_)
              · exact J127 h_108 (xL3_108) _ _ hT_108 hF_108 (by omega) (by omega) (by omega) (by omega)
              · refine pw_iconst d74_125 ?_
                exact pw_zreturn d74_126 tt74 (by omega) ⟨hT_108, hF_108, 0, rfl, (by omega), (by omega)⟩
          refine pw_iload d74_37 rfl ?_
          refine pw_aload_n d74_39 rfl ?_
          refine pw_getI d74_40 g74_18 hT_37 hA1 rfl rfl (fun u40 vu40 => ?_)
          refine pw_icmp_ge d74_43 rfl (by omega) (by omega) (fun c43 => ?_) (fun c43 => ?_)
          · refine pw_iinc d74_133 m74 rfl rfl rfl ?_
            refine pw_goto d74_136 rfl ?_
            exact ih12 h_37 (xL3_37) ((xL4_12 + 1)) _ _ _ _ hT_37 hF_37 (by omega) (by omega) (by omega)
          · refine pw_aload_n d74_46 rfl ?_
            refine pw_getR d74_47 g74_9 hT_37 hA0 rfl rfl (fun t47 => ?_)
            have t47 : τ (ρ a0 0) = some 32 := t47
            refine pw_iload d74_50 rfl ?_
            refine pw_iald d74_52 hT_37 t47 rfl rfl (by omega) (by omega) (fun u52 vu52 => ?_)
            refine pw_aload_n d74_53 rfl ?_
            refine pw_iload d74_54 rfl ?_
            refine pw_iload d74_56 rfl ?_
            refine pw_callS3 d74_58 k74_68 rfl rfl (ct75 (τ := τ) (ρ := ρ) hT_37 hA1 (by omega) (by omega)) (fun r58 h58 q58 => ?_)
            obtain ⟨eh58, z58, ez58, lz58, uz58⟩ := q58
            subst eh58
            subst ez58
            refine pw_imul d74_61 ?_
            refine pw_any (fun z61 hz61 ez61 => ?_)
            refine pw_istore d74_62 m74 rfl rfl ?_
            refine pw_iload d74_64 rfl ?_
            refine pw_if_eq d74_66 rfl (by omega) (fun c66 => ?_) (fun c66 => ?_)
            · exact J108 h_37 (xL3_37) (z61) _ hT_37 hF_37 (by omega) (by omega) (by omega) (by omega) (by omega)
            · refine pw_aload_n d74_69 rfl ?_
              refine pw_getR d74_70 g74_9 hT_37 hA0 rfl rfl (fun t70 => ?_)
              have t70 : τ (ρ a0 0) = some 32 := t70
              refine pw_iload d74_73 rfl ?_
              refine pw_iald d74_75 hT_37 t70 rfl rfl (by omega) (by omega) (fun u75 vu75 => ?_)
              refine pw_if_ne d74_76 rfl (by omega) (fun c76 => ?_) (fun c76 => ?_)
              · exact J108 h_37 (xL3_37) (z61) _ hT_37 hF_37 (by omega) (by omega) (by omega) (by omega) (by omega)
              · refine pw_iload_n d74_79 rfl ?_
                refine pw_bipush d74_80 (by decide) ?_
                refine pw_icmp_ge d74_82 rfl (by omega) (by omega) (fun c82 => ?_) (fun c82 => ?_)
                · exact J108 h_37 (xL3_37) (z61) _ hT_37 hF_37 (by omega) (by omega) (by omega) (by omega) (by omega)
                · refine pw_aload_n d74_85 rfl ?_
                  refine pw_getR d74_86 g74_9 hT_37 hA0 rfl rfl (fun t86 => ?_)
                  have t86 : τ (ρ a0 0) = some 32 := t86
                  refine pw_iload d74_89 rfl ?_
                  refine pw_iload d74_91 rfl ?_
                  refine pw_iast d74_93 hT_37 t86 rfl rfl rfl (by omega) (by omega) (by omega) (by omega) (fun h93 T93 F93 E93 => ?_)
                  have f93 := hF_37.tr (F93.up (by decide))
                  have q93 := ((F93 a1 2 hA1).1 1 (by decide)).1
                  refine pw_aload_n d74_94 rfl ?_
                  refine pw_getR d74_95 g74_15 T93 hA0 rfl rfl (fun t95 => ?_)
                  have t95 : τ (ρ a0 1) = some 33 := t95
                  refine pw_iload_n d74_98 rfl ?_
                  refine pw_iload d74_99 rfl ?_
                  refine pw_iast d74_101 T93 t95 rfl rfl rfl (by omega) (by omega) (by omega) (by omega) (fun h101 T101 F101 E101 => ?_)
                  have f101 := f93.tr (F101.up (by decide))
                  have q101 := ((F101 a1 2 hA1).1 1 (by decide)).1
                  refine pw_iinc d74_102 m74 rfl rfl rfl ?_
                  refine pw_goto d74_105 rfl ?_
                  exact J127 h101 ((xL3_37 + 1)) _ _ T101 f101 (by omega) (by omega) (by omega) (by omega)
      refine pw_iload d74_12 rfl ?_
      refine pw_iload_n d74_14 rfl ?_
      refine pw_icmp_ge d74_15 rfl (by omega) (by omega) (fun c15 => ?_) (fun c15 => ?_)
      · refine pw_iconst d74_139 ?_
        exact pw_zreturn d74_140 tt74 (by omega) ⟨hT_12, hF_12, 1, rfl, (by omega), (by omega)⟩
      · refine pw_iload d74_18 rfl ?_
        refine pw_bipush d74_20 (by decide) ?_
        refine pw_icmp_ge d74_22 rfl (by omega) (by omega) (fun c22 => ?_) (fun c22 => ?_)
        · exfalso; omega
        · refine pw_aload_n d74_25 rfl ?_
          refine pw_getR d74_26 g74_15 hT_12 hA0 rfl rfl (fun t26 => ?_)
          have t26 : τ (ρ a0 1) = some 33 := t26
          refine pw_iload d74_29 rfl ?_
          refine pw_iald d74_31 hT_12 t26 rfl rfl (by omega) (by omega) (fun u31 vu31 => ?_)
          refine pw_istore d74_32 m74 rfl rfl ?_
          refine pw_iconst d74_34 ?_
          refine pw_istore d74_35 m74 rfl rfl ?_
          exact L37 _ h_12 (xL3_12) ((pv_aI h_12 (ρ a0 1) (xL4_12).toNat)) (0) _ _ hT_12 hF_12 (by omega) (by omega) (by omega) (by omega) (pv_mu _)
  refine pw_aload_n d74_0 rfl ?_
  refine pw_getR d74_1 g74_15 hT hA0 rfl rfl (fun t1 => ?_)
  have t1 : τ (ρ a0 1) = some 33 := t1
  refine pw_iconst d74_4 ?_
  refine pw_iload_n d74_5 rfl ?_
  refine pw_iast d74_6 hT t1 rfl rfl rfl (by omega) (by omega) (by omega) (by omega) (fun h6 T6 F6 E6 => ?_)
  have f6 := hF0.tr (F6.up (by decide))
  refine pw_iconst d74_7 ?_
  refine pw_istore_n d74_8 m74 rfl rfl ?_
  refine pw_iconst d74_9 ?_
  refine pw_istore d74_10 m74 rfl rfl ?_
  exact L12 _ h6 (1) (0) _ _ _ _ T6 f6 (by omega) (by omega) (pv_mu _)

abbrev Q73 (τ : Nat → Option Nat) (ρ : Nat → Nat → Nat) (h : pv_H) (a0 : Nat) (a1 : Nat) : Option Value → pv_H → Prop := fun r h' => pv_Ty τ ρ h' ∧ pv_Fr τ [2111, 2175] h h' ∧ ∃ z : Int, r = some (.int (pv_I z)) ∧ 0 ≤ z ∧ z ≤ 1
set_option maxHeartbeats 4000000 in
set_option maxRecDepth 20000 in
/-- AngleNet$Shape.isTwoSided(LAngleNet$Net;)Z -/
theorem ct73 {τ : Nat → Option Nat} {ρ : Nat → Nat → Nat} {K : Nat → Nat} {h : pv_H} {a0 : Nat} {a1 : Nat} (hT : pv_Ty τ ρ h) (hA0 : τ a0 = some 4) (hA1 : τ a1 = some 2) : pv_C K 73 [.ref a0, .ref a1] h (Q73 τ ρ h a0 a1) := by
  refine pw_entry 1 ?_
  show pv_T K 73 0 (pv_fl [some (.ref a0), some (.ref a1), none]) [] h (Q73 τ ρ h a0 a1)
  have hF0 : pv_Fr τ [2111, 2175] h h := pv_Fr.rf
  have L10 : ∀ (nn : Nat) (h_10 : pv_H) (xL2_10 : Int), (pv_Ty τ ρ h_10) → (pv_Fr τ [2111, 2175] h h_10) → (0 ≤ xL2_10 ∧ xL2_10 ≤ 18) → 18 - xL2_10 < nn → pv_T K 73 10 (pv_fl [some (.ref a0), some (.ref a1), some (.int (pv_I xL2_10))]) [] h_10 (Q73 τ ρ h a0 a1) := by
    intro nn
    induction nn with
    | zero => intro h_10 xL2_10 hT_10 hF_10 rL2_10 hm; exfalso; omega
    | succ nn ih10 =>
      intro h_10 xL2_10 hT_10 hF_10 rL2_10 hm10
      have J45 : ∀ (h_45 : pv_H), (pv_Ty τ ρ h_45) → (pv_Fr τ [2111, 2175] h h_45) → (0 ≤ xL2_10 ∧ xL2_10 ≤ 17) → pv_T K 73 45 (pv_fl [some (.ref a0), some (.ref a1), some (.int (pv_I xL2_10))]) [] h_45 (Q73 τ ρ h a0 a1) := by
        intro h_45 hT_45 hF_45 rL2_45
        refine pw_iinc d73_45 m73 rfl rfl rfl ?_
        refine pw_goto d73_48 rfl ?_
        exact ih10 h_45 ((xL2_10 + 1)) hT_45 hF_45 (by omega) (by omega)
      refine pw_iload_n d73_10 rfl ?_
      refine pw_aload_n d73_11 rfl ?_
      refine pw_getI d73_12 g73_18 hT_10 hA1 rfl rfl (fun u12 vu12 => ?_)
      refine pw_icmp_ge d73_15 rfl (by omega) (by omega) (fun c15 => ?_) (fun c15 => ?_)
      · refine pw_iconst d73_51 ?_
        exact pw_zreturn d73_52 tt73 (by omega) ⟨hT_10, hF_10, 1, rfl, (by omega), (by omega)⟩
      · refine pw_aload_n d73_18 rfl ?_
        refine pw_getR d73_19 g73_9 hT_10 hA0 rfl rfl (fun t19 => ?_)
        have t19 : τ (ρ a0 0) = some 32 := t19
        refine pw_iload_n d73_22 rfl ?_
        refine pw_iald d73_23 hT_10 t19 rfl rfl (by omega) (by omega) (fun u23 vu23 => ?_)
        refine pw_if_ne d73_24 rfl (by omega) (fun c24 => ?_) (fun c24 => ?_)
        · exact J45 h_10 hT_10 hF_10 (by omega)
        · refine pw_aload_n d73_27 rfl ?_
          refine pw_getR d73_28 g73_9 hT_10 hA0 rfl rfl (fun t28 => ?_)
          have t28 : τ (ρ a0 0) = some 32 := t28
          refine pw_iload_n d73_31 rfl ?_
          refine pw_iconst d73_32 ?_
          refine pw_iast d73_33 hT_10 t28 rfl rfl rfl (by omega) (by omega) (by omega) (by omega) (fun h33 T33 F33 E33 => ?_)
          have f33 := hF_10.tr (F33.up (by decide))
          have q33 := ((F33 a1 2 hA1).1 1 (by decide)).1
          refine pw_aload_n d73_34 rfl ?_
          refine pw_aload_n d73_35 rfl ?_
          refine pw_iload_n d73_36 rfl ?_
          refine pw_callV2 d73_37 k73_65 T33 hA0 rfl rfl rfl (ct74 (τ := τ) (ρ := ρ) T33 hA0 hA1 (by omega)) (fun r37 h37 q37 => ?_)
          obtain ⟨T37, F37, z37, ez37, lz37, uz37⟩ := q37
          subst ez37
          have f37 := f33.tr (F37.up (by decide))
          have q37b := ((F37 a1 2 hA1).1 1 (by decide)).1
          refine pw_if_ne d73_40 rfl (by omega) (fun c40 => ?_) (fun c40 => ?_)
          · exact J45 h37 T37 f37 (by omega)
          · refine pw_iconst d73_43 ?_
            exact pw_zreturn d73_44 tt73 (by omega) ⟨T37, f37, 0, rfl, (by omega), (by omega)⟩
  refine pw_aload_n d73_0 rfl ?_
  refine pw_getR d73_1 g73_9 hT hA0 rfl rfl (fun t1 => ?_)
  have t1 : τ (ρ a0 0) = some 32 := t1
  refine pw_iconst d73_4 ?_
  refine pw_callS2 d73_5 k73_59 rfl rfl (ct14v32 (τ := τ) (ρ := ρ) hT t1 (by omega)) (fun r5 h5 q5 => ?_)
  obtain ⟨T5, F5, ez5⟩ := q5
  subst ez5
  have f5 := hF0.tr (F5.up (by decide))
  refine pw_iconst d73_8 ?_
  refine pw_istore_n d73_9 m73 rfl rfl ?_
  exact L10 _ h5 (0) T5 f5 (by omega) (pv_mu _)

abbrev Q79 (τ : Nat → Option Nat) (ρ : Nat → Nat → Nat) (h : pv_H) (a0 : Nat) (x1 : Int) : Option Value → pv_H → Prop := fun r h' => h = h' ∧ ∃ z : Int, r = some (.int (pv_I z)) ∧ 0 ≤ z ∧ z ≤ 1023
set_option maxHeartbeats 4000000 in
set_option maxRecDepth 20000 in
/-- AngleNet$Shape.rimBeside(LAngleNet$Net;I)I -/
theorem ct79 {τ : Nat → Option Nat} {ρ : Nat → Nat → Nat} {K : Nat → Nat} {h : pv_H} {a0 : Nat} {x1 : Int} (hT : pv_Ty τ ρ h) (hA0 : τ a0 = some 2) (hX1 : (-2147483648) ≤ x1 ∧ x1 ≤ 2147483647) : pv_C K 79 [.ref a0, .int (pv_I x1)] h (Q79 τ ρ h a0 x1) := by
  refine pw_entry 2 ?_
  show pv_T K 79 0 (pv_fl [some (.ref a0), some (.int (pv_I x1)), none, none]) [] h (Q79 τ ρ h a0 x1)
  have L4 : ∀ (nn : Nat) (xL2_4 xL3_4 : Int), ((-2147483648) ≤ x1 ∧ x1 ≤ 2147483647) → (0 ≤ xL2_4 ∧ xL2_4 ≤ 1023) → (0 ≤ xL3_4 ∧ xL3_4 ≤ 10) → 10 - xL3_4 < nn → pv_T K 79 4 (pv_fl [some (.ref a0), some (.int (pv_I x1)), some (.int (pv_I xL2_4)), some (.int (pv_I xL3_4))]) [] h (Q79 τ ρ h a0 x1) := by
    intro nn
    induction nn with
    | zero => intro xL2_4 xL3_4 rL1_4 rL2_4 rL3_4 hm; exfalso; omega
    | succ nn ih4 =>
      intro xL2_4 xL3_4 rL1_4 rL2_4 rL3_4 hm4
      have J29 : ∀ (xS0_29 : Int) (o2_29 : Option Value), ((-2147483648) ≤ x1 ∧ x1 ≤ 2147483647) → (0 ≤ xL3_4 ∧ xL3_4 ≤ 9) → (0 ≤ xS0_29 ∧ xS0_29 ≤ 540) → (0 ≤ xL2_4 ∧ xL2_4 ≤ 1023) → pv_T K 79 29 (pv_fl [some (.ref a0), some (.int (pv_I x1)), o2_29, some (.int (pv_I xL3_4))]) [.int (pv_I xS0_29), .int (pv_I xL2_4)] h (Q79 τ ρ h a0 x1) := by
        intro xS0_29 o2_29 rL1_29 rL3_29 rS0_29 rS1_29
        refine pw_ior d79_29 (fun z29 hz29 ez29 => ?_)
        have bz29 := pv_or_b (n := 10) (m := 1024) (x := xL2_4) (y := xS0_29) (by omega) (by omega) (by omega) (by omega) (by decide) (by decide) hz29 ez29
        refine pw_istore_n d79_30 m79 rfl rfl ?_
        refine pw_iinc d79_31 m79 rfl rfl rfl ?_
        refine pw_goto d79_34 rfl ?_
        exact ih4 (z29) ((xL3_4 + 1)) (by omega) (by omega) (by omega) (by omega)
      refine pw_iload_n d79_4 rfl ?_
      refine pw_aload_n d79_5 rfl ?_
      refine pw_getI d79_6 g79_41 hT hA0 rfl rfl (fun u6 vu6 => ?_)
      refine pw_icmp_ge d79_9 rfl (by omega) (by omega) (fun c9 => ?_) (fun c9 => ?_)
      · refine pw_iload_n d79_37 rfl ?_
        exact pw_ireturn d79_38 tt79 ⟨rfl, xL2_4, rfl, (by omega), (by omega)⟩
      · refine pw_iload_n d79_12 rfl ?_
        refine pw_aload_n d79_13 rfl ?_
        refine pw_iload_n d79_14 rfl ?_
        refine pw_iload_n d79_15 rfl ?_
        refine pw_callV2 d79_16 k79_85 hT hA0 rfl rfl rfl (ct80 (τ := τ) (ρ := ρ) hT hA0 (by omega) (by omega)) (fun r16 h16 q16 => ?_)
        obtain ⟨eh16, z16, ez16, lz16, uz16⟩ := q16
        subst eh16
        subst ez16
        refine pw_if_eq d79_19 rfl (by omega) (fun c19 => ?_) (fun c19 => ?_)
        · refine pw_iconst d79_28 ?_
          exact J29 (0) _ (by omega) (by omega) (by omega) (by omega)
        · refine pw_iconst d79_22 ?_
          refine pw_iload_n d79_23 rfl ?_
          refine pw_ishl d79_24 (fun z24 hz24 ez24 => ?_)
          have bz24 := pv_shl1_b (n := 9) (m := 512) (y := xL3_4) (by omega) (by omega) (by decide) (by decide) hz24 ez24
          refine pw_goto d79_25 rfl ?_
          exact J29 (z24) _ (by omega) (by omega) (by omega) (by omega)
  refine pw_iconst d79_0 ?_
  refine pw_istore_n d79_1 m79 rfl rfl ?_
  refine pw_iconst d79_2 ?_
  refine pw_istore_n d79_3 m79 rfl rfl ?_
  exact L4 _ (0) (0) (by omega) (by omega) (by omega) (pv_mu _)

abbrev Q78 (τ : Nat → Option Nat) (ρ : Nat → Nat → Nat) (h : pv_H) (a0 : Nat) (a1 : Nat) : Option Value → pv_H → Prop := fun r h' => h = h' ∧ ∃ z : Int, r = some (.int (pv_I z)) ∧ (-1073741824) ≤ z ∧ z ≤ 1073741823
set_option maxHeartbeats 4000000 in
set_option maxRecDepth 20000 in
/-- AngleNet$Shape.rimSides(LAngleNet$Net;)I -/
theorem ct78 {τ : Nat → Option Nat} {ρ : Nat → Nat → Nat} {K : Nat → Nat} {h : pv_H} {a0 : Nat} {a1 : Nat} (hT : pv_Ty τ ρ h) (hA0 : τ a0 = some 4) (hA1 : τ a1 = some 2) : pv_C K 78 [.ref a0, .ref a1] h (Q78 τ ρ h a0 a1) := by
  refine pw_entry 2 ?_
  show pv_T K 78 0 (pv_fl [some (.ref a0), some (.ref a1), none, none]) [] h (Q78 τ ρ h a0 a1)
  have L4 : ∀ (nn : Nat) (xL2_4 xL3_4 : Int) (o0_4 : Option Value), ((-2147483648) ≤ xL2_4 ∧ xL2_4 ≤ 2147483647) → (0 ≤ xL3_4 ∧ xL3_4 ≤ 10) → 10 - xL3_4 < nn → pv_T K 78 4 (pv_fl [o0_4, some (.ref a1), some (.int (pv_I xL2_4)), some (.int (pv_I xL3_4))]) [] h (Q78 τ ρ h a0 a1) := by
    intro nn
    induction nn with
    | zero => intro xL2_4 xL3_4 o0_4 rL2_4 rL3_4 hm; exfalso; omega
    | succ nn ih4 =>
      intro xL2_4 xL3_4 o0_4 rL2_4 rL3_4 hm4
      refine pw_iload_n d78_4 rfl ?_
      refine pw_aload_n d78_5 rfl ?_
      refine pw_getI d78_6 g78_41 hT hA1 rfl rfl (fun u6 vu6 => ?_)
      refine pw_icmp_ge d78_9 rfl (by omega) (by omega) (fun c9 => ?_) (fun c9 => ?_)
      · refine pw_iload_n d78_29 rfl ?_
        refine pw_iconst d78_30 ?_
        refine pw_idivT d78_31 (by omega) (by omega) (by omega) (fun z31 hz31 ez31 => ?_)
        exact pw_ireturn d78_32 tt78 ⟨rfl, z31, rfl, (by omega), (by omega)⟩
      · refine pw_iload_n d78_12 rfl ?_
        refine pw_aload_n d78_13 rfl ?_
        refine pw_iload_n d78_14 rfl ?_
        refine pw_callS2 d78_15 k78_82 rfl rfl (ct79 (τ := τ) (ρ := ρ) hT hA1 (by omega)) (fun r15 h15 q15 => ?_)
        obtain ⟨eh15, z15, ez15, lz15, uz15⟩ := q15
        subst eh15
        subst ez15
        refine pw_callS1 d78_18 k78_32 rfl rfl (ct67 (τ := τ) (ρ := ρ) (by omega)) (fun r18 h18 q18 => ?_)
        obtain ⟨eh18, z18, ez18, lz18, uz18⟩ := q18
        subst eh18
        subst ez18
        refine pw_iadd d78_21 ?_
        refine pw_any (fun z22 hz22 ez22 => ?_)
        refine pw_istore_n d78_22 m78 rfl rfl ?_
        refine pw_iinc d78_23 m78 rfl rfl rfl ?_
        refine pw_goto d78_26 rfl ?_
        exact ih4 (z22) ((xL3_4 + 1)) _ (by omega) (by omega) (by omega)
  refine pw_iconst d78_0 ?_
  refine pw_istore_n d78_1 m78 rfl rfl ?_
  refine pw_iconst d78_2 ?_
  refine pw_istore_n d78_3 m78 rfl rfl ?_
  exact L4 _ (0) (0) _ (by omega) (by omega) (pv_mu _)

abbrev Q82 (τ : Nat → Option Nat) (ρ : Nat → Nat → Nat) (h : pv_H) (a0 : Nat) (x1 : Int) : Option Value → pv_H → Prop := fun r h' => h = h' ∧ ∃ z : Int, r = some (.int (pv_I z)) ∧ (-2147483648) ≤ z ∧ z ≤ 2147483647
set_option maxHeartbeats 4000000 in
set_option maxRecDepth 20000 in
/-- AngleNet$Shape.ringOf(LAngleNet$Net;I)I -/
theorem ct82 {τ : Nat → Option Nat} {ρ : Nat → Nat → Nat} {K : Nat → Nat} {h : pv_H} {a0 : Nat} {x1 : Int} (hT : pv_Ty τ ρ h) (hA0 : τ a0 = some 2) (hX1 : (-2147483648) ≤ x1 ∧ x1 ≤ 2147483647) : pv_C K 82 [.ref a0, .int (pv_I x1)] h (Q82 τ ρ h a0 x1) := by
  refine pw_entry 3 ?_
  show pv_T K 82 0 (pv_fl [some (.ref a0), some (.int (pv_I x1)), none, none, none]) [] h (Q82 τ ρ h a0 x1)
  have L6 : ∀ (nn : Nat) (xL2_6 xL3_6 : Int) (o1_6 o4_6 : Option Value), ((-2147483648) ≤ xL2_6 ∧ xL2_6 ≤ 2147483647) → (0 ≤ xL3_6 ∧ xL3_6 ≤ 10) → 10 - xL3_6 < nn → pv_T K 82 6 (pv_fl [some (.ref a0), o1_6, some (.int (pv_I xL2_6)), some (.int (pv_I xL3_6)), o4_6]) [] h (Q82 τ ρ h a0 x1) := by
    intro nn
    induction nn with
    | zero => intro xL2_6 xL3_6 o1_6 o4_6 rL2_6 rL3_6 hm; exfalso; omega
    | succ nn ih6 =>
      intro xL2_6 xL3_6 o1_6 o4_6 rL2_6 rL3_6 hm6
      have L17 : ∀ (nn : Nat) (xL2_17 xL4_17 : Int) (o1_17 : Option Value), ((-2147483648) ≤ xL2_17 ∧ xL2_17 ≤ 2147483647) → (0 ≤ xL3_6 ∧ xL3_6 ≤ 9) → (0 ≤ xL4_17 ∧ xL4_17 ≤ 10) → 10 - xL4_17 < nn → pv_T K 82 17 (pv_fl [some (.ref a0), o1_17, some (.int (pv_I xL2_17)), some (.int (pv_I xL3_6)), some (.int (pv_I xL4_17))]) [] h (Q82 τ ρ h a0 x1) := by
        intro nn
        induction nn with
        | zero => intro xL2_17 xL4_17 o1_17 rL2_17 rL3_17 rL4_17 hm; exfalso; omega
        | succ nn ih17 =>
          intro xL2_17 xL4_17 o1_17 rL2_17 rL3_17 rL4_17 hm17
          have J44 : ∀ (xL2_44 : Int) (o1_44 : Option Value), ((-2147483648) ≤ xL2_44 ∧ xL2_44 ≤ 2147483647) → (0 ≤ xL3_6 ∧ xL3_6 ≤ 9) → (0 ≤ xL4_17 ∧ xL4_17 ≤ 9) → pv_T K 82 44 (pv_fl [some (.ref a0), o1_44, some (.int (pv_I xL2_44)), some (.int (pv_I xL3_6)), some (.int (pv_I xL4_17))]) [] h (Q82 τ ρ h a0 x1) := by
            intro xL2_44 o1_44 rL2_44 rL3_44 rL4_44
            refine pw_iinc d82_44 m82 rfl rfl rfl ?_
            refine pw_goto d82_47 rfl ?_
            exact ih17 (xL2_44) ((xL4_17 + 1)) _ (by omega) (by omega) (by omega) (by omega)
          refine pw_iload d82_17 rfl ?_
          refine pw_aload_n d82_19 rfl ?_
          refine pw_getI d82_20 g82_41 hT hA0 rfl rfl (fun u20 vu20 => ?_)
          refine pw_icmp_ge d82_23 rfl (by omega) (by omega) (fun c23 => ?_) (fun c23 => ?_)
          · refine pw_iinc d82_50 m82 rfl rfl rfl ?_
            refine pw_goto d82_53 rfl ?_
            exact ih6 (xL2_17) ((xL3_6 + 1)) _ _ (by omega) (by omega) (by omega)
          · refine pw_iload_n d82_26 rfl ?_
            refine pw_iload d82_27 rfl ?_
            refine pw_ishr d82_29 (fun z29 hz29 ez29 => ?_)
            refine pw_iconst d82_30 ?_
            refine pw_iand d82_31 (fun z31 hz31 ez31 => ?_)
            have bz31 := pv_and1_b hz31 ez31
            refine pw_if_eq d82_32 rfl (by omega) (fun c32 => ?_) (fun c32 => ?_)
            · exact J44 (xL2_17) _ (by omega) (by omega) (by omega)
            · refine pw_iload_n d82_35 rfl ?_
              refine pw_aload_n d82_36 rfl ?_
              refine pw_iload d82_37 rfl ?_
              refine pw_callS2 d82_39 k82_82 rfl rfl (ct79 (τ := τ) (ρ := ρ) hT hA0 (by omega)) (fun r39 h39 q39 => ?_)
              obtain ⟨eh39, z39, ez39, lz39, uz39⟩ := q39
              subst eh39
              subst ez39
              refine pw_ior d82_42 (fun z42 hz42 ez42 => ?_)
              refine pw_istore_n d82_43 m82 rfl rfl ?_
              exact J44 (z42) _ (by omega) (by omega) (by omega)
      refine pw_iload_n d82_6 rfl ?_
      refine pw_aload_n d82_7 rfl ?_
      refine pw_getI d82_8 g82_41 hT hA0 rfl rfl (fun u8 vu8 => ?_)
      refine pw_icmp_ge d82_11 rfl (by omega) (by omega) (fun c11 => ?_) (fun c11 => ?_)
      · refine pw_iload_n d82_56 rfl ?_
        exact pw_ireturn d82_57 tt82 ⟨rfl, xL2_6, rfl, (by omega), (by omega)⟩
      · refine pw_iconst d82_14 ?_
        refine pw_istore d82_15 m82 rfl rfl ?_
        exact L17 _ (xL2_6) (0) _ (by omega) (by omega) (by omega) (pv_mu _)
  refine pw_iconst d82_0 ?_
  refine pw_iload_n d82_1 rfl ?_
  refine pw_ishl d82_2 (fun z2 hz2 ez2 => ?_)
  refine pw_istore_n d82_3 m82 rfl rfl ?_
  refine pw_iconst d82_4 ?_
  refine pw_istore_n d82_5 m82 rfl rfl ?_
  exact L6 _ (z2) (0) _ _ (by omega) (by omega) (pv_mu _)

abbrev Q81 (τ : Nat → Option Nat) (ρ : Nat → Nat → Nat) (h : pv_H) (a0 : Nat) (a1 : Nat) : Option Value → pv_H → Prop := fun r h' => h = h' ∧ ∃ z : Int, r = some (.int (pv_I z)) ∧ (-2147483648) ≤ z ∧ z ≤ 2147483647
set_option maxHeartbeats 4000000 in
set_option maxRecDepth 20000 in
/-- AngleNet$Shape.rings(LAngleNet$Net;)I -/
theorem ct81 {τ : Nat → Option Nat} {ρ : Nat → Nat → Nat} {K : Nat → Nat} {h : pv_H} {a0 : Nat} {a1 : Nat} (hT : pv_Ty τ ρ h) (hA0 : τ a0 = some 4) (hA1 : τ a1 = some 2) : pv_C K 81 [.ref a0, .ref a1] h (Q81 τ ρ h a0 a1) := by
  refine pw_entry 3 ?_
  show pv_T K 81 0 (pv_fl [some (.ref a0), some (.ref a1), none, none, none]) [] h (Q81 τ ρ h a0 a1)
  have L7 : ∀ (nn : Nat) (xL2_7 xL3_7 xL4_7 : Int) (o0_7 : Option Value), ((-2147483648) ≤ xL2_7 ∧ xL2_7 ≤ 2147483647) → ((-2147483648) ≤ xL3_7 ∧ xL3_7 ≤ 2147483647) → (0 ≤ xL4_7 ∧ xL4_7 ≤ 10) → 10 - xL4_7 < nn → pv_T K 81 7 (pv_fl [o0_7, some (.ref a1), some (.int (pv_I xL2_7)), some (.int (pv_I xL3_7)), some (.int (pv_I xL4_7))]) [] h (Q81 τ ρ h a0 a1) := by
    intro nn
    induction nn with
    | zero => intro xL2_7 xL3_7 xL4_7 o0_7 rL2_7 rL3_7 rL4_7 hm; exfalso; omega
    | succ nn ih7 =>
      intro xL2_7 xL3_7 xL4_7 o0_7 rL2_7 rL3_7 rL4_7 hm7
      have J46 : ∀ (xL2_46 xL3_46 : Int) (o0_46 : Option Value), ((-2147483648) ≤ xL2_46 ∧ xL2_46 ≤ 2147483647) → ((-2147483648) ≤ xL3_46 ∧ xL3_46 ≤ 2147483647) → (0 ≤ xL4_7 ∧ xL4_7 ≤ 9) → pv_T K 81 46 (pv_fl [o0_46, some (.ref a1), some (.int (pv_I xL2_46)), some (.int (pv_I xL3_46)), some (.int (pv_I xL4_7))]) [] h (Q81 τ ρ h a0 a1) := by
        intro xL2_46 xL3_46 o0_46 rL2_46 rL3_46 rL4_46
        refine pw_iinc d81_46 m81 rfl rfl rfl ?_
        refine pw_goto d81_49 rfl ?_
        exact ih7 (xL2_46) (xL3_46) ((xL4_7 + 1)) _ (by omega) (by omega) (by omega) (by omega)
      refine pw_iload d81_7 rfl ?_
      refine pw_aload_n d81_9 rfl ?_
      refine pw_getI d81_10 g81_41 hT hA1 rfl rfl (fun u10 vu10 => ?_)
      refine pw_icmp_ge d81_13 rfl (by omega) (by omega) (fun c13 => ?_) (fun c13 => ?_)
      · refine pw_iload_n d81_52 rfl ?_
        exact pw_ireturn d81_53 tt81 ⟨rfl, xL3_7, rfl, (by omega), (by omega)⟩
      · refine pw_iload_n d81_16 rfl ?_
        refine pw_iload d81_17 rfl ?_
        refine pw_ishr d81_19 (fun z19 hz19 ez19 => ?_)
        refine pw_iconst d81_20 ?_
        refine pw_iand d81_21 (fun z21 hz21 ez21 => ?_)
        have bz21 := pv_and1_b hz21 ez21
        refine pw_if_ne d81_22 rfl (by omega) (fun c22 => ?_) (fun c22 => ?_)
        · exact J46 (xL2_7) (xL3_7) _ (by omega) (by omega) (by omega)
        · refine pw_aload_n d81_25 rfl ?_
          refine pw_iload d81_26 rfl ?_
          refine pw_callS2 d81_28 k81_82 rfl rfl (ct79 (τ := τ) (ρ := ρ) hT hA1 (by omega)) (fun r28 h28 q28 => ?_)
          obtain ⟨eh28, z28, ez28, lz28, uz28⟩ := q28
          subst eh28
          subst ez28
          refine pw_if_eq d81_31 rfl (by omega) (fun c31 => ?_) (fun c31 => ?_)
          · exact J46 (xL2_7) (xL3_7) _ (by omega) (by omega) (by omega)
          · refine pw_iload_n d81_34 rfl ?_
            refine pw_aload_n d81_35 rfl ?_
            refine pw_iload d81_36 rfl ?_
            refine pw_callS2 d81_38 k81_88 rfl rfl (ct82 (τ := τ) (ρ := ρ) hT hA1 (by omega)) (fun r38 h38 q38 => ?_)
            obtain ⟨eh38, z38, ez38, lz38, uz38⟩ := q38
            subst eh38
            subst ez38
            refine pw_ior d81_41 (fun z41 hz41 ez41 => ?_)
            refine pw_istore_n d81_42 m81 rfl rfl ?_
            refine pw_iincU d81_43 m81 rfl rfl rfl (fun z43 hz43 => ?_)
            exact J46 (z41) (z43) _ (by omega) (by omega) (by omega)
  refine pw_iconst d81_0 ?_
  refine pw_istore_n d81_1 m81 rfl rfl ?_
  refine pw_iconst d81_2 ?_
  refine pw_istore_n d81_3 m81 rfl rfl ?_
  refine pw_iconst d81_4 ?_
  refine pw_istore d81_5 m81 rfl rfl ?_
  exact L7 _ (0) (0) (0) _ (by omega) (by omega) (by omega) (pv_mu _)

abbrev Q83 (τ : Nat → Option Nat) (ρ : Nat → Nat → Nat) (h : pv_H) (a0 : Nat) (a1 : Nat) : Option Value → pv_H → Prop := fun r h' => pv_Ty τ ρ h' ∧ pv_Fr τ [2111, 2175] h h' ∧ ∃ z : Int, r = some (.int (pv_I z)) ∧ (-2147483648) ≤ z ∧ z ≤ 2147483647
set_option maxHeartbeats 4000000 in
set_option maxRecDepth 20000 in
/-- AngleNet$Shape.handles(LAngleNet$Net;)I -/
theorem ct83 {τ : Nat → Option Nat} {ρ : Nat → Nat → Nat} {K : Nat → Nat} {h : pv_H} {a0 : Nat} {a1 : Nat} (hT : pv_Ty τ ρ h) (hA0 : τ a0 = some 4) (hA1 : τ a1 = some 2) : pv_C K 83 [.ref a0, .ref a1] h (Q83 τ ρ h a0 a1) := by
  refine pw_entry 0 ?_
  show pv_T K 83 0 (pv_fl [some (.ref a0), some (.ref a1)]) [] h (Q83 τ ρ h a0 a1)
  have hF0 : pv_Fr τ [2111, 2175] h h := pv_Fr.rf
  refine pw_aload_n d83_0 rfl ?_
  refine pw_aload_n d83_1 rfl ?_
  refine pw_callV1 d83_2 k83_91 hT hA0 rfl rfl rfl (ct71 (τ := τ) (ρ := ρ) hT hA0 hA1) (fun r2 h2 q2 => ?_)
  obtain ⟨eh2, z2, ez2, lz2, uz2⟩ := q2
  subst eh2
  subst ez2
  refine pw_iconst d83_5 ?_
  refine pw_icmp_ne d83_6 rfl (by omega) (by omega) (fun c6 => ?_) (fun c6 => ?_)
  · refine pw_iconst d83_25 ?_
    exact pw_ireturn d83_26 tt83 ⟨hT, hF0, (-1), rfl, (by omega), (by omega)⟩
  · refine pw_aload_n d83_9 rfl ?_
    refine pw_aload_n d83_10 rfl ?_
    refine pw_callV1 d83_11 k83_94 hT hA0 rfl rfl rfl (ct69 (τ := τ) (ρ := ρ) hT hA0 hA1) (fun r11 h11 q11 => ?_)
    obtain ⟨eh11, z11, ez11, lz11, uz11⟩ := q11
    subst eh11
    subst ez11
    refine pw_if_eq d83_14 rfl (by omega) (fun c14 => ?_) (fun c14 => ?_)
    · refine pw_iconst d83_25 ?_
      exact pw_ireturn d83_26 tt83 ⟨hT, hF0, (-1), rfl, (by omega), (by omega)⟩
    · refine pw_aload_n d83_17 rfl ?_
      refine pw_aload_n d83_18 rfl ?_
      refine pw_callV1 d83_19 k83_98 hT hA0 rfl rfl rfl (ct73 (τ := τ) (ρ := ρ) hT hA0 hA1) (fun r19 h19 q19 => ?_)
      obtain ⟨T19, F19, z19, ez19, lz19, uz19⟩ := q19
      subst ez19
      have f19 := hF0.tr (F19.up (by decide))
      refine pw_if_ne d83_22 rfl (by omega) (fun c22 => ?_) (fun c22 => ?_)
      · refine pw_iconst d83_27 ?_
        refine pw_aload_n d83_28 rfl ?_
        refine pw_aload_n d83_29 rfl ?_
        refine pw_callV1 d83_30 k83_101 T19 hA0 rfl rfl rfl (ct65 (τ := τ) (ρ := ρ) T19 hA0 hA1) (fun r30 h30 q30 => ?_)
        obtain ⟨eh30, z30, ez30, lz30, uz30⟩ := q30
        subst eh30
        subst ez30
        refine pw_isub d83_33 ?_
        refine pw_aload_n d83_34 rfl ?_
        refine pw_aload_n d83_35 rfl ?_
        refine pw_callV1 d83_36 k83_104 T19 hA0 rfl rfl rfl (ct81 (τ := τ) (ρ := ρ) T19 hA0 hA1) (fun r36 h36 q36 => ?_)
        obtain ⟨eh36, z36, ez36, lz36, uz36⟩ := q36
        subst eh36
        subst ez36
        refine pw_isub d83_39 ?_
        refine pw_iconst d83_40 ?_
        refine pw_idivU d83_41 (by omega) (by omega) (fun z41 hz41 ez41 => ?_)
        exact pw_ireturn d83_42 tt83 ⟨T19, f19, z41, rfl, (by omega), (by omega)⟩
      · refine pw_iconst d83_25 ?_
        exact pw_ireturn d83_26 tt83 ⟨T19, f19, (-1), rfl, (by omega), (by omega)⟩

abbrev Q138 (τ : Nat → Option Nat) (ρ : Nat → Nat → Nat) (h : pv_H) (a0 : Nat) (a1 : Nat) : Option Value → pv_H → Prop := fun r h' => h = h' ∧ ∃ z : Int, r = some (.int (pv_I z)) ∧ 0 ≤ z ∧ z ≤ 1
set_option maxHeartbeats 4000000 in
set_option maxRecDepth 20000 in
/-- AngleNet$Shape.isBall(LAngleNet$Net;)Z -/
theorem ct138 {τ : Nat → Option Nat} {ρ : Nat → Nat → Nat} {K : Nat → Nat} {h : pv_H} {a0 : Nat} {a1 : Nat} (hT : pv_Ty τ ρ h) (hA0 : τ a0 = some 4) (hA1 : τ a1 = some 2) : pv_C K 138 [.ref a0, .ref a1] h (Q138 τ ρ h a0 a1) := by
  refine pw_entry 0 ?_
  show pv_T K 138 0 (pv_fl [some (.ref a0), some (.ref a1)]) [] h (Q138 τ ρ h a0 a1)
  refine pw_aload_n d138_0 rfl ?_
  refine pw_aload_n d138_1 rfl ?_
  refine pw_callV1 d138_2 k138_91 hT hA0 rfl rfl rfl (ct71 (τ := τ) (ρ := ρ) hT hA0 hA1) (fun r2 h2 q2 => ?_)
  obtain ⟨eh2, z2, ez2, lz2, uz2⟩ := q2
  subst eh2
  subst ez2
  refine pw_iconst d138_5 ?_
  refine pw_icmp_ne d138_6 rfl (by omega) (by omega) (fun c6 => ?_) (fun c6 => ?_)
  · refine pw_iconst d138_38 ?_
    exact pw_zreturn d138_39 tt138 (by omega) ⟨rfl, 0, rfl, (by omega), (by omega)⟩
  · refine pw_aload_n d138_9 rfl ?_
    refine pw_aload_n d138_10 rfl ?_
    refine pw_callV1 d138_11 k138_101 hT hA0 rfl rfl rfl (ct65 (τ := τ) (ρ := ρ) hT hA0 hA1) (fun r11 h11 q11 => ?_)
    obtain ⟨eh11, z11, ez11, lz11, uz11⟩ := q11
    subst eh11
    subst ez11
    refine pw_iconst d138_14 ?_
    refine pw_icmp_ne d138_15 rfl (by omega) (by omega) (fun c15 => ?_) (fun c15 => ?_)
    · refine pw_iconst d138_38 ?_
      exact pw_zreturn d138_39 tt138 (by omega) ⟨rfl, 0, rfl, (by omega), (by omega)⟩
    · refine pw_aload_n d138_18 rfl ?_
      refine pw_aload_n d138_19 rfl ?_
      refine pw_callV1 d138_20 k138_107 hT hA0 rfl rfl rfl (ct78 (τ := τ) (ρ := ρ) hT hA0 hA1) (fun r20 h20 q20 => ?_)
      obtain ⟨eh20, z20, ez20, lz20, uz20⟩ := q20
      subst eh20
      subst ez20
      refine pw_if_ne d138_23 rfl (by omega) (fun c23 => ?_) (fun c23 => ?_)
      · refine pw_iconst d138_38 ?_
        exact pw_zreturn d138_39 tt138 (by omega) ⟨rfl, 0, rfl, (by omega), (by omega)⟩
      · refine pw_aload_n d138_26 rfl ?_
        refine pw_aload_n d138_27 rfl ?_
        refine pw_callV1 d138_28 k138_94 hT hA0 rfl rfl rfl (ct69 (τ := τ) (ρ := ρ) hT hA0 hA1) (fun r28 h28 q28 => ?_)
        obtain ⟨eh28, z28, ez28, lz28, uz28⟩ := q28
        subst eh28
        subst ez28
        refine pw_if_eq d138_31 rfl (by omega) (fun c31 => ?_) (fun c31 => ?_)
        · refine pw_iconst d138_38 ?_
          exact pw_zreturn d138_39 tt138 (by omega) ⟨rfl, 0, rfl, (by omega), (by omega)⟩
        · refine pw_iconst d138_34 ?_
          refine pw_goto d138_35 rfl ?_
          exact pw_zreturn d138_39 tt138 (by omega) ⟨rfl, 1, rfl, (by omega), (by omega)⟩

abbrev Q86 (τ : Nat → Option Nat) (ρ : Nat → Nat → Nat) (h : pv_H) (a0 : Nat) (x1 : Int) : Option Value → pv_H → Prop := fun r h' => h = h' ∧ ∃ z : Int, r = some (.int (pv_I z)) ∧ (-1) ≤ z ∧ z ≤ 9
set_option maxHeartbeats 4000000 in
set_option maxRecDepth 20000 in
/-- AngleNet$Shape.leastBeside(LAngleNet$Net;I)I -/
theorem ct86 {τ : Nat → Option Nat} {ρ : Nat → Nat → Nat} {K : Nat → Nat} {h : pv_H} {a0 : Nat} {x1 : Int} (hT : pv_Ty τ ρ h) (hA0 : τ a0 = some 2) (hX1 : (-2147483648) ≤ x1 ∧ x1 ≤ 2147483647) : pv_C K 86 [.ref a0, .int (pv_I x1)] h (Q86 τ ρ h a0 x1) := by
  refine pw_entry 1 ?_
  show pv_T K 86 0 (pv_fl [some (.ref a0), some (.int (pv_I x1)), none]) [] h (Q86 τ ρ h a0 x1)
  have L2 : ∀ (nn : Nat) (xL2_2 : Int), ((-2147483648) ≤ x1 ∧ x1 ≤ 2147483647) → (0 ≤ xL2_2 ∧ xL2_2 ≤ 10) → 10 - xL2_2 < nn → pv_T K 86 2 (pv_fl [some (.ref a0), some (.int (pv_I x1)), some (.int (pv_I xL2_2))]) [] h (Q86 τ ρ h a0 x1) := by
    intro nn
    induction nn with
    | zero => intro xL2_2 rL1_2 rL2_2 hm; exfalso; omega
    | succ nn ih2 =>
      intro xL2_2 rL1_2 rL2_2 hm2
      refine pw_iload_n d86_2 rfl ?_
      refine pw_aload_n d86_3 rfl ?_
      refine pw_getI d86_4 g86_41 hT hA0 rfl rfl (fun u4 vu4 => ?_)
      refine pw_icmp_ge d86_7 rfl (by omega) (by omega) (fun c7 => ?_) (fun c7 => ?_)
      · refine pw_iconst d86_27 ?_
        exact pw_ireturn d86_28 tt86 ⟨rfl, (-1), rfl, (by omega), (by omega)⟩
      · refine pw_aload_n d86_10 rfl ?_
        refine pw_iload_n d86_11 rfl ?_
        refine pw_iload_n d86_12 rfl ?_
        refine pw_callV2 d86_13 k86_126 hT hA0 rfl rfl rfl (ct47 (τ := τ) (ρ := ρ) hT hA0 (by omega) (by omega)) (fun r13 h13 q13 => ?_)
        obtain ⟨eh13, z13, ez13, lz13, uz13, pz13_0⟩ := q13
        subst eh13
        subst ez13
        refine pw_if_eq d86_16 rfl (by omega) (fun c16 => ?_) (fun c16 => ?_)
        · refine pw_iinc d86_21 m86 rfl rfl rfl ?_
          refine pw_goto d86_24 rfl ?_
          exact ih2 ((xL2_2 + 1)) (by omega) (by omega) (by omega)
        · refine pw_iload_n d86_19 rfl ?_
          exact pw_ireturn d86_20 tt86 ⟨rfl, xL2_2, rfl, (by omega), (by omega)⟩
  refine pw_iconst d86_0 ?_
  refine pw_istore_n d86_1 m86 rfl rfl ?_
  exact L2 _ (0) (by omega) (by omega) (pv_mu _)

abbrev Q87 (τ : Nat → Option Nat) (ρ : Nat → Nat → Nat) (h : pv_H) (a0 : Nat) (x1 : Int) (x2 : Int) : Option Value → pv_H → Prop := fun r h' => h = h' ∧ ∃ z : Int, r = some (.int (pv_I z)) ∧ (-1) ≤ z ∧ z ≤ 17
set_option maxHeartbeats 4000000 in
set_option maxRecDepth 20000 in
/-- AngleNet$Shape.firstThird(LAngleNet$Net;II)I -/
theorem ct87 {τ : Nat → Option Nat} {ρ : Nat → Nat → Nat} {K : Nat → Nat} {h : pv_H} {a0 : Nat} {x1 : Int} {x2 : Int} (hT : pv_Ty τ ρ h) (hA0 : τ a0 = some 2) (hX1 : (-2147483648) ≤ x1 ∧ x1 ≤ 2147483647) (hX2 : (-2147483648) ≤ x2 ∧ x2 ≤ 2147483647) : pv_C K 87 [.ref a0, .int (pv_I x1), .int (pv_I x2)] h (Q87 τ ρ h a0 x1 x2) := by
  refine pw_entry 2 ?_
  show pv_T K 87 0 (pv_fl [some (.ref a0), some (.int (pv_I x1)), some (.int (pv_I x2)), none, none]) [] h (Q87 τ ρ h a0 x1 x2)
  have J26 : ∀ (xL3_26 xS0_26 : Int) (o4_26 : Option Value), ((-2147483648) ≤ x1 ∧ x1 ≤ 2147483647) → ((-2147483648) ≤ x2 ∧ x2 ≤ 2147483647) → ((-1) ≤ xL3_26 ∧ xL3_26 ≤ 17) → ((-1) ≤ xS0_26 ∧ xS0_26 ≤ 17) → (xS0_26 = -1 ∨ 0 ≤ xL3_26) → pv_T K 87 26 (pv_fl [some (.ref a0), some (.int (pv_I x1)), some (.int (pv_I x2)), some (.int (pv_I xL3_26)), o4_26]) [.int (pv_I xS0_26)] h (Q87 τ ρ h a0 x1 x2) := by
    intro xL3_26 xS0_26 o4_26 rL1_26 rL2_26 rL3_26 rS0_26 i0_26
    refine pw_istore d87_26 m87 rfl rfl ?_
    refine pw_iload d87_28 rfl ?_
    refine pw_iconst d87_30 ?_
    refine pw_icmp_ne d87_31 rfl (by omega) (by omega) (fun c31 => ?_) (fun c31 => ?_)
    · refine pw_aload_n d87_36 rfl ?_
      refine pw_iload_n d87_37 rfl ?_
      refine pw_iload_n d87_38 rfl ?_
      refine pw_iload_n d87_39 rfl ?_
      refine pw_callV3 d87_40 k87_119 hT hA0 rfl rfl rfl (ct90 (τ := τ) (ρ := ρ) hT hA0 (by omega) (by omega) (by omega)) (fun r40 h40 q40 => ?_)
      obtain ⟨eh40, z40, ez40, lz40, uz40⟩ := q40
      subst eh40
      subst ez40
      refine pw_aload_n d87_43 rfl ?_
      refine pw_iload d87_44 rfl ?_
      refine pw_iload_n d87_46 rfl ?_
      refine pw_iload_n d87_47 rfl ?_
      refine pw_callV3 d87_48 k87_119 hT hA0 rfl rfl rfl (ct90 (τ := τ) (ρ := ρ) hT hA0 (by omega) (by omega) (by omega)) (fun r48 h48 q48 => ?_)
      obtain ⟨eh48, z48, ez48, lz48, uz48⟩ := q48
      subst eh48
      subst ez48
      refine pw_icmp_ge d87_51 rfl (by omega) (by omega) (fun c51 => ?_) (fun c51 => ?_)
      · refine pw_iload d87_58 rfl ?_
        exact pw_ireturn d87_60 tt87 ⟨rfl, xS0_26, rfl, (by omega), (by omega)⟩
      · refine pw_iload_n d87_54 rfl ?_
        refine pw_goto d87_55 rfl ?_
        exact pw_ireturn d87_60 tt87 ⟨rfl, xL3_26, rfl, (by omega), (by omega)⟩
    · refine pw_iload_n d87_34 rfl ?_
      exact pw_ireturn d87_35 tt87 ⟨rfl, xL3_26, rfl, (by omega), (by omega)⟩
  refine pw_aload_n d87_0 rfl ?_
  refine pw_iload_n d87_1 rfl ?_
  refine pw_iload_n d87_2 rfl ?_
  refine pw_iconst d87_3 ?_
  refine pw_callV3 d87_4 k87_123 hT hA0 rfl rfl rfl (ct88 (τ := τ) (ρ := ρ) hT hA0 (by omega) (by omega) (by omega)) (fun r4 h4 q4 => ?_)
  obtain ⟨eh4, z4, ez4, lz4, uz4⟩ := q4
  subst eh4
  subst ez4
  refine pw_istore_n d87_7 m87 rfl rfl ?_
  refine pw_iload_n d87_8 rfl ?_
  refine pw_iconst d87_9 ?_
  refine pw_icmp_ne d87_10 rfl (by omega) (by omega) (fun c10 => ?_) (fun c10 => ?_)
  · refine pw_aload_n d87_17 rfl ?_
    refine pw_iload_n d87_18 rfl ?_
    refine pw_iload_n d87_19 rfl ?_
    refine pw_iload_n d87_20 rfl ?_
    refine pw_iconst d87_21 ?_
    refine pw_iadd d87_22 ?_
    refine pw_callV3 d87_23 k87_123 hT hA0 rfl rfl rfl (ct88 (τ := τ) (ρ := ρ) hT hA0 (by omega) (by omega) (by omega)) (fun r23 h23 q23 => ?_)
    obtain ⟨eh23, z23, ez23, lz23, uz23⟩ := q23
    subst eh23
    subst ez23
    exact J26 (z4) (z23) _ (by omega) (by omega) (by omega) (by omega) (by omega)
  · refine pw_iconst d87_13 ?_
    refine pw_goto d87_14 rfl ?_
    exact J26 (z4) ((-1)) _ (by omega) (by omega) (by omega) (by omega) (by omega)

abbrev Q85 (τ : Nat → Option Nat) (ρ : Nat → Nat → Nat) (h : pv_H) (a0 : Nat) (a1 : Nat) (x2 : Int) (x3 : Int) : Option Value → pv_H → Prop := fun r h' => h = h' ∧ ∃ z : Int, r = some (.int (pv_I z)) ∧ (-1) ≤ z ∧ z ≤ 32
set_option maxHeartbeats 4000000 in
set_option maxRecDepth 20000 in
/-- AngleNet$Shape.beside(LAngleNet$Net;II)I -/
theorem ct85 {τ : Nat → Option Nat} {ρ : Nat → Nat → Nat} {K : Nat → Nat} {h : pv_H} {a0 : Nat} {a1 : Nat} {x2 : Int} {x3 : Int} (hT : pv_Ty τ ρ h) (hA0 : τ a0 = some 4) (hA1 : τ a1 = some 2) (hX2 : (-2147483648) ≤ x2 ∧ x2 ≤ 2147483647) (hX3 : (-2147483648) ≤ x3 ∧ x3 ≤ 2147483647) : pv_C K 85 [.ref a0, .ref a1, .int (pv_I x2), .int (pv_I x3)] h (Q85 τ ρ h a0 a1 x2 x3) := by
  refine pw_entry 6 ?_
  show pv_T K 85 0 (pv_fl [some (.ref a0), some (.ref a1), some (.int (pv_I x2)), some (.int (pv_I x3)), none, none, none, none, none, none]) [] h (Q85 τ ρ h a0 a1 x2 x3)
  have L64 : ∀ (nn : Nat) (xL6_64 xL7_64 xL8_64 : Int) (o0_64 o4_64 o5_64 o9_64 : Option Value), ((-2147483648) ≤ x2 ∧ x2 ≤ 2147483647) → (0 ≤ x3 ∧ x3 ≤ 2147483646) → (0 ≤ xL6_64 ∧ xL6_64 ≤ 32) → ((-1) ≤ xL7_64 ∧ xL7_64 ≤ 17) → (0 ≤ xL8_64 ∧ xL8_64 ≤ 2147483647) → 2147483647 - xL8_64 < nn → pv_T K 85 64 (pv_fl [o0_64, some (.ref a1), some (.int (pv_I x2)), some (.int (pv_I x3)), o4_64, o5_64, some (.int (pv_I xL6_64)), some (.int (pv_I xL7_64)), some (.int (pv_I xL8_64)), o9_64]) [] h (Q85 τ ρ h a0 a1 x2 x3) := by
    intro nn
    induction nn with
    | zero => intro xL6_64 xL7_64 xL8_64 o0_64 o4_64 o5_64 o9_64 rL2_64 rL3_64 rL6_64 rL7_64 rL8_64 hm; exfalso; omega
    | succ nn ih64 =>
      intro xL6_64 xL7_64 xL8_64 o0_64 o4_64 o5_64 o9_64 rL2_64 rL3_64 rL6_64 rL7_64 rL8_64 hm64
      have J120 : ∀ (xL6_120 xS0_120 : Int) (o0_120 o4_120 o5_120 o7_120 o9_120 : Option Value), ((-2147483648) ≤ x2 ∧ x2 ≤ 2147483647) → (1 ≤ x3 ∧ x3 ≤ 2147483646) → (0 ≤ xL6_120 ∧ xL6_120 ≤ 32) → (0 ≤ xL8_64 ∧ xL8_64 ≤ 2147483646) → ((-1) ≤ xS0_120 ∧ xS0_120 ≤ 17) → pv_T K 85 120 (pv_fl [o0_120, some (.ref a1), some (.int (pv_I x2)), some (.int (pv_I x3)), o4_120, o5_120, some (.int (pv_I xL6_120)), o7_120, some (.int (pv_I xL8_64)), o9_120]) [.int (pv_I xS0_120)] h (Q85 τ ρ h a0 a1 x2 x3) := by
        intro xL6_120 xS0_120 o0_120 o4_120 o5_120 o7_120 o9_120 rL2_120 rL3_120 rL6_120 rL8_120 rS0_120
        refine pw_istore d85_120 m85 rfl rfl ?_
        refine pw_iinc d85_122 m85 rfl rfl rfl ?_
        refine pw_goto d85_125 rfl ?_
        exact ih64 (xL6_120) (xS0_120) ((xL8_64 + 1)) _ _ _ _ (by omega) (by omega) (by omega) (by omega) (by omega) (by omega)
      refine pw_iload d85_64 rfl ?_
      refine pw_iload_n d85_66 rfl ?_
      refine pw_icmp_ge d85_67 rfl (by omega) (by omega) (fun c67 => ?_) (fun c67 => ?_)
      · refine pw_iload d85_128 rfl ?_
        exact pw_ireturn d85_130 tt85 ⟨rfl, xL6_64, rfl, (by omega), (by omega)⟩
      · refine pw_iload d85_70 rfl ?_
        refine pw_iconst d85_72 ?_
        refine pw_icmp_eq d85_73 rfl (by omega) (by omega) (fun c73 => ?_) (fun c73 => ?_)
        · refine pw_iload d85_128 rfl ?_
          exact pw_ireturn d85_130 tt85 ⟨rfl, xL6_64, rfl, (by omega), (by omega)⟩
        · refine pw_aload_n d85_76 rfl ?_
          refine pw_iload d85_77 rfl ?_
          refine pw_iload_n d85_79 rfl ?_
          refine pw_iload d85_80 rfl ?_
          refine pw_callV3 d85_82 k85_119 hT hA1 rfl rfl rfl (ct90 (τ := τ) (ρ := ρ) hT hA1 (by omega) (by omega) (by omega)) (fun r82 h82 q82 => ?_)
          obtain ⟨eh82, z82, ez82, lz82, uz82⟩ := q82
          subst eh82
          subst ez82
          refine pw_istore d85_85 m85 rfl rfl ?_
          refine pw_aload_n d85_87 rfl ?_
          refine pw_iload_n d85_88 rfl ?_
          refine pw_iload d85_89 rfl ?_
          refine pw_iconst d85_91 ?_
          refine pw_callV3 d85_92 k85_123 hT hA1 rfl rfl rfl (ct88 (τ := τ) (ρ := ρ) hT hA1 (by omega) (by omega) (by omega)) (fun r92 h92 q92 => ?_)
          obtain ⟨eh92, z92, ez92, lz92, uz92⟩ := q92
          subst eh92
          subst ez92
          refine pw_istore d85_95 m85 rfl rfl ?_
          refine pw_iload d85_97 rfl ?_
          refine pw_iload d85_99 rfl ?_
          refine pw_icmp_ne d85_101 rfl (by omega) (by omega) (fun c101 => ?_) (fun c101 => ?_)
          · refine pw_iload d85_118 rfl ?_
            exact J120 (z82) (z92) _ _ _ _ _ (by omega) (by omega) (by omega) (by omega) (by omega)
          · refine pw_aload_n d85_104 rfl ?_
            refine pw_iload_n d85_105 rfl ?_
            refine pw_iload d85_106 rfl ?_
            refine pw_iload d85_108 rfl ?_
            refine pw_iconst d85_110 ?_
            refine pw_iadd d85_111 ?_
            refine pw_callV3 d85_112 k85_123 hT hA1 rfl rfl rfl (ct88 (τ := τ) (ρ := ρ) hT hA1 (by omega) (by omega) (by omega)) (fun r112 h112 q112 => ?_)
            obtain ⟨eh112, z112, ez112, lz112, uz112⟩ := q112
            subst eh112
            subst ez112
            refine pw_goto d85_115 rfl ?_
            exact J120 (z82) (z112) _ _ _ _ _ (by omega) (by omega) (by omega) (by omega) (by omega)
  have J25 : ∀ (xS0_25 : Int) (o0_25 o4_25 o5_25 o6_25 o7_25 o8_25 o9_25 : Option Value), ((-2147483648) ≤ x2 ∧ x2 ≤ 2147483647) → ((-2147483648) ≤ x3 ∧ x3 ≤ 2147483647) → ((-1) ≤ xS0_25 ∧ xS0_25 ≤ 32) → pv_T K 85 25 (pv_fl [o0_25, some (.ref a1), some (.int (pv_I x2)), some (.int (pv_I x3)), o4_25, o5_25, o6_25, o7_25, o8_25, o9_25]) [.int (pv_I xS0_25)] h (Q85 τ ρ h a0 a1 x2 x3) := by
    intro xS0_25 o0_25 o4_25 o5_25 o6_25 o7_25 o8_25 o9_25 rL2_25 rL3_25 rS0_25
    refine pw_istore d85_25 m85 rfl rfl ?_
    refine pw_iload_n d85_27 rfl ?_
    refine pw_if_lt d85_28 rfl (by omega) (fun c28 => ?_) (fun c28 => ?_)
    · refine pw_iconst d85_46 ?_
      exact pw_ireturn d85_47 tt85 ⟨rfl, (-1), rfl, (by omega), (by omega)⟩
    · refine pw_iload_n d85_31 rfl ?_
      refine pw_aload_n d85_32 rfl ?_
      refine pw_iload_n d85_33 rfl ?_
      refine pw_callV1 d85_34 k85_113 hT hA1 rfl rfl rfl (ct59 (τ := τ) (ρ := ρ) hT hA1 (by omega)) (fun r34 h34 q34 => ?_)
      obtain ⟨eh34, z34, ez34, lz34, uz34⟩ := q34
      subst eh34
      subst ez34
      refine pw_icmp_ge d85_37 rfl (by omega) (by omega) (fun c37 => ?_) (fun c37 => ?_)
      · refine pw_iconst d85_46 ?_
        exact pw_ireturn d85_47 tt85 ⟨rfl, (-1), rfl, (by omega), (by omega)⟩
      · refine pw_iload d85_40 rfl ?_
        refine pw_iconst d85_42 ?_
        refine pw_icmp_ne d85_43 rfl (by omega) (by omega) (fun c43 => ?_) (fun c43 => ?_)
        · refine pw_iload d85_48 rfl ?_
          refine pw_istore d85_50 m85 rfl rfl ?_
          refine pw_aload_n d85_52 rfl ?_
          refine pw_iload_n d85_53 rfl ?_
          refine pw_iload d85_54 rfl ?_
          refine pw_callS3 d85_56 k85_116 rfl rfl (ct87 (τ := τ) (ρ := ρ) hT hA1 (by omega) (by omega)) (fun r56 h56 q56 => ?_)
          obtain ⟨eh56, z56, ez56, lz56, uz56⟩ := q56
          subst eh56
          subst ez56
          refine pw_istore d85_59 m85 rfl rfl ?_
          refine pw_iconst d85_61 ?_
          refine pw_istore d85_62 m85 rfl rfl ?_
          exact L64 _ (xS0_25) (z56) (0) _ _ _ _ (by omega) (by omega) (by omega) (by omega) (by omega) (pv_mu _)
        · refine pw_iconst d85_46 ?_
          exact pw_ireturn d85_47 tt85 ⟨rfl, (-1), rfl, (by omega), (by omega)⟩
  refine pw_aload_n d85_0 rfl ?_
  refine pw_iload_n d85_1 rfl ?_
  refine pw_callS2 d85_2 k85_82 rfl rfl (ct79 (τ := τ) (ρ := ρ) hT hA1 (by omega)) (fun r2 h2 q2 => ?_)
  obtain ⟨eh2, z2, ez2, lz2, uz2⟩ := q2
  subst eh2
  subst ez2
  refine pw_istore d85_5 m85 rfl rfl ?_
  refine pw_iload d85_7 rfl ?_
  refine pw_if_eq d85_9 rfl (by omega) (fun c9 => ?_) (fun c9 => ?_)
  · refine pw_aload_n d85_20 rfl ?_
    refine pw_iload_n d85_21 rfl ?_
    refine pw_callS2 d85_22 k85_110 rfl rfl (ct86 (τ := τ) (ρ := ρ) hT hA1 (by omega)) (fun r22 h22 q22 => ?_)
    obtain ⟨eh22, z22, ez22, lz22, uz22⟩ := q22
    subst eh22
    subst ez22
    exact J25 (z22) _ _ _ _ _ _ _ (by omega) (by omega) (by omega)
  · refine pw_iload d85_12 rfl ?_
    refine pw_callS1 d85_14 k85_72 rfl rfl (ct76 (τ := τ) (ρ := ρ) (by omega)) (fun r14 h14 q14 => ?_)
    obtain ⟨eh14, z14, ez14, lz14, uz14, pz14_0⟩ := q14
    subst eh14
    subst ez14
    refine pw_goto d85_17 rfl ?_
    exact J25 (z14) _ _ _ _ _ _ _ (by omega) (by omega) (by omega)
