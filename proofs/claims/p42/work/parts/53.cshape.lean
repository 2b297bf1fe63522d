abbrev Q66 (τ : Nat → Option Nat) (ρ : Nat → Nat → Nat) (h : pv_H) (a0 : Nat) (a1 : Nat) : Option Value → pv_H → Prop := fun r h' => h = h' ∧ ∃ z : Int, r = some (.int (pv_I z)) ∧ (-2147483648) ≤ z ∧ z ≤ 2147483647
set_option maxHeartbeats 4000000 in
set_option maxRecDepth 20000 in
/-- AngleNet$Shape.usedPosts(LAngleNet$Net;)I -/
theorem c66 {τ : Nat → Option Nat} {ρ : Nat → Nat → Nat} {K : Nat → Nat} {h : pv_H} {a0 : Nat} {a1 : Nat} (hT : pv_Ty τ ρ h) (hA0 : τ a0 = some 4) (hA1 : τ a1 = some 2) : pv_C K 66 [.ref a0, .ref a1] h (Q66 τ ρ h a0 a1) := by
  refine pw_entry 2 ?_
  show pv_T K 66 0 (pv_fl [some (.ref a0), some (.ref a1), none, none]) [] h (Q66 τ ρ h a0 a1)
  have L4 : ∀ (nn : Nat) (xL2_4 xL3_4 : Int) (o0_4 : Option Value), ((-2147483648) ≤ xL2_4 ∧ xL2_4 ≤ 2147483647) → (0 ≤ xL3_4 ∧ xL3_4 ≤ 18) → 18 - xL3_4 < nn → pv_T K 66 4 (pv_fl [o0_4, some (.ref a1), some (.int (pv_I xL2_4)), some (.int (pv_I xL3_4))]) [] h (Q66 τ ρ h a0 a1) := by
    intro nn
    induction nn with
    | zero => intro xL2_4 xL3_4 o0_4 rL2_4 rL3_4 hm; exfalso; omega
    | succ nn ih4 =>
      intro xL2_4 xL3_4 o0_4 rL2_4 rL3_4 hm4
      refine pw_iload_n d66_4 rfl ?_
      refine pw_aload_n d66_5 rfl ?_
      refine pw_getI d66_6 g66_18 hT hA1 rfl rfl (fun u8981 vu8981 => ?_)
      refine pw_icmp_ge d66_9 rfl (by omega) (by omega) (fun c8982 => ?_) (fun c8982 => ?_)
      · refine pw_iload_n d66_26 rfl ?_
        exact pw_ireturn d66_27 t66 ⟨rfl, xL2_4, rfl, (by omega), (by omega)⟩
      · refine pw_iload_n d66_12 rfl ?_
        refine pw_aload_n d66_13 rfl ?_
        refine pw_iload_n d66_14 rfl ?_
        refine pw_callV1 d66_15 k66_24 hT hA1 rfl rfl rfl (c40 (τ := τ) (ρ := ρ) hT hA1 (by omega)) (fun r8983 h8984 q8985 => ?_)
        obtain ⟨eh8984, z8988, ez8988, lz8988, uz8988⟩ := q8985
        subst eh8984
        subst ez8988
        refine pw_ior d66_18 (fun z8989 hz8989 ez8989 => ?_)
        refine pw_istore_n d66_19 m66 rfl rfl ?_
        refine pw_iinc d66_20 m66 rfl rfl rfl ?_
        refine pw_goto d66_23 rfl ?_
        exact ih4 (z8989) ((xL3_4 + 1)) _ (by omega) (by omega) (by omega)
  refine pw_iconst d66_0 ?_
  refine pw_istore_n d66_1 m66 rfl rfl ?_
  refine pw_iconst d66_2 ?_
  refine pw_istore_n d66_3 m66 rfl rfl ?_
  exact L4 _ (0) (0) _ (by omega) (by omega) (pv_mu _)

abbrev Q65 (τ : Nat → Option Nat) (ρ : Nat → Nat → Nat) (h : pv_H) (a0 : Nat) (a1 : Nat) : Option Value → pv_H → Prop := fun r h' => h = h' ∧ ∃ z : Int, r = some (.int (pv_I z)) ∧ (-2147483648) ≤ z ∧ z ≤ 2147483647
set_option maxHeartbeats 4000000 in
set_option maxRecDepth 20000 in
/-- AngleNet$Shape.euler(LAngleNet$Net;)I -/
theorem c65 {τ : Nat → Option Nat} {ρ : Nat → Nat → Nat} {K : Nat → Nat} {h : pv_H} {a0 : Nat} {a1 : Nat} (hT : pv_Ty τ ρ h) (hA0 : τ a0 = some 4) (hA1 : τ a1 = some 2) : pv_C K 65 [.ref a0, .ref a1] h (Q65 τ ρ h a0 a1) := by
  refine pw_entry 0 ?_
  show pv_T K 65 0 (pv_fl [some (.ref a0), some (.ref a1)]) [] h (Q65 τ ρ h a0 a1)
  refine pw_aload_n d65_0 rfl ?_
  refine pw_aload_n d65_1 rfl ?_
  refine pw_callV1 d65_2 k65_28 hT hA0 rfl rfl rfl (c66 (τ := τ) (ρ := ρ) hT hA0 hA1) (fun r9030 h9031 q9032 => ?_)
  obtain ⟨eh9031, z9035, ez9035, lz9035, uz9035⟩ := q9032
  subst eh9031
  subst ez9035
  refine pw_callS1 d65_5 k65_32 rfl rfl (c67 (τ := τ) (ρ := ρ) (by omega)) (fun r9036 h9037 q9038 => ?_)
  obtain ⟨eh9037, z9041, ez9041, lz9041, uz9041⟩ := q9038
  subst eh9037
  subst ez9041
  refine pw_aload_n d65_8 rfl ?_
  refine pw_callV0 d65_9 k65_37 hT hA1 rfl rfl rfl (c68 (τ := τ) (ρ := ρ) hT hA1) (fun r9042 h9043 q9044 => ?_)
  obtain ⟨eh9043, z9047, ez9047, lz9047, uz9047⟩ := q9044
  subst eh9043
  subst ez9047
  refine pw_isub d65_12 ?_
  refine pw_aload_n d65_13 rfl ?_
  refine pw_getI d65_14 g65_18 hT hA1 rfl rfl (fun u9048 vu9048 => ?_)
  refine pw_iadd d65_17 ?_
  refine pw_any (fun z9049 hz9049 ez9049 => ?_)
  exact pw_ireturn d65_18 t65 ⟨rfl, z9049, rfl, (by omega), (by omega)⟩

abbrev Q70 (τ : Nat → Option Nat) (ρ : Nat → Nat → Nat) (h : pv_H) (a0 : Nat) (a1 : Nat) (x2 : Int) : Option Value → pv_H → Prop := fun r h' => h = h' ∧ ∃ z : Int, r = some (.int (pv_I z)) ∧ 0 ≤ z ∧ z ≤ 1
set_option maxHeartbeats 4000000 in
set_option maxRecDepth 20000 in
/-- AngleNet$Shape.hangsTogether(LAngleNet$Net;I)Z -/
theorem c70 {τ : Nat → Option Nat} {ρ : Nat → Nat → Nat} {K : Nat → Nat} {h : pv_H} {a0 : Nat} {a1 : Nat} {x2 : Int} (hT : pv_Ty τ ρ h) (hA0 : τ a0 = some 4) (hA1 : τ a1 = some 2) (hX2 : (-2147483648) ≤ x2 ∧ x2 ≤ 2147483647) : pv_C K 70 [.ref a0, .ref a1, .int (pv_I x2)] h (Q70 τ ρ h a0 a1 x2) := by
  refine pw_entry 5 ?_
  show pv_T K 70 0 (pv_fl [some (.ref a0), some (.ref a1), some (.int (pv_I x2)), none, none, none, none, none]) [] h (Q70 τ ρ h a0 a1 x2)
  have L8 : ∀ (nn : Nat) (xL3_8 xL4_8 xL5_8 : Int) (o0_8 o6_8 o7_8 : Option Value), ((-2147483648) ≤ x2 ∧ x2 ≤ 2147483647) → ((-2147483648) ≤ xL3_8 ∧ xL3_8 ≤ 2147483647) → ((-2147483648) ≤ xL4_8 ∧ xL4_8 ≤ 2147483647) → (0 ≤ xL5_8 ∧ xL5_8 ≤ 18) → 18 - xL5_8 < nn → pv_T K 70 8 (pv_fl [o0_8, some (.ref a1), some (.int (pv_I x2)), some (.int (pv_I xL3_8)), some (.int (pv_I xL4_8)), some (.int (pv_I xL5_8)), o6_8, o7_8]) [] h (Q70 τ ρ h a0 a1 x2) := by
    intro nn
    induction nn with
    | zero => intro xL3_8 xL4_8 xL5_8 o0_8 o6_8 o7_8 rL2_8 rL3_8 rL4_8 rL5_8 hm; exfalso; omega
    | succ nn ih8 =>
      intro xL3_8 xL4_8 xL5_8 o0_8 o6_8 o7_8 rL2_8 rL3_8 rL4_8 rL5_8 hm8
      have L20 : ∀ (nn : Nat) (xL3_20 xL4_20 xL6_20 : Int) (o0_20 o7_20 : Option Value), ((-2147483648) ≤ x2 ∧ x2 ≤ 2147483647) → ((-2147483648) ≤ xL3_20 ∧ xL3_20 ≤ 2147483647) → ((-2147483648) ≤ xL4_20 ∧ xL4_20 ≤ 2147483647) → (0 ≤ xL5_8 ∧ xL5_8 ≤ 17) → (0 ≤ xL6_20 ∧ xL6_20 ≤ 18) → 18 - xL6_20 < nn → pv_T K 70 20 (pv_fl [o0_20, some (.ref a1), some (.int (pv_I x2)), some (.int (pv_I xL3_20)), some (.int (pv_I xL4_20)), some (.int (pv_I xL5_8)), some (.int (pv_I xL6_20)), o7_20]) [] h (Q70 τ ρ h a0 a1 x2) := by
        intro nn
        induction nn with
        | zero => intro xL3_20 xL4_20 xL6_20 o0_20 o7_20 rL2_20 rL3_20 rL4_20 rL5_20 rL6_20 hm; exfalso; omega
        | succ nn ih20 =>
          intro xL3_20 xL4_20 xL6_20 o0_20 o7_20 rL2_20 rL3_20 rL4_20 rL5_20 rL6_20 hm20
          have J79 : ∀ (xL3_79 xL4_79 : Int) (o0_79 o7_79 : Option Value), ((-2147483648) ≤ x2 ∧ x2 ≤ 2147483647) → ((-2147483648) ≤ xL3_79 ∧ xL3_79 ≤ 2147483647) → ((-2147483648) ≤ xL4_79 ∧ xL4_79 ≤ 2147483647) → (0 ≤ xL5_8 ∧ xL5_8 ≤ 17) → (0 ≤ xL6_20 ∧ xL6_20 ≤ 17) → pv_T K 70 79 (pv_fl [o0_79, some (.ref a1), some (.int (pv_I x2)), some (.int (pv_I xL3_79)), some (.int (pv_I xL4_79)), some (.int (pv_I xL5_8)), some (.int (pv_I xL6_20)), o7_79]) [] h (Q70 τ ρ h a0 a1 x2) := by
            intro xL3_79 xL4_79 o0_79 o7_79 rL2_79 rL3_79 rL4_79 rL5_79 rL6_79
            refine pw_iinc d70_79 m70 rfl rfl rfl ?_
            refine pw_goto d70_82 rfl ?_
            exact ih20 (xL3_79) (xL4_79) ((xL6_20 + 1)) _ _ (by omega) (by omega) (by omega) (by omega) (by omega) (by omega)
          have J65 : ∀ (xL3_65 xL4_65 xL7_65 : Int) (o0_65 : Option Value), ((-2147483648) ≤ x2 ∧ x2 ≤ 2147483647) → ((-2147483648) ≤ xL3_65 ∧ xL3_65 ≤ 2147483647) → ((-2147483648) ≤ xL4_65 ∧ xL4_65 ≤ 2147483647) → (0 ≤ xL5_8 ∧ xL5_8 ≤ 17) → (0 ≤ xL6_20 ∧ xL6_20 ≤ 17) → ((-2147483648) ≤ xL7_65 ∧ xL7_65 ≤ 2147483647) → pv_T K 70 65 (pv_fl [o0_65, some (.ref a1), some (.int (pv_I x2)), some (.int (pv_I xL3_65)), some (.int (pv_I xL4_65)), some (.int (pv_I xL5_8)), some (.int (pv_I xL6_20)), some (.int (pv_I xL7_65))]) [] h (Q70 τ ρ h a0 a1 x2) := by
            intro xL3_65 xL4_65 xL7_65 o0_65 rL2_65 rL3_65 rL4_65 rL5_65 rL6_65 rL7_65
            refine pw_iload_n d70_65 rfl ?_
            refine pw_iconst d70_66 ?_
            refine pw_iload d70_67 rfl ?_
            refine pw_ishl d70_69 (fun z9699 hz9699 ez9699 => ?_)
            refine pw_ior d70_70 (fun z9700 hz9700 ez9700 => ?_)
            refine pw_istore_n d70_71 m70 rfl rfl ?_
            refine pw_iload d70_72 rfl ?_
            refine pw_iload d70_74 rfl ?_
            refine pw_ior d70_76 (fun z9701 hz9701 ez9701 => ?_)
            refine pw_istore d70_77 m70 rfl rfl ?_
            exact J79 (z9700) (z9701) _ _ (by omega) (by omega) (by omega) (by omega) (by omega)
          refine pw_iload d70_20 rfl ?_
          refine pw_aload_n d70_22 rfl ?_
          refine pw_getI d70_23 g70_18 hT hA1 rfl rfl (fun u9702 vu9702 => ?_)
          refine pw_icmp_ge d70_26 rfl (by omega) (by omega) (fun c9703 => ?_) (fun c9703 => ?_)
          · refine pw_iinc d70_85 m70 rfl rfl rfl ?_
            refine pw_goto d70_88 rfl ?_
            exact ih8 (xL3_20) (xL4_20) ((xL5_8 + 1)) _ _ _ (by omega) (by omega) (by omega) (by omega) (by omega)
          · refine pw_aload_n d70_29 rfl ?_
            refine pw_iload d70_30 rfl ?_
            refine pw_callV1 d70_32 k70_24 hT hA1 rfl rfl rfl (c40 (τ := τ) (ρ := ρ) hT hA1 (by omega)) (fun r9704 h9705 q9706 => ?_)
            obtain ⟨eh9705, z9709, ez9709, lz9709, uz9709⟩ := q9706
            subst eh9705
            subst ez9709
            refine pw_iconst d70_35 ?_
            refine pw_iload_n d70_36 rfl ?_
            refine pw_ishl d70_37 (fun z9710 hz9710 ez9710 => ?_)
            refine pw_iconst d70_38 ?_
            refine pw_ixor d70_39 (fun z9711 hz9711 ez9711 => ?_)
            refine pw_iand d70_40 (fun z9712 hz9712 ez9712 => ?_)
            refine pw_istore d70_41 m70 rfl rfl ?_
            refine pw_aload_n d70_43 rfl ?_
            refine pw_iload d70_44 rfl ?_
            refine pw_iload_n d70_46 rfl ?_
            refine pw_callV2 d70_47 k70_48 hT hA1 rfl rfl rfl (c58 (τ := τ) (ρ := ρ) hT hA1 (by omega) (by omega)) (fun r9713 h9714 q9715 => ?_)
            obtain ⟨eh9714, z9718, ez9718, lz9718, uz9718⟩ := q9715
            subst eh9714
            subst ez9718
            refine pw_if_eq d70_50 rfl (by omega) (fun c9719 => ?_) (fun c9719 => ?_)
            · exact J79 (xL3_20) (xL4_20) _ _ (by omega) (by omega) (by omega) (by omega) (by omega)
            · refine pw_iload_n d70_53 rfl ?_
              refine pw_if_eq d70_54 rfl (by omega) (fun c9720 => ?_) (fun c9720 => ?_)
              · exact J65 (xL3_20) (xL4_20) (z9712) _ (by omega) (by omega) (by omega) (by omega) (by omega) (by omega)
              · refine pw_iload d70_57 rfl ?_
                refine pw_iload d70_59 rfl ?_
                refine pw_iand d70_61 (fun z9721 hz9721 ez9721 => ?_)
                refine pw_if_eq d70_62 rfl (by omega) (fun c9722 => ?_) (fun c9722 => ?_)
                · exact J79 (xL3_20) (xL4_20) _ _ (by omega) (by omega) (by omega) (by omega) (by omega)
                · exact J65 (xL3_20) (xL4_20) (z9712) _ (by omega) (by omega) (by omega) (by omega) (by omega) (by omega)
      refine pw_iload d70_8 rfl ?_
      refine pw_aload_n d70_10 rfl ?_
      refine pw_getI d70_11 g70_18 hT hA1 rfl rfl (fun u9723 vu9723 => ?_)
      refine pw_icmp_ge d70_14 rfl (by omega) (by omega) (fun c9724 => ?_) (fun c9724 => ?_)
      · refine pw_iload_n d70_91 rfl ?_
        refine pw_callS1 d70_92 k70_32 rfl rfl (c67 (τ := τ) (ρ := ρ) (by omega)) (fun r9725 h9726 q9727 => ?_)
        obtain ⟨eh9726, z9730, ez9730, lz9730, uz9730⟩ := q9727
        subst eh9726
        subst ez9730
        refine pw_aload_n d70_95 rfl ?_
        refine pw_iload_n d70_96 rfl ?_
        refine pw_callV1 d70_97 k70_52 hT hA1 rfl rfl rfl (c57 (τ := τ) (ρ := ρ) hT hA1 (by omega)) (fun r9731 h9732 q9733 => ?_)
        obtain ⟨eh9732, z9736, ez9736, lz9736, uz9736⟩ := q9733
        subst eh9732
        subst ez9736
        refine pw_icmp_ne d70_100 rfl (by omega) (by omega) (fun c9737 => ?_) (fun c9737 => ?_)
        · refine pw_iconst d70_107 ?_
          exact pw_zreturn d70_108 t70 (by omega) ⟨rfl, 0, rfl, (by omega), (by omega)⟩
        · refine pw_iconst d70_103 ?_
          refine pw_goto d70_104 rfl ?_
          exact pw_zreturn d70_108 t70 (by omega) ⟨rfl, 1, rfl, (by omega), (by omega)⟩
      · refine pw_iconst d70_17 ?_
        refine pw_istore d70_18 m70 rfl rfl ?_
        exact L20 _ (xL3_8) (xL4_8) (0) _ _ (by omega) (by omega) (by omega) (by omega) (by omega) (pv_mu _)
  refine pw_iconst d70_0 ?_
  refine pw_istore_n d70_1 m70 rfl rfl ?_
  refine pw_iconst d70_2 ?_
  refine pw_istore d70_3 m70 rfl rfl ?_
  refine pw_iconst d70_5 ?_
  refine pw_istore d70_6 m70 rfl rfl ?_
  exact L8 _ (0) (0) (0) _ _ _ (by omega) (by omega) (by omega) (by omega) (pv_mu _)

abbrev Q69 (τ : Nat → Option Nat) (ρ : Nat → Nat → Nat) (h : pv_H) (a0 : Nat) (a1 : Nat) : Option Value → pv_H → Prop := fun r h' => h = h' ∧ ∃ z : Int, r = some (.int (pv_I z)) ∧ 0 ≤ z ∧ z ≤ 1
set_option maxHeartbeats 4000000 in
set_option maxRecDepth 20000 in
/-- AngleNet$Shape.isGood(LAngleNet$Net;)Z -/
theorem c69 {τ : Nat → Option Nat} {ρ : Nat → Nat → Nat} {K : Nat → Nat} {h : pv_H} {a0 : Nat} {a1 : Nat} (hT : pv_Ty τ ρ h) (hA0 : τ a0 = some 4) (hA1 : τ a1 = some 2) : pv_C K 69 [.ref a0, .ref a1] h (Q69 τ ρ h a0 a1) := by
  refine pw_entry 1 ?_
  show pv_T K 69 0 (pv_fl [some (.ref a0), some (.ref a1), none]) [] h (Q69 τ ρ h a0 a1)
  have L2 : ∀ (nn : Nat) (xL2_2 : Int), (0 ≤ xL2_2 ∧ xL2_2 ≤ 10) → 10 - xL2_2 < nn → pv_T K 69 2 (pv_fl [some (.ref a0), some (.ref a1), some (.int (pv_I xL2_2))]) [] h (Q69 τ ρ h a0 a1) := by
    intro nn
    induction nn with
    | zero => intro xL2_2 rL2_2 hm; exfalso; omega
    | succ nn ih2 =>
      intro xL2_2 rL2_2 hm2
      refine pw_iload_n d69_2 rfl ?_
      refine pw_aload_n d69_3 rfl ?_
      refine pw_getI d69_4 g69_41 hT hA1 rfl rfl (fun u9828 vu9828 => ?_)
      refine pw_icmp_ge d69_7 rfl (by omega) (by omega) (fun c9829 => ?_) (fun c9829 => ?_)
      · refine pw_iconst d69_27 ?_
        exact pw_zreturn d69_28 t69 (by omega) ⟨rfl, 1, rfl, (by omega), (by omega)⟩
      · refine pw_aload_n d69_10 rfl ?_
        refine pw_aload_n d69_11 rfl ?_
        refine pw_iload_n d69_12 rfl ?_
        refine pw_callV2 d69_13 k69_44 hT hA0 rfl rfl rfl (c70 (τ := τ) (ρ := ρ) hT hA0 hA1 (by omega)) (fun r9830 h9831 q9832 => ?_)
        obtain ⟨eh9831, z9835, ez9835, lz9835, uz9835⟩ := q9832
        subst eh9831
        subst ez9835
        refine pw_if_ne d69_16 rfl (by omega) (fun c9836 => ?_) (fun c9836 => ?_)
        · refine pw_iinc d69_21 m69 rfl rfl rfl ?_
          refine pw_goto d69_24 rfl ?_
          exact ih2 ((xL2_2 + 1)) (by omega) (by omega)
        · refine pw_iconst d69_19 ?_
          exact pw_zreturn d69_20 t69 (by omega) ⟨rfl, 0, rfl, (by omega), (by omega)⟩
  refine pw_iconst d69_0 ?_
  refine pw_istore_n d69_1 m69 rfl rfl ?_
  exact L2 _ (0) (by omega) (pv_mu _)

abbrev Q72 (τ : Nat → Option Nat) (ρ : Nat → Nat → Nat) (h : pv_H) (a0 : Nat) (a1 : Nat) (x2 : Int) : Option Value → pv_H → Prop := fun r h' => h = h' ∧ ∃ z : Int, r = some (.int (pv_I z)) ∧ (-2147483648) ≤ z ∧ z ≤ 2147483647
set_option maxHeartbeats 4000000 in
set_option maxRecDepth 20000 in
/-- AngleNet$Shape.partOf(LAngleNet$Net;I)I -/
theorem c72 {τ : Nat → Option Nat} {ρ : Nat → Nat → Nat} {K : Nat → Nat} {h : pv_H} {a0 : Nat} {a1 : Nat} {x2 : Int} (hT : pv_Ty τ ρ h) (hA0 : τ a0 = some 4) (hA1 : τ a1 = some 2) (hX2 : (-2147483648) ≤ x2 ∧ x2 ≤ 2147483647) : pv_C K 72 [.ref a0, .ref a1, .int (pv_I x2)] h (Q72 τ ρ h a0 a1 x2) := by
  refine pw_entry 4 ?_
  show pv_T K 72 0 (pv_fl [some (.ref a0), some (.ref a1), some (.int (pv_I x2)), none, none, none, none]) [] h (Q72 τ ρ h a0 a1 x2)
  have L5 : ∀ (nn : Nat) (xL3_5 xL4_5 : Int) (o0_5 o5_5 o6_5 : Option Value), ((-2147483648) ≤ x2 ∧ x2 ≤ 2147483647) → ((-2147483648) ≤ xL3_5 ∧ xL3_5 ≤ 2147483647) → (0 ≤ xL4_5 ∧ xL4_5 ≤ 17) → 17 - xL4_5 < nn → pv_T K 72 5 (pv_fl [o0_5, some (.ref a1), some (.int (pv_I x2)), some (.int (pv_I xL3_5)), some (.int (pv_I xL4_5)), o5_5, o6_5]) [] h (Q72 τ ρ h a0 a1 x2) := by
    intro nn
    induction nn with
    | zero => intro xL3_5 xL4_5 o0_5 o5_5 o6_5 rL2_5 rL3_5 rL4_5 hm; exfalso; omega
    | succ nn ih5 =>
      intro xL3_5 xL4_5 o0_5 o5_5 o6_5 rL2_5 rL3_5 rL4_5 hm5
      have L17 : ∀ (nn : Nat) (xL3_17 xL5_17 : Int) (o0_17 o6_17 : Option Value), ((-2147483648) ≤ x2 ∧ x2 ≤ 2147483647) → ((-2147483648) ≤ xL3_17 ∧ xL3_17 ≤ 2147483647) → (0 ≤ xL4_5 ∧ xL4_5 ≤ 10) → (0 ≤ xL5_17 ∧ xL5_17 ≤ 18) → 18 - xL5_17 < nn → pv_T K 72 17 (pv_fl [o0_17, some (.ref a1), some (.int (pv_I x2)), some (.int (pv_I xL3_17)), some (.int (pv_I xL4_5)), some (.int (pv_I xL5_17)), o6_17]) [] h (Q72 τ ρ h a0 a1 x2) := by
        intro nn
        induction nn with
        | zero => intro xL3_17 xL5_17 o0_17 o6_17 rL2_17 rL3_17 rL4_17 rL5_17 hm; exfalso; omega
        | succ nn ih17 =>
          intro xL3_17 xL5_17 o0_17 o6_17 rL2_17 rL3_17 rL4_17 rL5_17 hm17
          have J50 : ∀ (xL3_50 : Int) (o0_50 o6_50 : Option Value), ((-2147483648) ≤ x2 ∧ x2 ≤ 2147483647) → ((-2147483648) ≤ xL3_50 ∧ xL3_50 ≤ 2147483647) → (0 ≤ xL4_5 ∧ xL4_5 ≤ 10) → (0 ≤ xL5_17 ∧ xL5_17 ≤ 17) → pv_T K 72 50 (pv_fl [o0_50, some (.ref a1), some (.int (pv_I x2)), some (.int (pv_I xL3_50)), some (.int (pv_I xL4_5)), some (.int (pv_I xL5_17)), o6_50]) [] h (Q72 τ ρ h a0 a1 x2) := by
            intro xL3_50 o0_50 o6_50 rL2_50 rL3_50 rL4_50 rL5_50
            refine pw_iinc d72_50 m72 rfl rfl rfl ?_
            refine pw_goto d72_53 rfl ?_
            exact ih17 (xL3_50) ((xL5_17 + 1)) _ _ (by omega) (by omega) (by omega) (by omega) (by omega)
          refine pw_iload d72_17 rfl ?_
          refine pw_aload_n d72_19 rfl ?_
          refine pw_getI d72_20 g72_18 hT hA1 rfl rfl (fun u10121 vu10121 => ?_)
          refine pw_icmp_ge d72_23 rfl (by omega) (by omega) (fun c10122 => ?_) (fun c10122 => ?_)
          · refine pw_iinc d72_56 m72 rfl rfl rfl ?_
            refine pw_goto d72_59 rfl ?_
            exact ih5 (xL3_17) ((xL4_5 + 1)) _ _ _ (by omega) (by omega) (by omega) (by omega)
          · refine pw_aload_n d72_26 rfl ?_
            refine pw_iload d72_27 rfl ?_
            refine pw_callV1 d72_29 k72_24 hT hA1 rfl rfl rfl (c40 (τ := τ) (ρ := ρ) hT hA1 (by omega)) (fun r10123 h10124 q10125 => ?_)
            obtain ⟨eh10124, z10128, ez10128, lz10128, uz10128⟩ := q10125
            subst eh10124
            subst ez10128
            refine pw_istore d72_32 m72 rfl rfl ?_
            refine pw_iload d72_34 rfl ?_
            refine pw_iload_n d72_36 rfl ?_
            refine pw_iconst d72_37 ?_
            refine pw_iload_n d72_38 rfl ?_
            refine pw_ishl d72_39 (fun z10129 hz10129 ez10129 => ?_)
            refine pw_ior d72_40 (fun z10130 hz10130 ez10130 => ?_)
            refine pw_iand d72_41 (fun z10131 hz10131 ez10131 => ?_)
            refine pw_if_eq d72_42 rfl (by omega) (fun c10132 => ?_) (fun c10132 => ?_)
            · exact J50 (xL3_17) _ _ (by omega) (by omega) (by omega) (by omega)
            · refine pw_iload_n d72_45 rfl ?_
              refine pw_iload d72_46 rfl ?_
              refine pw_ior d72_48 (fun z10133 hz10133 ez10133 => ?_)
              refine pw_istore_n d72_49 m72 rfl rfl ?_
              exact J50 (z10133) _ _ (by omega) (by omega) (by omega) (by omega)
      refine pw_iload d72_5 rfl ?_
      refine pw_aload_n d72_7 rfl ?_
      refine pw_getI d72_8 g72_41 hT hA1 rfl rfl (fun u10134 vu10134 => ?_)
      refine pw_icmp_gt d72_11 rfl (by omega) (by omega) (fun c10135 => ?_) (fun c10135 => ?_)
      · refine pw_iload_n d72_62 rfl ?_
        exact pw_ireturn d72_63 t72 ⟨rfl, xL3_5, rfl, (by omega), (by omega)⟩
      · refine pw_iconst d72_14 ?_
        refine pw_istore d72_15 m72 rfl rfl ?_
        exact L17 _ (xL3_5) (0) _ _ (by omega) (by omega) (by omega) (by omega) (pv_mu _)
  refine pw_iconst d72_0 ?_
  refine pw_istore_n d72_1 m72 rfl rfl ?_
  refine pw_iconst d72_2 ?_
  refine pw_istore d72_3 m72 rfl rfl ?_
  exact L5 _ (0) (0) _ _ _ (by omega) (by omega) (by omega) (pv_mu _)

abbrev Q71 (τ : Nat → Option Nat) (ρ : Nat → Nat → Nat) (h : pv_H) (a0 : Nat) (a1 : Nat) : Option Value → pv_H → Prop := fun r h' => h = h' ∧ ∃ z : Int, r = some (.int (pv_I z)) ∧ (-2147483648) ≤ z ∧ z ≤ 2147483647
set_option maxHeartbeats 4000000 in
set_option maxRecDepth 20000 in
/-- AngleNet$Shape.parts(LAngleNet$Net;)I -/
theorem c71 {τ : Nat → Option Nat} {ρ : Nat → Nat → Nat} {K : Nat → Nat} {h : pv_H} {a0 : Nat} {a1 : Nat} (hT : pv_Ty τ ρ h) (hA0 : τ a0 = some 4) (hA1 : τ a1 = some 2) : pv_C K 71 [.ref a0, .ref a1] h (Q71 τ ρ h a0 a1) := by
  refine pw_entry 3 ?_
  show pv_T K 71 0 (pv_fl [some (.ref a0), some (.ref a1), none, none, none]) [] h (Q71 τ ρ h a0 a1)
  have L11 : ∀ (nn : Nat) (xL2_11 xL3_11 xL4_11 : Int), ((-2147483648) ≤ xL2_11 ∧ xL2_11 ≤ 2147483647) → ((-2147483648) ≤ xL3_11 ∧ xL3_11 ≤ 2147483647) → (0 ≤ xL4_11 ∧ xL4_11 ≤ 10) → 10 - xL4_11 < nn → pv_T K 71 11 (pv_fl [some (.ref a0), some (.ref a1), some (.int (pv_I xL2_11)), some (.int (pv_I xL3_11)), some (.int (pv_I xL4_11))]) [] h (Q71 τ ρ h a0 a1) := by
    intro nn
    induction nn with
    | zero => intro xL2_11 xL3_11 xL4_11 rL2_11 rL3_11 rL4_11 hm; exfalso; omega
    | succ nn ih11 =>
      intro xL2_11 xL3_11 xL4_11 rL2_11 rL3_11 rL4_11 hm11
      have J44 : ∀ (xL2_44 xL3_44 : Int), ((-2147483648) ≤ xL2_44 ∧ xL2_44 ≤ 2147483647) → ((-2147483648) ≤ xL3_44 ∧ xL3_44 ≤ 2147483647) → (0 ≤ xL4_11 ∧ xL4_11 ≤ 9) → pv_T K 71 44 (pv_fl [some (.ref a0), some (.ref a1), some (.int (pv_I xL2_44)), some (.int (pv_I xL3_44)), some (.int (pv_I xL4_11))]) [] h (Q71 τ ρ h a0 a1) := by
        intro xL2_44 xL3_44 rL2_44 rL3_44 rL4_44
        refine pw_iinc d71_44 m71 rfl rfl rfl ?_
        refine pw_goto d71_47 rfl ?_
        exact ih11 (xL2_44) (xL3_44) ((xL4_11 + 1)) (by omega) (by omega) (by omega) (by omega)
      refine pw_iload d71_11 rfl ?_
      refine pw_aload_n d71_13 rfl ?_
      refine pw_getI d71_14 g71_41 hT hA1 rfl rfl (fun u10749 vu10749 => ?_)
      refine pw_icmp_ge d71_17 rfl (by omega) (by omega) (fun c10750 => ?_) (fun c10750 => ?_)
      · refine pw_iload_n d71_50 rfl ?_
        exact pw_ireturn d71_51 t71 ⟨rfl, xL3_11, rfl, (by omega), (by omega)⟩
      · refine pw_iload_n d71_20 rfl ?_
        refine pw_iload d71_21 rfl ?_
        refine pw_ishr d71_23 (fun z10751 hz10751 ez10751 => ?_)
        refine pw_iconst d71_24 ?_
        refine pw_iand d71_25 (fun z10752 hz10752 ez10752 => ?_)
        refine pw_if_eq d71_26 rfl (by omega) (fun c10753 => ?_) (fun c10753 => ?_)
        · exact J44 (xL2_11) (xL3_11) (by omega) (by omega) (by omega)
        · refine pw_iload_n d71_29 rfl ?_
          refine pw_aload_n d71_30 rfl ?_
          refine pw_aload_n d71_31 rfl ?_
          refine pw_iload d71_32 rfl ?_
          refine pw_callV2 d71_34 k71_55 hT hA0 rfl rfl rfl (c72 (τ := τ) (ρ := ρ) hT hA0 hA1 (by omega)) (fun r10754 h10755 q10756 => ?_)
          obtain ⟨eh10755, z10759, ez10759, lz10759, uz10759⟩ := q10756
          subst eh10755
          subst ez10759
          refine pw_iconst d71_37 ?_
          refine pw_ixor d71_38 (fun z10760 hz10760 ez10760 => ?_)
          refine pw_iand d71_39 (fun z10761 hz10761 ez10761 => ?_)
          refine pw_istore_n d71_40 m71 rfl rfl ?_
          refine pw_iincU d71_41 m71 rfl rfl rfl (fun z10762 hz10762 => ?_)
          exact J44 (z10761) (z10762) (by omega) (by omega) (by omega)
  refine pw_aload_n d71_0 rfl ?_
  refine pw_aload_n d71_1 rfl ?_
  refine pw_callV1 d71_2 k71_28 hT hA0 rfl rfl rfl (c66 (τ := τ) (ρ := ρ) hT hA0 hA1) (fun r10763 h10764 q10765 => ?_)
  obtain ⟨eh10764, z10768, ez10768, lz10768, uz10768⟩ := q10765
  subst eh10764
  subst ez10768
  refine pw_istore_n d71_5 m71 rfl rfl ?_
  refine pw_iconst d71_6 ?_
  refine pw_istore_n d71_7 m71 rfl rfl ?_
  refine pw_iconst d71_8 ?_
  refine pw_istore d71_9 m71 rfl rfl ?_
  exact L11 _ (z10768) (0) (0) (by omega) (by omega) (by omega) (pv_mu _)

abbrev Q77 (τ : Nat → Option Nat) (ρ : Nat → Nat → Nat) (h : pv_H) (a0 : Nat) (x1 : Int) (x2 : Int) (x3 : Int) : Option Value → pv_H → Prop := fun r h' => h = h' ∧ ∃ z : Int, r = some (.int (pv_I z)) ∧ 0 ≤ z ∧ z ≤ 1
set_option maxHeartbeats 4000000 in
set_option maxRecDepth 20000 in
/-- AngleNet$Shape.goesAlong(LAngleNet$Net;III)Z -/
theorem c77 {τ : Nat → Option Nat} {ρ : Nat → Nat → Nat} {K : Nat → Nat} {h : pv_H} {a0 : Nat} {x1 : Int} {x2 : Int} {x3 : Int} (hT : pv_Ty τ ρ h) (hA0 : τ a0 = some 2) (hX1 : 0 ≤ x1 ∧ x1 ≤ 17) (hX2 : (-2147483648) ≤ x2 ∧ x2 ≤ 2147483647) (hX3 : (-2147483648) ≤ x3 ∧ x3 ≤ 2147483647) : pv_C K 77 [.ref a0, .int (pv_I x1), .int (pv_I x2), .int (pv_I x3)] h (Q77 τ ρ h a0 x1 x2 x3) := by
  refine pw_entry 1 ?_
  show pv_T K 77 0 (pv_fl [some (.ref a0), some (.int (pv_I x1)), some (.int (pv_I x2)), some (.int (pv_I x3)), none]) [] h (Q77 τ ρ h a0 x1 x2 x3)
  have L3 : ∀ (nn : Nat) (xL4_3 : Int), (0 ≤ x1 ∧ x1 ≤ 17) → ((-2147483648) ≤ x2 ∧ x2 ≤ 2147483647) → ((-2147483648) ≤ x3 ∧ x3 ≤ 2147483647) → (0 ≤ xL4_3 ∧ xL4_3 ≤ 3) → 3 - xL4_3 < nn → pv_T K 77 3 (pv_fl [some (.ref a0), some (.int (pv_I x1)), some (.int (pv_I x2)), some (.int (pv_I x3)), some (.int (pv_I xL4_3))]) [] h (Q77 τ ρ h a0 x1 x2 x3) := by
    intro nn
    induction nn with
    | zero => intro xL4_3 rL1_3 rL2_3 rL3_3 rL4_3 hm; exfalso; omega
    | succ nn ih3 =>
      intro xL4_3 rL1_3 rL2_3 rL3_3 rL4_3 hm3
      refine pw_iload d77_3 rfl ?_
      refine pw_iconst d77_5 ?_
      refine pw_icmp_ge d77_6 rfl (by omega) (by omega) (fun c10804 => ?_) (fun c10804 => ?_)
      · refine pw_iconst d77_55 ?_
        exact pw_zreturn d77_56 t77 (by omega) ⟨rfl, 0, rfl, (by omega), (by omega)⟩
      · refine pw_aload_n d77_9 rfl ?_
        refine pw_getR d77_10 g77_79 hT hA0 rfl rfl (fun t10805 => ?_)
        have t10805 : τ (ρ a0 5) = some 20 := t10805
        refine pw_iconst d77_13 ?_
        refine pw_iload_n d77_14 rfl ?_
        refine pw_imul d77_15 ?_
        refine pw_iload d77_16 rfl ?_
        refine pw_iadd d77_18 ?_
        refine pw_iald d77_19 hT t10805 rfl rfl (by omega) (by omega) (fun u10806 vu10806 => ?_)
        refine pw_iload_n d77_20 rfl ?_
        refine pw_icmp_ne d77_21 rfl (by omega) (by omega) (fun c10807 => ?_) (fun c10807 => ?_)
        · refine pw_iinc d77_49 m77 rfl rfl rfl ?_
          refine pw_goto d77_52 rfl ?_
          exact ih3 ((xL4_3 + 1)) (by omega) (by omega) (by omega) (by omega) (by omega)
        · refine pw_aload_n d77_24 rfl ?_
          refine pw_getR d77_25 g77_79 hT hA0 rfl rfl (fun t10808 => ?_)
          have t10808 : τ (ρ a0 5) = some 20 := t10808
          refine pw_iconst d77_28 ?_
          refine pw_iload_n d77_29 rfl ?_
          refine pw_imul d77_30 ?_
          refine pw_iload d77_31 rfl ?_
          refine pw_iconst d77_33 ?_
          refine pw_iadd d77_34 ?_
          refine pw_iconst d77_35 ?_
          refine pw_irem d77_36 (by omega) (by omega) (by omega) (by omega) ?_
          refine pw_iadd d77_37 ?_
          refine pw_iald d77_38 hT t10808 rfl rfl (by omega) (by omega) (fun u10809 vu10809 => ?_)
          refine pw_iload_n d77_39 rfl ?_
          refine pw_icmp_ne d77_40 rfl (by omega) (by omega) (fun c10810 => ?_) (fun c10810 => ?_)
          · refine pw_iconst d77_47 ?_
            exact pw_zreturn d77_48 t77 (by omega) ⟨rfl, 0, rfl, (by omega), (by omega)⟩
          · refine pw_iconst d77_43 ?_
            refine pw_goto d77_44 rfl ?_
            exact pw_zreturn d77_48 t77 (by omega) ⟨rfl, 1, rfl, (by omega), (by omega)⟩
  refine pw_iconst d77_0 ?_
  refine pw_istore d77_1 m77 rfl rfl ?_
  exact L3 _ (0) (by omega) (by omega) (by omega) (by omega) (pv_mu _)

abbrev Q75 (τ : Nat → Option Nat) (ρ : Nat → Nat → Nat) (h : pv_H) (a0 : Nat) (x1 : Int) (x2 : Int) : Option Value → pv_H → Prop := fun r h' => h = h' ∧ ∃ z : Int, r = some (.int (pv_I z)) ∧ (-1) ≤ z ∧ z ≤ 1
set_option maxHeartbeats 4000000 in
set_option maxRecDepth 20000 in
/-- AngleNet$Shape.turnBetween(LAngleNet$Net;II)I -/
theorem c75 {τ : Nat → Option Nat} {ρ : Nat → Nat → Nat} {K : Nat → Nat} {h : pv_H} {a0 : Nat} {x1 : Int} {x2 : Int} (hT : pv_Ty τ ρ h) (hA0 : τ a0 = some 2) (hX1 : 0 ≤ x1 ∧ x1 ≤ 17) (hX2 : 0 ≤ x2 ∧ x2 ≤ 17) : pv_C K 75 [.ref a0, .int (pv_I x1), .int (pv_I x2)] h (Q75 τ ρ h a0 x1 x2) := by
  refine pw_entry 3 ?_
  show pv_T K 75 0 (pv_fl [some (.ref a0), some (.int (pv_I x1)), some (.int (pv_I x2)), none, none, none]) [] h (Q75 τ ρ h a0 x1 x2)
  refine pw_aload_n d75_0 rfl ?_
  refine pw_iload_n d75_1 rfl ?_
  refine pw_callV1 d75_2 k75_24 hT hA0 rfl rfl rfl (c40 (τ := τ) (ρ := ρ) hT hA0 (by omega)) (fun r10905 h10906 q10907 => ?_)
  obtain ⟨eh10906, z10910, ez10910, lz10910, uz10910⟩ := q10907
  subst eh10906
  subst ez10910
  refine pw_aload_n d75_5 rfl ?_
  refine pw_iload_n d75_6 rfl ?_
  refine pw_callV1 d75_7 k75_24 hT hA0 rfl rfl rfl (c40 (τ := τ) (ρ := ρ) hT hA0 (by omega)) (fun r10911 h10912 q10913 => ?_)
  obtain ⟨eh10912, z10916, ez10916, lz10916, uz10916⟩ := q10913
  subst eh10912
  subst ez10916
  refine pw_iand d75_10 (fun z10917 hz10917 ez10917 => ?_)
  refine pw_istore_n d75_11 m75 rfl rfl ?_
  refine pw_iload_n d75_12 rfl ?_
  refine pw_iload_n d75_13 rfl ?_
  refine pw_icmp_eq d75_14 rfl (by omega) (by omega) (fun c10918 => ?_) (fun c10918 => ?_)
  · refine pw_iconst d75_25 ?_
    exact pw_ireturn d75_26 t75 ⟨rfl, 0, rfl, (by omega), (by omega)⟩
  · refine pw_iload_n d75_17 rfl ?_
    refine pw_callS1 d75_18 k75_32 rfl rfl (c67 (τ := τ) (ρ := ρ) (by omega)) (fun r10919 h10920 q10921 => ?_)
    obtain ⟨eh10920, z10924, ez10924, lz10924, uz10924⟩ := q10921
    subst eh10920
    subst ez10924
    refine pw_iconst d75_21 ?_
    refine pw_icmp_eq d75_22 rfl (by omega) (by omega) (fun c10925 => ?_) (fun c10925 => ?_)
    · refine pw_iload_n d75_27 rfl ?_
      refine pw_callS1 d75_28 k75_72 rfl rfl (c76 (τ := τ) (ρ := ρ) (by omega)) (fun r10926 h10927 q10928 => ?_)
      obtain ⟨eh10927, z10931, ez10931, lz10931, uz10931⟩ := q10928
      subst eh10927
      subst ez10931
      refine pw_istore d75_31 m75 rfl rfl ?_
      refine pw_iload_n d75_33 rfl ?_
      refine pw_iload_n d75_34 rfl ?_
      refine pw_iconst d75_35 ?_
      refine pw_isub d75_36 ?_
      refine pw_iand d75_37 (fun z10932 hz10932 ez10932 => ?_)
      refine pw_callS1 d75_38 k75_72 rfl rfl (c76 (τ := τ) (ρ := ρ) (by omega)) (fun r10933 h10934 q10935 => ?_)
      obtain ⟨eh10934, z10938, ez10938, lz10938, uz10938⟩ := q10935
      subst eh10934
      subst ez10938
      refine pw_istore d75_41 m75 rfl rfl ?_
      refine pw_aload_n d75_43 rfl ?_
      refine pw_iload_n d75_44 rfl ?_
      refine pw_iload d75_45 rfl ?_
      refine pw_iload d75_47 rfl ?_
      refine pw_callS4 d75_49 k75_75 rfl rfl (c77 (τ := τ) (ρ := ρ) hT hA0 (by omega) (by omega) (by omega)) (fun r10939 h10940 q10941 => ?_)
      obtain ⟨eh10940, z10944, ez10944, lz10944, uz10944⟩ := q10941
      subst eh10940
      subst ez10944
      refine pw_aload_n d75_52 rfl ?_
      refine pw_iload_n d75_53 rfl ?_
      refine pw_iload d75_54 rfl ?_
      refine pw_iload d75_56 rfl ?_
      refine pw_callS4 d75_58 k75_75 rfl rfl (c77 (τ := τ) (ρ := ρ) hT hA0 (by omega) (by omega) (by omega)) (fun r10945 h10946 q10947 => ?_)
      obtain ⟨eh10946, z10950, ez10950, lz10950, uz10950⟩ := q10947
      subst eh10946
      subst ez10950
      refine pw_icmp_ne d75_61 rfl (by omega) (by omega) (fun c10951 => ?_) (fun c10951 => ?_)
      · refine pw_iconst d75_68 ?_
        exact pw_ireturn d75_69 t75 ⟨rfl, 1, rfl, (by omega), (by omega)⟩
      · refine pw_iconst d75_64 ?_
        refine pw_goto d75_65 rfl ?_
        exact pw_ireturn d75_69 t75 ⟨rfl, (-1), rfl, (by omega), (by omega)⟩
    · refine pw_iconst d75_25 ?_
      exact pw_ireturn d75_26 t75 ⟨rfl, 0, rfl, (by omega), (by omega)⟩

abbrev Q74 (τ : Nat → Option Nat) (ρ : Nat → Nat → Nat) (h : pv_H) (a0 : Nat) (a1 : Nat) (x2 : Int) : Option Value → pv_H → Prop := fun r h' => pv_Ty τ ρ h' ∧ pv_Fr τ [2111, 2175] h h' ∧ ∃ z : Int, r = some (.int (pv_I z)) ∧ 0 ≤ z ∧ z ≤ 1
set_option maxHeartbeats 4000000 in
set_option maxRecDepth 20000 in
/-- AngleNet$Shape.turnOthersFrom(LAngleNet$Net;I)Z -/
theorem c74 {τ : Nat → Option Nat} {ρ : Nat → Nat → Nat} {K : Nat → Nat} {h : pv_H} {a0 : Nat} {a1 : Nat} {x2 : Int} (hT : pv_Ty τ ρ h) (hA0 : τ a0 = some 4) (hA1 : τ a1 = some 2) (hX2 : 0 ≤ x2 ∧ x2 ≤ 17) : pv_C K 74 [.ref a0, .ref a1, .int (pv_I x2)] h (Q74 τ ρ h a0 a1 x2) := by
  refine pw_entry 5 ?_
  show pv_T K 74 0 (pv_fl [some (.ref a0), some (.ref a1), some (.int (pv_I x2)), none, none, none, none, none]) [] h (Q74 τ ρ h a0 a1 x2)
  have hF0 : pv_Fr τ [2111, 2175] h h := pv_Fr.rf
  have L12 : ∀ (nn : Nat) (h_12 : pv_H) (xL3_12 xL4_12 : Int) (o2_12 o5_12 o6_12 o7_12 : Option Value), (pv_Ty τ ρ h_12) → (pv_Fr τ [2111, 2175] h h_12) → (1 ≤ xL3_12 ∧ xL3_12 ≤ 18) → (0 ≤ xL4_12 ∧ xL4_12 ≤ 18) → 18 - xL4_12 < nn → pv_T K 74 12 (pv_fl [some (.ref a0), some (.ref a1), o2_12, some (.int (pv_I xL3_12)), some (.int (pv_I xL4_12)), o5_12, o6_12, o7_12]) [] h_12 (Q74 τ ρ h a0 a1 x2) := by
    intro nn
    induction nn with
    | zero => intro h_12 xL3_12 xL4_12 o2_12 o5_12 o6_12 o7_12 hT_12 hF_12 rL3_12 rL4_12 hm; exfalso; omega
    | succ nn ih12 =>
      intro h_12 xL3_12 xL4_12 o2_12 o5_12 o6_12 o7_12 hT_12 hF_12 rL3_12 rL4_12 hm12
      have L37 : ∀ (nn : Nat) (h_37 : pv_H) (xL3_37 xL5_37 xL6_37 : Int) (o2_37 o7_37 : Option Value), (pv_Ty τ ρ h_37) → (pv_Fr τ [2111, 2175] h h_37) → (1 ≤ xL3_37 ∧ xL3_37 ≤ 18) → (0 ≤ xL4_12 ∧ xL4_12 ≤ 17) → (0 ≤ xL5_37 ∧ xL5_37 ≤ 17) → (0 ≤ xL6_37 ∧ xL6_37 ≤ 18) → 18 - xL6_37 < nn → pv_T K 74 37 (pv_fl [some (.ref a0), some (.ref a1), o2_37, some (.int (pv_I xL3_37)), some (.int (pv_I xL4_12)), some (.int (pv_I xL5_37)), some (.int (pv_I xL6_37)), o7_37]) [] h_37 (Q74 τ ρ h a0 a1 x2) := by
        intro nn
        induction nn with
        | zero => intro h_37 xL3_37 xL5_37 xL6_37 o2_37 o7_37 hT_37 hF_37 rL3_37 rL4_37 rL5_37 rL6_37 hm; exfalso; omega
        | succ nn ih37 =>
          intro h_37 xL3_37 xL5_37 xL6_37 o2_37 o7_37 hT_37 hF_37 rL3_37 rL4_37 rL5_37 rL6_37 hm37
          have J127 : ∀ (h_127 : pv_H) (xL3_127 : Int) (o2_127 o7_127 : Option Value), (pv_Ty τ ρ h_127) → (pv_Fr τ [2111, 2175] h h_127) → (1 ≤ xL3_127 ∧ xL3_127 ≤ 18) → (0 ≤ xL4_12 ∧ xL4_12 ≤ 17) → (0 ≤ xL5_37 ∧ xL5_37 ≤ 17) → (0 ≤ xL6_37 ∧ xL6_37 ≤ 17) → pv_T K 74 127 (pv_fl [some (.ref a0), some (.ref a1), o2_127, some (.int (pv_I xL3_127)), some (.int (pv_I xL4_12)), some (.int (pv_I xL5_37)), some (.int (pv_I xL6_37)), o7_127]) [] h_127 (Q74 τ ρ h a0 a1 x2) := by
            intro h_127 xL3_127 o2_127 o7_127 hT_127 hF_127 rL3_127 rL4_127 rL5_127 rL6_127
            refine pw_iinc d74_127 m74 rfl rfl rfl ?_
            refine pw_goto d74_130 rfl ?_
            exact ih37 h_127 (xL3_127) (xL5_37) ((xL6_37 + 1)) _ _ hT_127 hF_127 (by omega) (by omega) (by omega) (by omega) (by omega)
          have J108 : ∀ (h_108 : pv_H) (xL3_108 xL7_108 : Int) (o2_108 : Option Value), (pv_Ty τ ρ h_108) → (pv_Fr τ [2111, 2175] h h_108) → (1 ≤ xL3_108 ∧ xL3_108 ≤ 18) → (0 ≤ xL4_12 ∧ xL4_12 ≤ 17) → (0 ≤ xL5_37 ∧ xL5_37 ≤ 17) → (0 ≤ xL6_37 ∧ xL6_37 ≤ 17) → ((-2147483648) ≤ xL7_108 ∧ xL7_108 ≤ 2147483647) → pv_T K 74 108 (pv_fl [some (.ref a0), some (.ref a1), o2_108, some (.int (pv_I xL3_108)), some (.int (pv_I xL4_12)), some (.int (pv_I xL5_37)), some (.int (pv_I xL6_37)), some (.int (pv_I xL7_108))]) [] h_108 (Q74 τ ρ h a0 a1 x2) := by
            intro h_108 xL3_108 xL7_108 o2_108 hT_108 hF_108 rL3_108 rL4_108 rL5_108 rL6_108 rL7_108
            refine pw_iload d74_108 rfl ?_
            refine pw_if_eq d74_110 rfl (by omega) (fun c11722 => ?_) (fun c11722 => ?_)
            · exact J127 h_108 (xL3_108) _ _ hT_108 hF_108 (by omega) (by omega) (by omega) (by omega)
            · refine pw_aload_n d74_113 rfl ?_
              refine pw_getR d74_114 g74_9 hT_108 hA0 rfl rfl (fun t11723 => ?_)
              have t11723 : τ (ρ a0 0) = some 32 := t11723
              refine pw_iload d74_117 rfl ?_
              refine pw_iald d74_119 hT_108 t11723 rfl rfl (by omega) (by omega) (fun u11724 vu11724 => ?_)
              refine pw_iload d74_120 rfl ?_
              refine pw_icmp_eq d74_122 rfl (by omega) (by omega) (fun c11725 => ?_) (fun c11725 => ?_)
              · exact J127 h_108 (xL3_108) _ _ hT_108 hF_108 (by omega) (by omega) (by omega) (by omega)
              · refine pw_iconst d74_125 ?_
                exact pw_zreturn d74_126 t74 (by omega) ⟨hT_108, hF_108, 0, rfl, (by omega), (by omega)⟩
          refine pw_iload d74_37 rfl ?_
          refine pw_aload_n d74_39 rfl ?_
          refine pw_getI d74_40 g74_18 hT_37 hA1 rfl rfl (fun u11726 vu11726 => ?_)
          refine pw_icmp_ge d74_43 rfl (by omega) (by omega) (fun c11727 => ?_) (fun c11727 => ?_)
          · refine pw_iinc d74_133 m74 rfl rfl rfl ?_
            refine pw_goto d74_136 rfl ?_
            exact ih12 h_37 (xL3_37) ((xL4_12 + 1)) _ _ _ _ hT_37 hF_37 (by omega) (by omega) (by omega)
          · refine pw_aload_n d74_46 rfl ?_
            refine pw_getR d74_47 g74_9 hT_37 hA0 rfl rfl (fun t11728 => ?_)
            have t11728 : τ (ρ a0 0) = some 32 := t11728
            refine pw_iload d74_50 rfl ?_
            refine pw_iald d74_52 hT_37 t11728 rfl rfl (by omega) (by omega) (fun u11729 vu11729 => ?_)
            refine pw_aload_n d74_53 rfl ?_
            refine pw_iload d74_54 rfl ?_
            refine pw_iload d74_56 rfl ?_
            refine pw_callS3 d74_58 k74_68 rfl rfl (c75 (τ := τ) (ρ := ρ) hT_37 hA1 (by omega) (by omega)) (fun r11730 h11731 q11732 => ?_)
            obtain ⟨eh11731, z11735, ez11735, lz11735, uz11735⟩ := q11732
            subst eh11731
            subst ez11735
            refine pw_imul d74_61 ?_
            refine pw_any (fun z11736 hz11736 ez11736 => ?_)
            refine pw_istore d74_62 m74 rfl rfl ?_
            refine pw_iload d74_64 rfl ?_
            refine pw_if_eq d74_66 rfl (by omega) (fun c11737 => ?_) (fun c11737 => ?_)
            · exact J108 h_37 (xL3_37) (z11736) _ hT_37 hF_37 (by omega) (by omega) (by omega) (by omega) (by omega)
            · refine pw_aload_n d74_69 rfl ?_
              refine pw_getR d74_70 g74_9 hT_37 hA0 rfl rfl (fun t11738 => ?_)
              have t11738 : τ (ρ a0 0) = some 32 := t11738
              refine pw_iload d74_73 rfl ?_
              refine pw_iald d74_75 hT_37 t11738 rfl rfl (by omega) (by omega) (fun u11739 vu11739 => ?_)
              refine pw_if_ne d74_76 rfl (by omega) (fun c11740 => ?_) (fun c11740 => ?_)
              · exact J108 h_37 (xL3_37) (z11736) _ hT_37 hF_37 (by omega) (by omega) (by omega) (by omega) (by omega)
              · refine pw_iload_n d74_79 rfl ?_
                refine pw_bipush d74_80 (by decide) ?_
                refine pw_icmp_ge d74_82 rfl (by omega) (by omega) (fun c11741 => ?_) (fun c11741 => ?_)
                · exact J108 h_37 (xL3_37) (z11736) _ hT_37 hF_37 (by omega) (by omega) (by omega) (by omega) (by omega)
                · refine pw_aload_n d74_85 rfl ?_
                  refine pw_getR d74_86 g74_9 hT_37 hA0 rfl rfl (fun t11742 => ?_)
                  have t11742 : τ (ρ a0 0) = some 32 := t11742
                  refine pw_iload d74_89 rfl ?_
                  refine pw_iload d74_91 rfl ?_
                  refine pw_iast d74_93 hT_37 t11742 rfl rfl rfl (by omega) (by omega) (by omega) (by omega) (fun h11743 T11744 F11745 E11746 => ?_)
                  have f11747 := hF_37.tr (F11745.up (by decide))
                  have q11748 := ((F11745 a1 2 hA1).1 1 (by decide)).1
                  refine pw_aload_n d74_94 rfl ?_
                  refine pw_getR d74_95 g74_15 T11744 hA0 rfl rfl (fun t11749 => ?_)
                  have t11749 : τ (ρ a0 1) = some 33 := t11749
                  refine pw_iload_n d74_98 rfl ?_
                  refine pw_iload d74_99 rfl ?_
                  refine pw_iast d74_101 T11744 t11749 rfl rfl rfl (by omega) (by omega) (by omega) (by omega) (fun h11750 T11751 F11752 E11753 => ?_)
                  have f11754 := f11747.tr (F11752.up (by decide))
                  have q11755 := ((F11752 a1 2 hA1).1 1 (by decide)).1
                  refine pw_iinc d74_102 m74 rfl rfl rfl ?_
                  refine pw_goto d74_105 rfl ?_
                  exact J127 h11750 ((xL3_37 + 1)) _ _ T11751 f11754 (by omega) (by omega) (by omega) (by omega)
      refine pw_iload d74_12 rfl ?_
      refine pw_iload_n d74_14 rfl ?_
      refine pw_icmp_ge d74_15 rfl (by omega) (by omega) (fun c11756 => ?_) (fun c11756 => ?_)
      · refine pw_iconst d74_139 ?_
        exact pw_zreturn d74_140 t74 (by omega) ⟨hT_12, hF_12, 1, rfl, (by omega), (by omega)⟩
      · refine pw_iload d74_18 rfl ?_
        refine pw_bipush d74_20 (by decide) ?_
        refine pw_icmp_ge d74_22 rfl (by omega) (by omega) (fun c11757 => ?_) (fun c11757 => ?_)
        · exfalso; omega
        · refine pw_aload_n d74_25 rfl ?_
          refine pw_getR d74_26 g74_15 hT_12 hA0 rfl rfl (fun t11758 => ?_)
          have t11758 : τ (ρ a0 1) = some 33 := t11758
          refine pw_iload d74_29 rfl ?_
          refine pw_iald d74_31 hT_12 t11758 rfl rfl (by omega) (by omega) (fun u11759 vu11759 => ?_)
          refine pw_istore d74_32 m74 rfl rfl ?_
          refine pw_iconst d74_34 ?_
          refine pw_istore d74_35 m74 rfl rfl ?_
          exact L37 _ h_12 (xL3_12) ((pv_aI h_12 (ρ a0 1) (xL4_12).toNat)) (0) _ _ hT_12 hF_12 (by omega) (by omega) (by omega) (by omega) (pv_mu _)
  refine pw_aload_n d74_0 rfl ?_
  refine pw_getR d74_1 g74_15 hT hA0 rfl rfl (fun t11760 => ?_)
  have t11760 : τ (ρ a0 1) = some 33 := t11760
  refine pw_iconst d74_4 ?_
  refine pw_iload_n d74_5 rfl ?_
  refine pw_iast d74_6 hT t11760 rfl rfl rfl (by omega) (by omega) (by omega) (by omega) (fun h11761 T11762 F11763 E11764 => ?_)
  have f11765 := hF0.tr (F11763.up (by decide))
  refine pw_iconst d74_7 ?_
  refine pw_istore_n d74_8 m74 rfl rfl ?_
  refine pw_iconst d74_9 ?_
  refine pw_istore d74_10 m74 rfl rfl ?_
  exact L12 _ h11761 (1) (0) _ _ _ _ T11762 f11765 (by omega) (by omega) (pv_mu _)

abbrev Q73 (τ : Nat → Option Nat) (ρ : Nat → Nat → Nat) (h : pv_H) (a0 : Nat) (a1 : Nat) : Option Value → pv_H → Prop := fun r h' => pv_Ty τ ρ h' ∧ pv_Fr τ [2111, 2175] h h' ∧ ∃ z : Int, r = some (.int (pv_I z)) ∧ 0 ≤ z ∧ z ≤ 1
set_option maxHeartbeats 4000000 in
set_option maxRecDepth 20000 in
/-- AngleNet$Shape.isTwoSided(LAngleNet$Net;)Z -/
theorem c73 {τ : Nat → Option Nat} {ρ : Nat → Nat → Nat} {K : Nat → Nat} {h : pv_H} {a0 : Nat} {a1 : Nat} (hT : pv_Ty τ ρ h) (hA0 : τ a0 = some 4) (hA1 : τ a1 = some 2) : pv_C K 73 [.ref a0, .ref a1] h (Q73 τ ρ h a0 a1) := by
  refine pw_entry 1 ?_
  show pv_T K 73 0 (pv_fl [some (.ref a0), some (.ref a1), none]) [] h (Q73 τ ρ h a0 a1)
  have hF0 : pv_Fr τ [2111, 2175] h h := pv_Fr.rf
  have L10 : ∀ (nn : Nat) (h_10 : pv_H) (xL2_10 : Int), (pv_Ty τ ρ h_10) → (pv_Fr τ [2111, 2175] h h_10) → (0 ≤ xL2_10 ∧ xL2_10 ≤ 18) → 18 - xL2_10 < nn → pv_T K 73 10 (pv_fl [some (.ref a0), some (.ref a1), some (.int (pv_I xL2_10))]) [] h_10 (Q73 τ ρ h a0 a1) := by
    intro nn
    induction nn with
    | zero => intro h_10 xL2_10 hT_10 hF_10 rL2_10 hm; exfalso; omega
    | succ nn ih10 =>
      intro h_10 xL2_10 hT_10 hF_10 rL2_10 hm10
      have J45 : ∀ (h_45 : pv_H), (pv_Ty τ ρ h_45) → (pv_Fr τ [2111, 2175] h h_45) → (0 ≤ xL2_10 ∧ xL2_10 ≤ 17) → pv_T K 73 45 (pv_fl [some (.ref a0), some (.ref a1), some (.int (pv_I xL2_10))]) [] h_45 (Q73 τ ρ h a0 a1) := by
        intro h_45 hT_45 hF_45 rL2_45
        refine pw_iinc d73_45 m73 rfl rfl rfl ?_
        refine pw_goto d73_48 rfl ?_
        exact ih10 h_45 ((xL2_10 + 1)) hT_45 hF_45 (by omega) (by omega)
      refine pw_iload_n d73_10 rfl ?_
      refine pw_aload_n d73_11 rfl ?_
      refine pw_getI d73_12 g73_18 hT_10 hA1 rfl rfl (fun u12034 vu12034 => ?_)
      refine pw_icmp_ge d73_15 rfl (by omega) (by omega) (fun c12035 => ?_) (fun c12035 => ?_)
      · refine pw_iconst d73_51 ?_
        exact pw_zreturn d73_52 t73 (by omega) ⟨hT_10, hF_10, 1, rfl, (by omega), (by omega)⟩
      · refine pw_aload_n d73_18 rfl ?_
        refine pw_getR d73_19 g73_9 hT_10 hA0 rfl rfl (fun t12036 => ?_)
        have t12036 : τ (ρ a0 0) = some 32 := t12036
        refine pw_iload_n d73_22 rfl ?_
        refine pw_iald d73_23 hT_10 t12036 rfl rfl (by omega) (by omega) (fun u12037 vu12037 => ?_)
        refine pw_if_ne d73_24 rfl (by omega) (fun c12038 => ?_) (fun c12038 => ?_)
        · exact J45 h_10 hT_10 hF_10 (by omega)
        · refine pw_aload_n d73_27 rfl ?_
          refine pw_getR d73_28 g73_9 hT_10 hA0 rfl rfl (fun t12039 => ?_)
          have t12039 : τ (ρ a0 0) = some 32 := t12039
          refine pw_iload_n d73_31 rfl ?_
          refine pw_iconst d73_32 ?_
          refine pw_iast d73_33 hT_10 t12039 rfl rfl rfl (by omega) (by omega) (by omega) (by omega) (fun h12040 T12041 F12042 E12043 => ?_)
          have f12044 := hF_10.tr (F12042.up (by decide))
          have q12045 := ((F12042 a1 2 hA1).1 1 (by decide)).1
          refine pw_aload_n d73_34 rfl ?_
          refine pw_aload_n d73_35 rfl ?_
          refine pw_iload_n d73_36 rfl ?_
          refine pw_callV2 d73_37 k73_65 T12041 hA0 rfl rfl rfl (c74 (τ := τ) (ρ := ρ) T12041 hA0 hA1 (by omega)) (fun r12046 h12047 q12048 => ?_)
          obtain ⟨T12049, F12050, z12051, ez12051, lz12051, uz12051⟩ := q12048
          subst ez12051
          have f12052 := f12044.tr (F12050.up (by decide))
          have q12053 := ((F12050 a1 2 hA1).1 1 (by decide)).1
          refine pw_if_ne d73_40 rfl (by omega) (fun c12054 => ?_) (fun c12054 => ?_)
          · exact J45 h12047 T12049 f12052 (by omega)
          · refine pw_iconst d73_43 ?_
            exact pw_zreturn d73_44 t73 (by omega) ⟨T12049, f12052, 0, rfl, (by omega), (by omega)⟩
  refine pw_aload_n d73_0 rfl ?_
  refine pw_getR d73_1 g73_9 hT hA0 rfl rfl (fun t12055 => ?_)
  have t12055 : τ (ρ a0 0) = some 32 := t12055
  refine pw_iconst d73_4 ?_
  refine pw_callS2 d73_5 k73_59 rfl rfl (c14v32 (τ := τ) (ρ := ρ) hT t12055 (by omega)) (fun r12056 h12057 q12058 => ?_)
  obtain ⟨T12059, F12060, ez12061⟩ := q12058
  subst ez12061
  have f12062 := hF0.tr (F12060.up (by decide))
  refine pw_iconst d73_8 ?_
  refine pw_istore_n d73_9 m73 rfl rfl ?_
  exact L10 _ h12057 (0) T12059 f12062 (by omega) (pv_mu _)

abbrev Q79 (τ : Nat → Option Nat) (ρ : Nat → Nat → Nat) (h : pv_H) (a0 : Nat) (x1 : Int) : Option Value → pv_H → Prop := fun r h' => h = h' ∧ ∃ z : Int, r = some (.int (pv_I z)) ∧ (-2147483648) ≤ z ∧ z ≤ 2147483647
set_option maxHeartbeats 4000000 in
set_option maxRecDepth 20000 in
/-- AngleNet$Shape.rimBeside(LAngleNet$Net;I)I -/
theorem c79 {τ : Nat → Option Nat} {ρ : Nat → Nat → Nat} {K : Nat → Nat} {h : pv_H} {a0 : Nat} {x1 : Int} (hT : pv_Ty τ ρ h) (hA0 : τ a0 = some 2) (hX1 : (-2147483648) ≤ x1 ∧ x1 ≤ 2147483647) : pv_C K 79 [.ref a0, .int (pv_I x1)] h (Q79 τ ρ h a0 x1) := by
  refine pw_entry 2 ?_
  show pv_T K 79 0 (pv_fl [some (.ref a0), some (.int (pv_I x1)), none, none]) [] h (Q79 τ ρ h a0 x1)
  have L4 : ∀ (nn : Nat) (xL2_4 xL3_4 : Int), ((-2147483648) ≤ x1 ∧ x1 ≤ 2147483647) → ((-2147483648) ≤ xL2_4 ∧ xL2_4 ≤ 2147483647) → (0 ≤ xL3_4 ∧ xL3_4 ≤ 10) → 10 - xL3_4 < nn → pv_T K 79 4 (pv_fl [some (.ref a0), some (.int (pv_I x1)), some (.int (pv_I xL2_4)), some (.int (pv_I xL3_4))]) [] h (Q79 τ ρ h a0 x1) := by
    intro nn
    induction nn with
    | zero => intro xL2_4 xL3_4 rL1_4 rL2_4 rL3_4 hm; exfalso; omega
    | succ nn ih4 =>
      intro xL2_4 xL3_4 rL1_4 rL2_4 rL3_4 hm4
      have J29 : ∀ (xS0_29 : Int) (o2_29 : Option Value), ((-2147483648) ≤ x1 ∧ x1 ≤ 2147483647) → (0 ≤ xL3_4 ∧ xL3_4 ≤ 9) → ((-2147483648) ≤ xS0_29 ∧ xS0_29 ≤ 2147483647) → ((-2147483648) ≤ xL2_4 ∧ xL2_4 ≤ 2147483647) → pv_T K 79 29 (pv_fl [some (.ref a0), some (.int (pv_I x1)), o2_29, some (.int (pv_I xL3_4))]) [.int (pv_I xS0_29), .int (pv_I xL2_4)] h (Q79 τ ρ h a0 x1) := by
        intro xS0_29 o2_29 rL1_29 rL3_29 rS0_29 rS1_29
        refine pw_ior d79_29 (fun z12172 hz12172 ez12172 => ?_)
        refine pw_istore_n d79_30 m79 rfl rfl ?_
        refine pw_iinc d79_31 m79 rfl rfl rfl ?_
        refine pw_goto d79_34 rfl ?_
        exact ih4 (z12172) ((xL3_4 + 1)) (by omega) (by omega) (by omega) (by omega)
      refine pw_iload_n d79_4 rfl ?_
      refine pw_aload_n d79_5 rfl ?_
      refine pw_getI d79_6 g79_41 hT hA0 rfl rfl (fun u12173 vu12173 => ?_)
      refine pw_icmp_ge d79_9 rfl (by omega) (by omega) (fun c12174 => ?_) (fun c12174 => ?_)
      · refine pw_iload_n d79_37 rfl ?_
        exact pw_ireturn d79_38 t79 ⟨rfl, xL2_4, rfl, (by omega), (by omega)⟩
      · refine pw_iload_n d79_12 rfl ?_
        refine pw_aload_n d79_13 rfl ?_
        refine pw_iload_n d79_14 rfl ?_
        refine pw_iload_n d79_15 rfl ?_
        refine pw_callV2 d79_16 k79_85 hT hA0 rfl rfl rfl (c80 (τ := τ) (ρ := ρ) hT hA0 (by omega) (by omega)) (fun r12175 h12176 q12177 => ?_)
        obtain ⟨eh12176, z12180, ez12180, lz12180, uz12180⟩ := q12177
        subst eh12176
        subst ez12180
        refine pw_if_eq d79_19 rfl (by omega) (fun c12181 => ?_) (fun c12181 => ?_)
        · refine pw_iconst d79_28 ?_
          exact J29 (0) _ (by omega) (by omega) (by omega) (by omega)
        · refine pw_iconst d79_22 ?_
          refine pw_iload_n d79_23 rfl ?_
          refine pw_ishl d79_24 (fun z12182 hz12182 ez12182 => ?_)
          refine pw_goto d79_25 rfl ?_
          exact J29 (z12182) _ (by omega) (by omega) (by omega) (by omega)
  refine pw_iconst d79_0 ?_
  refine pw_istore_n d79_1 m79 rfl rfl ?_
  refine pw_iconst d79_2 ?_
  refine pw_istore_n d79_3 m79 rfl rfl ?_
  exact L4 _ (0) (0) (by omega) (by omega) (by omega) (pv_mu _)

abbrev Q78 (τ : Nat → Option Nat) (ρ : Nat → Nat → Nat) (h : pv_H) (a0 : Nat) (a1 : Nat) : Option Value → pv_H → Prop := fun r h' => h = h' ∧ ∃ z : Int, r = some (.int (pv_I z)) ∧ (-2147483648) ≤ z ∧ z ≤ 2147483647
set_option maxHeartbeats 4000000 in
set_option maxRecDepth 20000 in
/-- AngleNet$Shape.rimSides(LAngleNet$Net;)I -/
theorem c78 {τ : Nat → Option Nat} {ρ : Nat → Nat → Nat} {K : Nat → Nat} {h : pv_H} {a0 : Nat} {a1 : Nat} (hT : pv_Ty τ ρ h) (hA0 : τ a0 = some 4) (hA1 : τ a1 = some 2) : pv_C K 78 [.ref a0, .ref a1] h (Q78 τ ρ h a0 a1) := by
  refine pw_entry 2 ?_
  show pv_T K 78 0 (pv_fl [some (.ref a0), some (.ref a1), none, none]) [] h (Q78 τ ρ h a0 a1)
  have L4 : ∀ (nn : Nat) (xL2_4 xL3_4 : Int) (o0_4 : Option Value), ((-2147483648) ≤ xL2_4 ∧ xL2_4 ≤ 2147483647) → (0 ≤ xL3_4 ∧ xL3_4 ≤ 10) → 10 - xL3_4 < nn → pv_T K 78 4 (pv_fl [o0_4, some (.ref a1), some (.int (pv_I xL2_4)), some (.int (pv_I xL3_4))]) [] h (Q78 τ ρ h a0 a1) := by
    intro nn
    induction nn with
    | zero => intro xL2_4 xL3_4 o0_4 rL2_4 rL3_4 hm; exfalso; omega
    | succ nn ih4 =>
      intro xL2_4 xL3_4 o0_4 rL2_4 rL3_4 hm4
      refine pw_iload_n d78_4 rfl ?_
      refine pw_aload_n d78_5 rfl ?_
      refine pw_getI d78_6 g78_41 hT hA1 rfl rfl (fun u12341 vu12341 => ?_)
      refine pw_icmp_ge d78_9 rfl (by omega) (by omega) (fun c12342 => ?_) (fun c12342 => ?_)
      · refine pw_iload_n d78_29 rfl ?_
        refine pw_iconst d78_30 ?_
        refine pw_idivU d78_31 (by omega) (by omega) (fun z12343 hz12343 ez12343 => ?_)
        exact pw_ireturn d78_32 t78 ⟨rfl, z12343, rfl, (by omega), (by omega)⟩
      · refine pw_iload_n d78_12 rfl ?_
        refine pw_aload_n d78_13 rfl ?_
        refine pw_iload_n d78_14 rfl ?_
        refine pw_callS2 d78_15 k78_82 rfl rfl (c79 (τ := τ) (ρ := ρ) hT hA1 (by omega)) (fun r12344 h12345 q12346 => ?_)
        obtain ⟨eh12345, z12349, ez12349, lz12349, uz12349⟩ := q12346
        subst eh12345
        subst ez12349
        refine pw_callS1 d78_18 k78_32 rfl rfl (c67 (τ := τ) (ρ := ρ) (by omega)) (fun r12350 h12351 q12352 => ?_)
        obtain ⟨eh12351, z12355, ez12355, lz12355, uz12355⟩ := q12352
        subst eh12351
        subst ez12355
        refine pw_iadd d78_21 ?_
        refine pw_any (fun z12356 hz12356 ez12356 => ?_)
        refine pw_istore_n d78_22 m78 rfl rfl ?_
        refine pw_iinc d78_23 m78 rfl rfl rfl ?_
        refine pw_goto d78_26 rfl ?_
        exact ih4 (z12356) ((xL3_4 + 1)) _ (by omega) (by omega) (by omega)
  refine pw_iconst d78_0 ?_
  refine pw_istore_n d78_1 m78 rfl rfl ?_
  refine pw_iconst d78_2 ?_
  refine pw_istore_n d78_3 m78 rfl rfl ?_
  exact L4 _ (0) (0) _ (by omega) (by omega) (pv_mu _)

abbrev Q82 (τ : Nat → Option Nat) (ρ : Nat → Nat → Nat) (h : pv_H) (a0 : Nat) (x1 : Int) : Option Value → pv_H → Prop := fun r h' => h = h' ∧ ∃ z : Int, r = some (.int (pv_I z)) ∧ (-2147483648) ≤ z ∧ z ≤ 2147483647
set_option maxHeartbeats 4000000 in
set_option maxRecDepth 20000 in
/-- AngleNet$Shape.ringOf(LAngleNet$Net;I)I -/
theorem c82 {τ : Nat → Option Nat} {ρ : Nat → Nat → Nat} {K : Nat → Nat} {h : pv_H} {a0 : Nat} {x1 : Int} (hT : pv_Ty τ ρ h) (hA0 : τ a0 = some 2) (hX1 : (-2147483648) ≤ x1 ∧ x1 ≤ 2147483647) : pv_C K 82 [.ref a0, .int (pv_I x1)] h (Q82 τ ρ h a0 x1) := by
  refine pw_entry 3 ?_
  show pv_T K 82 0 (pv_fl [some (.ref a0), some (.int (pv_I x1)), none, none, none]) [] h (Q82 τ ρ h a0 x1)
  have L6 : ∀ (nn : Nat) (xL2_6 xL3_6 : Int) (o1_6 o4_6 : Option Value), ((-2147483648) ≤ xL2_6 ∧ xL2_6 ≤ 2147483647) → (0 ≤ xL3_6 ∧ xL3_6 ≤ 10) → 10 - xL3_6 < nn → pv_T K 82 6 (pv_fl [some (.ref a0), o1_6, some (.int (pv_I xL2_6)), some (.int (pv_I xL3_6)), o4_6]) [] h (Q82 τ ρ h a0 x1) := by
    intro nn
    induction nn with
    | zero => intro xL2_6 xL3_6 o1_6 o4_6 rL2_6 rL3_6 hm; exfalso; omega
    | succ nn ih6 =>
      intro xL2_6 xL3_6 o1_6 o4_6 rL2_6 rL3_6 hm6
      have L17 : ∀ (nn : Nat) (xL2_17 xL4_17 : Int) (o1_17 : Option Value), ((-2147483648) ≤ xL2_17 ∧ xL2_17 ≤ 2147483647) → (0 ≤ xL3_6 ∧ xL3_6 ≤ 9) → (0 ≤ xL4_17 ∧ xL4_17 ≤ 10) → 10 - xL4_17 < nn → pv_T K 82 17 (pv_fl [some (.ref a0), o1_17, some (.int (pv_I xL2_17)), some (.int (pv_I xL3_6)), some (.int (pv_I xL4_17))]) [] h (Q82 τ ρ h a0 x1) := by
        intro nn
        induction nn with
        | zero => intro xL2_17 xL4_17 o1_17 rL2_17 rL3_17 rL4_17 hm; exfalso; omega
        | succ nn ih17 =>
          intro xL2_17 xL4_17 o1_17 rL2_17 rL3_17 rL4_17 hm17
          have J44 : ∀ (xL2_44 : Int) (o1_44 : Option Value), ((-2147483648) ≤ xL2_44 ∧ xL2_44 ≤ 2147483647) → (0 ≤ xL3_6 ∧ xL3_6 ≤ 9) → (0 ≤ xL4_17 ∧ xL4_17 ≤ 9) → pv_T K 82 44 (pv_fl [some (.ref a0), o1_44, some (.int (pv_I xL2_44)), some (.int (pv_I xL3_6)), some (.int (pv_I xL4_17))]) [] h (Q82 τ ρ h a0 x1) := by
            intro xL2_44 o1_44 rL2_44 rL3_44 rL4_44
            refine pw_iinc d82_44 m82 rfl rfl rfl ?_
            refine pw_goto d82_47 rfl ?_
            exact ih17 (xL2_44) ((xL4_17 + 1)) _ (by omega) (by omega) (by omega) (by omega)
          refine pw_iload d82_17 rfl ?_
          refine pw_aload_n d82_19 rfl ?_
          refine pw_getI d82_20 g82_41 hT hA0 rfl rfl (fun u12583 vu12583 => ?_)
          refine pw_icmp_ge d82_23 rfl (by omega) (by omega) (fun c12584 => ?_) (fun c12584 => ?_)
          · refine pw_iinc d82_50 m82 rfl rfl rfl ?_
            refine pw_goto d82_53 rfl ?_
            exact ih6 (xL2_17) ((xL3_6 + 1)) _ _ (by omega) (by omega) (by omega)
          · refine pw_iload_n d82_26 rfl ?_
            refine pw_iload d82_27 rfl ?_
            refine pw_ishr d82_29 (fun z12585 hz12585 ez12585 => ?_)
            refine pw_iconst d82_30 ?_
            refine pw_iand d82_31 (fun z12586 hz12586 ez12586 => ?_)
            refine pw_if_eq d82_32 rfl (by omega) (fun c12587 => ?_) (fun c12587 => ?_)
            · exact J44 (xL2_17) _ (by omega) (by omega) (by omega)
            · refine pw_iload_n d82_35 rfl ?_
              refine pw_aload_n d82_36 rfl ?_
              refine pw_iload d82_37 rfl ?_
              refine pw_callS2 d82_39 k82_82 rfl rfl (c79 (τ := τ) (ρ := ρ) hT hA0 (by omega)) (fun r12588 h12589 q12590 => ?_)
              obtain ⟨eh12589, z12593, ez12593, lz12593, uz12593⟩ := q12590
              subst eh12589
              subst ez12593
              refine pw_ior d82_42 (fun z12594 hz12594 ez12594 => ?_)
              refine pw_istore_n d82_43 m82 rfl rfl ?_
              exact J44 (z12594) _ (by omega) (by omega) (by omega)
      refine pw_iload_n d82_6 rfl ?_
      refine pw_aload_n d82_7 rfl ?_
      refine pw_getI d82_8 g82_41 hT hA0 rfl rfl (fun u12595 vu12595 => ?_)
      refine pw_icmp_ge d82_11 rfl (by omega) (by omega) (fun c12596 => ?_) (fun c12596 => ?_)
      · refine pw_iload_n d82_56 rfl ?_
        exact pw_ireturn d82_57 t82 ⟨rfl, xL2_6, rfl, (by omega), (by omega)⟩
      · refine pw_iconst d82_14 ?_
        refine pw_istore d82_15 m82 rfl rfl ?_
        exact L17 _ (xL2_6) (0) _ (by omega) (by omega) (by omega) (pv_mu _)
  refine pw_iconst d82_0 ?_
  refine pw_iload_n d82_1 rfl ?_
  refine pw_ishl d82_2 (fun z12597 hz12597 ez12597 => ?_)
  refine pw_istore_n d82_3 m82 rfl rfl ?_
  refine pw_iconst d82_4 ?_
  refine pw_istore_n d82_5 m82 rfl rfl ?_
  exact L6 _ (z12597) (0) _ _ (by omega) (by omega) (pv_mu _)

abbrev Q81 (τ : Nat → Option Nat) (ρ : Nat → Nat → Nat) (h : pv_H) (a0 : Nat) (a1 : Nat) : Option Value → pv_H → Prop := fun r h' => h = h' ∧ ∃ z : Int, r = some (.int (pv_I z)) ∧ (-2147483648) ≤ z ∧ z ≤ 2147483647
set_option maxHeartbeats 4000000 in
set_option maxRecDepth 20000 in
/-- AngleNet$Shape.rings(LAngleNet$Net;)I -/
theorem c81 {τ : Nat → Option Nat} {ρ : Nat → Nat → Nat} {K : Nat → Nat} {h : pv_H} {a0 : Nat} {a1 : Nat} (hT : pv_Ty τ ρ h) (hA0 : τ a0 = some 4) (hA1 : τ a1 = some 2) : pv_C K 81 [.ref a0, .ref a1] h (Q81 τ ρ h a0 a1) := by
  refine pw_entry 3 ?_
  show pv_T K 81 0 (pv_fl [some (.ref a0), some (.ref a1), none, none, none]) [] h (Q81 τ ρ h a0 a1)
  have L7 : ∀ (nn : Nat) (xL2_7 xL3_7 xL4_7 : Int) (o0_7 : Option Value), ((-2147483648) ≤ xL2_7 ∧ xL2_7 ≤ 2147483647) → ((-2147483648) ≤ xL3_7 ∧ xL3_7 ≤ 2147483647) → (0 ≤ xL4_7 ∧ xL4_7 ≤ 10) → 10 - xL4_7 < nn → pv_T K 81 7 (pv_fl [o0_7, some (.ref a1), some (.int (pv_I xL2_7)), some (.int (pv_I xL3_7)), some (.int (pv_I xL4_7))]) [] h (Q81 τ ρ h a0 a1) := by
    intro nn
    induction nn with
    | zero => intro xL2_7 xL3_7 xL4_7 o0_7 rL2_7 rL3_7 rL4_7 hm; exfalso; omega
    | succ nn ih7 =>
      intro xL2_7 xL3_7 xL4_7 o0_7 rL2_7 rL3_7 rL4_7 hm7
      have J46 : ∀ (xL2_46 xL3_46 : Int) (o0_46 : Option Value), ((-2147483648) ≤ xL2_46 ∧ xL2_46 ≤ 2147483647) → ((-2147483648) ≤ xL3_46 ∧ xL3_46 ≤ 2147483647) → (0 ≤ xL4_7 ∧ xL4_7 ≤ 9) → pv_T K 81 46 (pv_fl [o0_46, some (.ref a1), some (.int (pv_I xL2_46)), some (.int (pv_I xL3_46)), some (.int (pv_I xL4_7))]) [] h (Q81 τ ρ h a0 a1) := by
        intro xL2_46 xL3_46 o0_46 rL2_46 rL3_46 rL4_46
        refine pw_iinc d81_46 m81 rfl rfl rfl ?_
        refine pw_goto d81_49 rfl ?_
        exact ih7 (xL2_46) (xL3_46) ((xL4_7 + 1)) _ (by omega) (by omega) (by omega) (by omega)
      refine pw_iload d81_7 rfl ?_
      refine pw_aload_n d81_9 rfl ?_
      refine pw_getI d81_10 g81_41 hT hA1 rfl rfl (fun u13475 vu13475 => ?_)
      refine pw_icmp_ge d81_13 rfl (by omega) (by omega) (fun c13476 => ?_) (fun c13476 => ?_)
      · refine pw_iload_n d81_52 rfl ?_
        exact pw_ireturn d81_53 t81 ⟨rfl, xL3_7, rfl, (by omega), (by omega)⟩
      · refine pw_iload_n d81_16 rfl ?_
        refine pw_iload d81_17 rfl ?_
        refine pw_ishr d81_19 (fun z13477 hz13477 ez13477 => ?_)
        refine pw_iconst d81_20 ?_
        refine pw_iand d81_21 (fun z13478 hz13478 ez13478 => ?_)
        refine pw_if_ne d81_22 rfl (by omega) (fun c13479 => ?_) (fun c13479 => ?_)
        · exact J46 (xL2_7) (xL3_7) _ (by omega) (by omega) (by omega)
        · refine pw_aload_n d81_25 rfl ?_
          refine pw_iload d81_26 rfl ?_
          refine pw_callS2 d81_28 k81_82 rfl rfl (c79 (τ := τ) (ρ := ρ) hT hA1 (by omega)) (fun r13480 h13481 q13482 => ?_)
          obtain ⟨eh13481, z13485, ez13485, lz13485, uz13485⟩ := q13482
          subst eh13481
          subst ez13485
          refine pw_if_eq d81_31 rfl (by omega) (fun c13486 => ?_) (fun c13486 => ?_)
          · exact J46 (xL2_7) (xL3_7) _ (by omega) (by omega) (by omega)
          · refine pw_iload_n d81_34 rfl ?_
            refine pw_aload_n d81_35 rfl ?_
            refine pw_iload d81_36 rfl ?_
            refine pw_callS2 d81_38 k81_88 rfl rfl (c82 (τ := τ) (ρ := ρ) hT hA1 (by omega)) (fun r13487 h13488 q13489 => ?_)
            obtain ⟨eh13488, z13492, ez13492, lz13492, uz13492⟩ := q13489
            subst eh13488
            subst ez13492
            refine pw_ior d81_41 (fun z13493 hz13493 ez13493 => ?_)
            refine pw_istore_n d81_42 m81 rfl rfl ?_
            refine pw_iincU d81_43 m81 rfl rfl rfl (fun z13494 hz13494 => ?_)
            exact J46 (z13493) (z13494) _ (by omega) (by omega) (by omega)
  refine pw_iconst d81_0 ?_
  refine pw_istore_n d81_1 m81 rfl rfl ?_
  refine pw_iconst d81_2 ?_
  refine pw_istore_n d81_3 m81 rfl rfl ?_
  refine pw_iconst d81_4 ?_
  refine pw_istore d81_5 m81 rfl rfl ?_
  exact L7 _ (0) (0) (0) _ (by omega) (by omega) (by omega) (pv_mu _)

abbrev Q83 (τ : Nat → Option Nat) (ρ : Nat → Nat → Nat) (h : pv_H) (a0 : Nat) (a1 : Nat) : Option Value → pv_H → Prop := fun r h' => pv_Ty τ ρ h' ∧ pv_Fr τ [2111, 2175] h h' ∧ ∃ z : Int, r = some (.int (pv_I z)) ∧ (-2147483648) ≤ z ∧ z ≤ 2147483647
set_option maxHeartbeats 4000000 in
set_option maxRecDepth 20000 in
/-- AngleNet$Shape.handles(LAngleNet$Net;)I -/
theorem c83 {τ : Nat → Option Nat} {ρ : Nat → Nat → Nat} {K : Nat → Nat} {h : pv_H} {a0 : Nat} {a1 : Nat} (hT : pv_Ty τ ρ h) (hA0 : τ a0 = some 4) (hA1 : τ a1 = some 2) : pv_C K 83 [.ref a0, .ref a1] h (Q83 τ ρ h a0 a1) := by
  refine pw_entry 0 ?_
  show pv_T K 83 0 (pv_fl [some (.ref a0), some (.ref a1)]) [] h (Q83 τ ρ h a0 a1)
  have hF0 : pv_Fr τ [2111, 2175] h h := pv_Fr.rf
  refine pw_aload_n d83_0 rfl ?_
  refine pw_aload_n d83_1 rfl ?_
  refine pw_callV1 d83_2 k83_91 hT hA0 rfl rfl rfl (c71 (τ := τ) (ρ := ρ) hT hA0 hA1) (fun r13565 h13566 q13567 => ?_)
  obtain ⟨eh13566, z13570, ez13570, lz13570, uz13570⟩ := q13567
  subst eh13566
  subst ez13570
  refine pw_iconst d83_5 ?_
  refine pw_icmp_ne d83_6 rfl (by omega) (by omega) (fun c13571 => ?_) (fun c13571 => ?_)
  · refine pw_iconst d83_25 ?_
    exact pw_ireturn d83_26 t83 ⟨hT, hF0, (-1), rfl, (by omega), (by omega)⟩
  · refine pw_aload_n d83_9 rfl ?_
    refine pw_aload_n d83_10 rfl ?_
    refine pw_callV1 d83_11 k83_94 hT hA0 rfl rfl rfl (c69 (τ := τ) (ρ := ρ) hT hA0 hA1) (fun r13572 h13573 q13574 => ?_)
    obtain ⟨eh13573, z13577, ez13577, lz13577, uz13577⟩ := q13574
    subst eh13573
    subst ez13577
    refine pw_if_eq d83_14 rfl (by omega) (fun c13578 => ?_) (fun c13578 => ?_)
    · refine pw_iconst d83_25 ?_
      exact pw_ireturn d83_26 t83 ⟨hT, hF0, (-1), rfl, (by omega), (by omega)⟩
    · refine pw_aload_n d83_17 rfl ?_
      refine pw_aload_n d83_18 rfl ?_
      refine pw_callV1 d83_19 k83_98 hT hA0 rfl rfl rfl (c73 (τ := τ) (ρ := ρ) hT hA0 hA1) (fun r13579 h13580 q13581 => ?_)
      obtain ⟨T13582, F13583, z13584, ez13584, lz13584, uz13584⟩ := q13581
      subst ez13584
      have f13585 := hF0.tr (F13583.up (by decide))
      refine pw_if_ne d83_22 rfl (by omega) (fun c13586 => ?_) (fun c13586 => ?_)
      · refine pw_iconst d83_27 ?_
        refine pw_aload_n d83_28 rfl ?_
        refine pw_aload_n d83_29 rfl ?_
        refine pw_callV1 d83_30 k83_101 T13582 hA0 rfl rfl rfl (c65 (τ := τ) (ρ := ρ) T13582 hA0 hA1) (fun r13587 h13588 q13589 => ?_)
        obtain ⟨eh13588, z13592, ez13592, lz13592, uz13592⟩ := q13589
        subst eh13588
        subst ez13592
        refine pw_isub d83_33 ?_
        refine pw_aload_n d83_34 rfl ?_
        refine pw_aload_n d83_35 rfl ?_
        refine pw_callV1 d83_36 k83_104 T13582 hA0 rfl rfl rfl (c81 (τ := τ) (ρ := ρ) T13582 hA0 hA1) (fun r13593 h13594 q13595 => ?_)
        obtain ⟨eh13594, z13598, ez13598, lz13598, uz13598⟩ := q13595
        subst eh13594
        subst ez13598
        refine pw_isub d83_39 ?_
        refine pw_iconst d83_40 ?_
        refine pw_idivU d83_41 (by omega) (by omega) (fun z13599 hz13599 ez13599 => ?_)
        exact pw_ireturn d83_42 t83 ⟨T13582, f13585, z13599, rfl, (by omega), (by omega)⟩
      · refine pw_iconst d83_25 ?_
        exact pw_ireturn d83_26 t83 ⟨T13582, f13585, (-1), rfl, (by omega), (by omega)⟩

abbrev Q138 (τ : Nat → Option Nat) (ρ : Nat → Nat → Nat) (h : pv_H) (a0 : Nat) (a1 : Nat) : Option Value → pv_H → Prop := fun r h' => h = h' ∧ ∃ z : Int, r = some (.int (pv_I z)) ∧ 0 ≤ z ∧ z ≤ 1
set_option maxHeartbeats 4000000 in
set_option maxRecDepth 20000 in
/-- AngleNet$Shape.isBall(LAngleNet$Net;)Z -/
theorem c138 {τ : Nat → Option Nat} {ρ : Nat → Nat → Nat} {K : Nat → Nat} {h : pv_H} {a0 : Nat} {a1 : Nat} (hT : pv_Ty τ ρ h) (hA0 : τ a0 = some 4) (hA1 : τ a1 = some 2) : pv_C K 138 [.ref a0, .ref a1] h (Q138 τ ρ h a0 a1) := by
  refine pw_entry 0 ?_
  show pv_T K 138 0 (pv_fl [some (.ref a0), some (.ref a1)]) [] h (Q138 τ ρ h a0 a1)
  refine pw_aload_n d138_0 rfl ?_
  refine pw_aload_n d138_1 rfl ?_
  refine pw_callV1 d138_2 k138_91 hT hA0 rfl rfl rfl (c71 (τ := τ) (ρ := ρ) hT hA0 hA1) (fun r13656 h13657 q13658 => ?_)
  obtain ⟨eh13657, z13661, ez13661, lz13661, uz13661⟩ := q13658
  subst eh13657
  subst ez13661
  refine pw_iconst d138_5 ?_
  refine pw_icmp_ne d138_6 rfl (by omega) (by omega) (fun c13662 => ?_) (fun c13662 => ?_)
  · refine pw_iconst d138_38 ?_
    exact pw_zreturn d138_39 t138 (by omega) ⟨rfl, 0, rfl, (by omega), (by omega)⟩
  · refine pw_aload_n d138_9 rfl ?_
    refine pw_aload_n d138_10 rfl ?_
    refine pw_callV1 d138_11 k138_101 hT hA0 rfl rfl rfl (c65 (τ := τ) (ρ := ρ) hT hA0 hA1) (fun r13663 h13664 q13665 => ?_)
    obtain ⟨eh13664, z13668, ez13668, lz13668, uz13668⟩ := q13665
    subst eh13664
    subst ez13668
    refine pw_iconst d138_14 ?_
    refine pw_icmp_ne d138_15 rfl (by omega) (by omega) (fun c13669 => ?_) (fun c13669 => ?_)
    · refine pw_iconst d138_38 ?_
      exact pw_zreturn d138_39 t138 (by omega) ⟨rfl, 0, rfl, (by omega), (by omega)⟩
    · refine pw_aload_n d138_18 rfl ?_
      refine pw_aload_n d138_19 rfl ?_
      refine pw_callV1 d138_20 k138_107 hT hA0 rfl rfl rfl (c78 (τ := τ) (ρ := ρ) hT hA0 hA1) (fun r13670 h13671 q13672 => ?_)
      obtain ⟨eh13671, z13675, ez13675, lz13675, uz13675⟩ := q13672
      subst eh13671
      subst ez13675
      refine pw_if_ne d138_23 rfl (by omega) (fun c13676 => ?_) (fun c13676 => ?_)
      · refine pw_iconst d138_38 ?_
        exact pw_zreturn d138_39 t138 (by omega) ⟨rfl, 0, rfl, (by omega), (by omega)⟩
      · refine pw_aload_n d138_26 rfl ?_
        refine pw_aload_n d138_27 rfl ?_
        refine pw_callV1 d138_28 k138_94 hT hA0 rfl rfl rfl (c69 (τ := τ) (ρ := ρ) hT hA0 hA1) (fun r13677 h13678 q13679 => ?_)
        obtain ⟨eh13678, z13682, ez13682, lz13682, uz13682⟩ := q13679
        subst eh13678
        subst ez13682
        refine pw_if_eq d138_31 rfl (by omega) (fun c13683 => ?_) (fun c13683 => ?_)
        · refine pw_iconst d138_38 ?_
          exact pw_zreturn d138_39 t138 (by omega) ⟨rfl, 0, rfl, (by omega), (by omega)⟩
        · refine pw_iconst d138_34 ?_
          refine pw_goto d138_35 rfl ?_
          exact pw_zreturn d138_39 t138 (by omega) ⟨rfl, 1, rfl, (by omega), (by omega)⟩

abbrev Q86 (τ : Nat → Option Nat) (ρ : Nat → Nat → Nat) (h : pv_H) (a0 : Nat) (x1 : Int) : Option Value → pv_H → Prop := fun r h' => h = h' ∧ ∃ z : Int, r = some (.int (pv_I z)) ∧ (-1) ≤ z ∧ z ≤ 9
set_option maxHeartbeats 4000000 in
set_option maxRecDepth 20000 in
/-- AngleNet$Shape.leastBeside(LAngleNet$Net;I)I -/
theorem c86 {τ : Nat → Option Nat} {ρ : Nat → Nat → Nat} {K : Nat → Nat} {h : pv_H} {a0 : Nat} {x1 : Int} (hT : pv_Ty τ ρ h) (hA0 : τ a0 = some 2) (hX1 : (-2147483648) ≤ x1 ∧ x1 ≤ 2147483647) : pv_C K 86 [.ref a0, .int (pv_I x1)] h (Q86 τ ρ h a0 x1) := by
  refine pw_entry 1 ?_
  show pv_T K 86 0 (pv_fl [some (.ref a0), some (.int (pv_I x1)), none]) [] h (Q86 τ ρ h a0 x1)
  have L2 : ∀ (nn : Nat) (xL2_2 : Int), ((-2147483648) ≤ x1 ∧ x1 ≤ 2147483647) → (0 ≤ xL2_2 ∧ xL2_2 ≤ 10) → 10 - xL2_2 < nn → pv_T K 86 2 (pv_fl [some (.ref a0), some (.int (pv_I x1)), some (.int (pv_I xL2_2))]) [] h (Q86 τ ρ h a0 x1) := by
    intro nn
    induction nn with
    | zero => intro xL2_2 rL1_2 rL2_2 hm; exfalso; omega
    | succ nn ih2 =>
      intro xL2_2 rL1_2 rL2_2 hm2
      refine pw_iload_n d86_2 rfl ?_
      refine pw_aload_n d86_3 rfl ?_
      refine pw_getI d86_4 g86_41 hT hA0 rfl rfl (fun u13774 vu13774 => ?_)
      refine pw_icmp_ge d86_7 rfl (by omega) (by omega) (fun c13775 => ?_) (fun c13775 => ?_)
      · refine pw_iconst d86_27 ?_
        exact pw_ireturn d86_28 t86 ⟨rfl, (-1), rfl, (by omega), (by omega)⟩
      · refine pw_aload_n d86_10 rfl ?_
        refine pw_iload_n d86_11 rfl ?_
        refine pw_iload_n d86_12 rfl ?_
        refine pw_callV2 d86_13 k86_126 hT hA0 rfl rfl rfl (c47 (τ := τ) (ρ := ρ) hT hA0 (by omega) (by omega)) (fun r13776 h13777 q13778 => ?_)
        obtain ⟨eh13777, z13781, ez13781, lz13781, uz13781, pz13781_0⟩ := q13778
        subst eh13777
        subst ez13781
        refine pw_if_eq d86_16 rfl (by omega) (fun c13782 => ?_) (fun c13782 => ?_)
        · refine pw_iinc d86_21 m86 rfl rfl rfl ?_
          refine pw_goto d86_24 rfl ?_
          exact ih2 ((xL2_2 + 1)) (by omega) (by omega) (by omega)
        · refine pw_iload_n d86_19 rfl ?_
          exact pw_ireturn d86_20 t86 ⟨rfl, xL2_2, rfl, (by omega), (by omega)⟩
  refine pw_iconst d86_0 ?_
  refine pw_istore_n d86_1 m86 rfl rfl ?_
  exact L2 _ (0) (by omega) (by omega) (pv_mu _)

abbrev Q87 (τ : Nat → Option Nat) (ρ : Nat → Nat → Nat) (h : pv_H) (a0 : Nat) (x1 : Int) (x2 : Int) : Option Value → pv_H → Prop := fun r h' => h = h' ∧ ∃ z : Int, r = some (.int (pv_I z)) ∧ (-1) ≤ z ∧ z ≤ 17
set_option maxHeartbeats 4000000 in
set_option maxRecDepth 20000 in
/-- AngleNet$Shape.firstThird(LAngleNet$Net;II)I -/
theorem c87 {τ : Nat → Option Nat} {ρ : Nat → Nat → Nat} {K : Nat → Nat} {h : pv_H} {a0 : Nat} {x1 : Int} {x2 : Int} (hT : pv_Ty τ ρ h) (hA0 : τ a0 = some 2) (hX1 : (-2147483648) ≤ x1 ∧ x1 ≤ 2147483647) (hX2 : (-2147483648) ≤ x2 ∧ x2 ≤ 2147483647) : pv_C K 87 [.ref a0, .int (pv_I x1), .int (pv_I x2)] h (Q87 τ ρ h a0 x1 x2) := by
  refine pw_entry 2 ?_
  show pv_T K 87 0 (pv_fl [some (.ref a0), some (.int (pv_I x1)), some (.int (pv_I x2)), none, none]) [] h (Q87 τ ρ h a0 x1 x2)
  have J26 : ∀ (xL3_26 xS0_26 : Int) (o4_26 : Option Value), ((-2147483648) ≤ x1 ∧ x1 ≤ 2147483647) → ((-2147483648) ≤ x2 ∧ x2 ≤ 2147483647) → ((-1) ≤ xL3_26 ∧ xL3_26 ≤ 17) → ((-1) ≤ xS0_26 ∧ xS0_26 ≤ 17) → pv_T K 87 26 (pv_fl [some (.ref a0), some (.int (pv_I x1)), some (.int (pv_I x2)), some (.int (pv_I xL3_26)), o4_26]) [.int (pv_I xS0_26)] h (Q87 τ ρ h a0 x1 x2) := by
    intro xL3_26 xS0_26 o4_26 rL1_26 rL2_26 rL3_26 rS0_26
    refine pw_istore d87_26 m87 rfl rfl ?_
    refine pw_iload d87_28 rfl ?_
    refine pw_iconst d87_30 ?_
    refine pw_icmp_ne d87_31 rfl (by omega) (by omega) (fun c13837 => ?_) (fun c13837 => ?_)
    · refine pw_aload_n d87_36 rfl ?_
      refine pw_iload_n d87_37 rfl ?_
      refine pw_iload_n d87_38 rfl ?_
      refine pw_iload_n d87_39 rfl ?_
      refine pw_callV3 d87_40 k87_119 hT hA0 rfl rfl rfl (c90 (τ := τ) (ρ := ρ) hT hA0 (by omega) (by omega) (by omega)) (fun r13838 h13839 q13840 => ?_)
      obtain ⟨eh13839, z13843, ez13843, lz13843, uz13843⟩ := q13840
      subst eh13839
      subst ez13843
      refine pw_aload_n d87_43 rfl ?_
      refine pw_iload d87_44 rfl ?_
      refine pw_iload_n d87_46 rfl ?_
      refine pw_iload_n d87_47 rfl ?_
      refine pw_callV3 d87_48 k87_119 hT hA0 rfl rfl rfl (c90 (τ := τ) (ρ := ρ) hT hA0 (by omega) (by omega) (by omega)) (fun r13844 h13845 q13846 => ?_)
      obtain ⟨eh13845, z13849, ez13849, lz13849, uz13849⟩ := q13846
      subst eh13845
      subst ez13849
      refine pw_icmp_ge d87_51 rfl (by omega) (by omega) (fun c13850 => ?_) (fun c13850 => ?_)
      · refine pw_iload d87_58 rfl ?_
        exact pw_ireturn d87_60 t87 ⟨rfl, xS0_26, rfl, (by omega), (by omega)⟩
      · refine pw_iload_n d87_54 rfl ?_
        refine pw_goto d87_55 rfl ?_
        exact pw_ireturn d87_60 t87 ⟨rfl, xL3_26, rfl, (by omega), (by omega)⟩
    · refine pw_iload_n d87_34 rfl ?_
      exact pw_ireturn d87_35 t87 ⟨rfl, xL3_26, rfl, (by omega), (by omega)⟩
  refine pw_aload_n d87_0 rfl ?_
  refine pw_iload_n d87_1 rfl ?_
  refine pw_iload_n d87_2 rfl ?_
  refine pw_iconst d87_3 ?_
  refine pw_callV3 d87_4 k87_123 hT hA0 rfl rfl rfl (c88 (τ := τ) (ρ := ρ) hT hA0 (by omega) (by omega) (by omega)) (fun r13851 h13852 q13853 => ?_)
  obtain ⟨eh13852, z13856, ez13856, lz13856, uz13856⟩ := q13853
  subst eh13852
  subst ez13856
  refine pw_istore_n d87_7 m87 rfl rfl ?_
  refine pw_iload_n d87_8 rfl ?_
  refine pw_iconst d87_9 ?_
  refine pw_icmp_ne d87_10 rfl (by omega) (by omega) (fun c13857 => ?_) (fun c13857 => ?_)
  · refine pw_aload_n d87_17 rfl ?_
    refine pw_iload_n d87_18 rfl ?_
    refine pw_iload_n d87_19 rfl ?_
    refine pw_iload_n d87_20 rfl ?_
    refine pw_iconst d87_21 ?_
    refine pw_iadd d87_22 ?_
    refine pw_callV3 d87_23 k87_123 hT hA0 rfl rfl rfl (c88 (τ := τ) (ρ := ρ) hT hA0 (by omega) (by omega) (by omega)) (fun r13858 h13859 q13860 => ?_)
    obtain ⟨eh13859, z13863, ez13863, lz13863, uz13863⟩ := q13860
    subst eh13859
    subst ez13863
    exact J26 (z13856) (z13863) _ (by omega) (by omega) (by omega) (by omega)
  · refine pw_iconst d87_13 ?_
    refine pw_goto d87_14 rfl ?_
    exact J26 (z13856) ((-1)) _ (by omega) (by omega) (by omega) (by omega)

abbrev Q85 (τ : Nat → Option Nat) (ρ : Nat → Nat → Nat) (h : pv_H) (a0 : Nat) (a1 : Nat) (x2 : Int) (x3 : Int) : Option Value → pv_H → Prop := fun r h' => h = h' ∧ ∃ z : Int, r = some (.int (pv_I z)) ∧ (-1) ≤ z ∧ z ≤ 32
set_option maxHeartbeats 4000000 in
set_option maxRecDepth 20000 in
/-- AngleNet$Shape.beside(LAngleNet$Net;II)I -/
theorem c85 {τ : Nat → Option Nat} {ρ : Nat → Nat → Nat} {K : Nat → Nat} {h : pv_H} {a0 : Nat} {a1 : Nat} {x2 : Int} {x3 : Int} (hT : pv_Ty τ ρ h) (hA0 : τ a0 = some 4) (hA1 : τ a1 = some 2) (hX2 : (-2147483648) ≤ x2 ∧ x2 ≤ 2147483647) (hX3 : (-2147483648) ≤ x3 ∧ x3 ≤ 2147483647) : pv_C K 85 [.ref a0, .ref a1, .int (pv_I x2), .int (pv_I x3)] h (Q85 τ ρ h a0 a1 x2 x3) := by
  refine pw_entry 6 ?_
  show pv_T K 85 0 (pv_fl [some (.ref a0), some (.ref a1), some (.int (pv_I x2)), some (.int (pv_I x3)), none, none, none, none, none, none]) [] h (Q85 τ ρ h a0 a1 x2 x3)
  have L64 : ∀ (nn : Nat) (xL6_64 xL7_64 xL8_64 : Int) (o0_64 o4_64 o5_64 o9_64 : Option Value), ((-2147483648) ≤ x2 ∧ x2 ≤ 2147483647) → (0 ≤ x3 ∧ x3 ≤ 2147483646) → (0 ≤ xL6_64 ∧ xL6_64 ≤ 32) → ((-1) ≤ xL7_64 ∧ xL7_64 ≤ 17) → (0 ≤ xL8_64 ∧ xL8_64 ≤ 2147483647) → 2147483647 - xL8_64 < nn → pv_T K 85 64 (pv_fl [o0_64, some (.ref a1), some (.int (pv_I x2)), some (.int (pv_I x3)), o4_64, o5_64, some (.int (pv_I xL6_64)), some (.int (pv_I xL7_64)), some (.int (pv_I xL8_64)), o9_64]) [] h (Q85 τ ρ h a0 a1 x2 x3) := by
    intro nn
    induction nn with
    | zero => intro xL6_64 xL7_64 xL8_64 o0_64 o4_64 o5_64 o9_64 rL2_64 rL3_64 rL6_64 rL7_64 rL8_64 hm; exfalso; omega
    | succ nn ih64 =>
      intro xL6_64 xL7_64 xL8_64 o0_64 o4_64 o5_64 o9_64 rL2_64 rL3_64 rL6_64 rL7_64 rL8_64 hm64
      have J120 : ∀ (xL6_120 xS0_120 : Int) (o0_120 o4_120 o5_120 o7_120 o9_120 : Option Value), ((-2147483648) ≤ x2 ∧ x2 ≤ 2147483647) → (1 ≤ x3 ∧ x3 ≤ 2147483646) → (0 ≤ xL6_120 ∧ xL6_120 ≤ 32) → (0 ≤ xL8_64 ∧ xL8_64 ≤ 2147483646) → ((-1) ≤ xS0_120 ∧ xS0_120 ≤ 17) → pv_T K 85 120 (pv_fl [o0_120, some (.ref a1), some (.int (pv_I x2)), some (.int (pv_I x3)), o4_120, o5_120, some (.int (pv_I xL6_120)), o7_120, some (.int (pv_I xL8_64)), o9_120]) [.int (pv_I xS0_120)] h (Q85 τ ρ h a0 a1 x2 x3) := by
        intro xL6_120 xS0_120 o0_120 o4_120 o5_120 o7_120 o9_120 rL2_120 rL3_120 rL6_120 rL8_120 rS0_120
        refine pw_istore d85_120 m85 rfl rfl ?_
        refine pw_iinc d85_122 m85 rfl rfl rfl ?_
        refine pw_goto d85_125 rfl ?_
        exact ih64 (xL6_120) (xS0_120) ((xL8_64 + 1)) _ _ _ _ (by omega) (by omega) (by omega) (by omega) (by omega) (by omega)
      refine pw_iload d85_64 rfl ?_
      refine pw_iload_n d85_66 rfl ?_
      refine pw_icmp_ge d85_67 rfl (by omega) (by omega) (fun c14877 => ?_) (fun c14877 => ?_)
      · refine pw_iload d85_128 rfl ?_
        exact pw_ireturn d85_130 t85 ⟨rfl, xL6_64, rfl, (by omega), (by omega)⟩
      · refine pw_iload d85_70 rfl ?_
        refine pw_iconst d85_72 ?_
        refine pw_icmp_eq d85_73 rfl (by omega) (by omega) (fun c14878 => ?_) (fun c14878 => ?_)
        · refine pw_iload d85_128 rfl ?_
          exact pw_ireturn d85_130 t85 ⟨rfl, xL6_64, rfl, (by omega), (by omega)⟩
        · refine pw_aload_n d85_76 rfl ?_
          refine pw_iload d85_77 rfl ?_
          refine pw_iload_n d85_79 rfl ?_
          refine pw_iload d85_80 rfl ?_
          refine pw_callV3 d85_82 k85_119 hT hA1 rfl rfl rfl (c90 (τ := τ) (ρ := ρ) hT hA1 (by omega) (by omega) (by omega)) (fun r14879 h14880 q14881 => ?_)
          obtain ⟨eh14880, z14884, ez14884, lz14884, uz14884⟩ := q14881
          subst eh14880
          subst ez14884
          refine pw_istore d85_85 m85 rfl rfl ?_
          refine pw_aload_n d85_87 rfl ?_
          refine pw_iload_n d85_88 rfl ?_
          refine pw_iload d85_89 rfl ?_
          refine pw_iconst d85_91 ?_
          refine pw_callV3 d85_92 k85_123 hT hA1 rfl rfl rfl (c88 (τ := τ) (ρ := ρ) hT hA1 (by omega) (by omega) (by omega)) (fun r14885 h14886 q14887 => ?_)
          obtain ⟨eh14886, z14890, ez14890, lz14890, uz14890⟩ := q14887
          subst eh14886
          subst ez14890
          refine pw_istore d85_95 m85 rfl rfl ?_
          refine pw_iload d85_97 rfl ?_
          refine pw_iload d85_99 rfl ?_
          refine pw_icmp_ne d85_101 rfl (by omega) (by omega) (fun c14891 => ?_) (fun c14891 => ?_)
          · refine pw_iload d85_118 rfl ?_
            exact J120 (z14884) (z14890) _ _ _ _ _ (by omega) (by omega) (by omega) (by omega) (by omega)
          · refine pw_aload_n d85_104 rfl ?_
            refine pw_iload_n d85_105 rfl ?_
            refine pw_iload d85_106 rfl ?_
            refine pw_iload d85_108 rfl ?_
            refine pw_iconst d85_110 ?_
            refine pw_iadd d85_111 ?_
            refine pw_callV3 d85_112 k85_123 hT hA1 rfl rfl rfl (c88 (τ := τ) (ρ := ρ) hT hA1 (by omega) (by omega) (by omega)) (fun r14892 h14893 q14894 => ?_)
            obtain ⟨eh14893, z14897, ez14897, lz14897, uz14897⟩ := q14894
            subst eh14893
            subst ez14897
            refine pw_goto d85_115 rfl ?_
            exact J120 (z14884) (z14897) _ _ _ _ _ (by omega) (by omega) (by omega) (by omega) (by omega)
  have J25 : ∀ (xS0_25 : Int) (o0_25 o4_25 o5_25 o6_25 o7_25 o8_25 o9_25 : Option Value), ((-2147483648) ≤ x2 ∧ x2 ≤ 2147483647) → ((-2147483648) ≤ x3 ∧ x3 ≤ 2147483647) → ((-1) ≤ xS0_25 ∧ xS0_25 ≤ 32) → pv_T K 85 25 (pv_fl [o0_25, some (.ref a1), some (.int (pv_I x2)), some (.int (pv_I x3)), o4_25, o5_25, o6_25, o7_25, o8_25, o9_25]) [.int (pv_I xS0_25)] h (Q85 τ ρ h a0 a1 x2 x3) := by
    intro xS0_25 o0_25 o4_25 o5_25 o6_25 o7_25 o8_25 o9_25 rL2_25 rL3_25 rS0_25
    refine pw_istore d85_25 m85 rfl rfl ?_
    refine pw_iload_n d85_27 rfl ?_
    refine pw_if_lt d85_28 rfl (by omega) (fun c14898 => ?_) (fun c14898 => ?_)
    · refine pw_iconst d85_46 ?_
      exact pw_ireturn d85_47 t85 ⟨rfl, (-1), rfl, (by omega), (by omega)⟩
    · refine pw_iload_n d85_31 rfl ?_
      refine pw_aload_n d85_32 rfl ?_
      refine pw_iload_n d85_33 rfl ?_
      refine pw_callV1 d85_34 k85_113 hT hA1 rfl rfl rfl (c59 (τ := τ) (ρ := ρ) hT hA1 (by omega)) (fun r14899 h14900 q14901 => ?_)
      obtain ⟨eh14900, z14904, ez14904, lz14904, uz14904⟩ := q14901
      subst eh14900
      subst ez14904
      refine pw_icmp_ge d85_37 rfl (by omega) (by omega) (fun c14905 => ?_) (fun c14905 => ?_)
      · refine pw_iconst d85_46 ?_
        exact pw_ireturn d85_47 t85 ⟨rfl, (-1), rfl, (by omega), (by omega)⟩
      · refine pw_iload d85_40 rfl ?_
        refine pw_iconst d85_42 ?_
        refine pw_icmp_ne d85_43 rfl (by omega) (by omega) (fun c14906 => ?_) (fun c14906 => ?_)
        · refine pw_iload d85_48 rfl ?_
          refine pw_istore d85_50 m85 rfl rfl ?_
          refine pw_aload_n d85_52 rfl ?_
          refine pw_iload_n d85_53 rfl ?_
          refine pw_iload d85_54 rfl ?_
          refine pw_callS3 d85_56 k85_116 rfl rfl (c87 (τ := τ) (ρ := ρ) hT hA1 (by omega) (by omega)) (fun r14907 h14908 q14909 => ?_)
          obtain ⟨eh14908, z14912, ez14912, lz14912, uz14912⟩ := q14909
          subst eh14908
          subst ez14912
          refine pw_istore d85_59 m85 rfl rfl ?_
          refine pw_iconst d85_61 ?_
          refine pw_istore d85_62 m85 rfl rfl ?_
          exact L64 _ (xS0_25) (z14912) (0) _ _ _ _ (by omega) (by omega) (by omega) (by omega) (by omega) (pv_mu _)
        · refine pw_iconst d85_46 ?_
          exact pw_ireturn d85_47 t85 ⟨rfl, (-1), rfl, (by omega), (by omega)⟩
  refine pw_aload_n d85_0 rfl ?_
  refine pw_iload_n d85_1 rfl ?_
  refine pw_callS2 d85_2 k85_82 rfl rfl (c79 (τ := τ) (ρ := ρ) hT hA1 (by omega)) (fun r14913 h14914 q14915 => ?_)
  obtain ⟨eh14914, z14918, ez14918, lz14918, uz14918⟩ := q14915
  subst eh14914
  subst ez14918
  refine pw_istore d85_5 m85 rfl rfl ?_
  refine pw_iload d85_7 rfl ?_
  refine pw_if_eq d85_9 rfl (by omega) (fun c14919 => ?_) (fun c14919 => ?_)
  · refine pw_aload_n d85_20 rfl ?_
    refine pw_iload_n d85_21 rfl ?_
    refine pw_callS2 d85_22 k85_110 rfl rfl (c86 (τ := τ) (ρ := ρ) hT hA1 (by omega)) (fun r14920 h14921 q14922 => ?_)
    obtain ⟨eh14921, z14925, ez14925, lz14925, uz14925⟩ := q14922
    subst eh14921
    subst ez14925
    exact J25 (z14925) _ _ _ _ _ _ _ (by omega) (by omega) (by omega)
  · refine pw_iload d85_12 rfl ?_
    refine pw_callS1 d85_14 k85_72 rfl rfl (c76 (τ := τ) (ρ := ρ) (by omega)) (fun r14926 h14927 q14928 => ?_)
    obtain ⟨eh14927, z14931, ez14931, lz14931, uz14931⟩ := q14928
    subst eh14927
    subst ez14931
    refine pw_goto d85_17 rfl ?_
    exact J25 (z14931) _ _ _ _ _ _ _ (by omega) (by omega) (by omega)
