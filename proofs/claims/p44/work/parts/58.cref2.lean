abbrev Q248 (τ : Nat → Option Nat) (ρ : Nat → Nat → Nat) (h : pv_H) (a0 : Nat) : Option Value → pv_H → Prop := fun r h' => pv_Ty τ ρ h' ∧ pv_Fr τ [3071, 3135] h h' ∧ r = none
set_option maxHeartbeats 4000000 in
set_option maxRecDepth 20000 in
/-- AngleNetModel.fillBounds()V -/
theorem ct248 {τ : Nat → Option Nat} {ρ : Nat → Nat → Nat} {K : Nat → Nat} {h : pv_H} {a0 : Nat} (hT : pv_Ty τ ρ h) (hA0 : τ a0 = some 7) : pv_C K 248 [.ref a0] h (Q248 τ ρ h a0) := by
  refine pw_entry 1 ?_
  show pv_T K 248 0 (pv_fl [some (.ref a0), none]) [] h (Q248 τ ρ h a0)
  have hF0 : pv_Fr τ [3071, 3135] h h := pv_Fr.rf
  have L2 : ∀ (nn : Nat) (h_2 : pv_H) (xL1_2 : Int), (pv_Ty τ ρ h_2) → (pv_Fr τ [3071, 3135] h h_2) → (0 ≤ xL1_2 ∧ xL1_2 ≤ 54) → 54 - xL1_2 < nn → pv_T K 248 2 (pv_fl [some (.ref a0), some (.int (pv_I xL1_2))]) [] h_2 (Q248 τ ρ h a0) := by
    intro nn
    induction nn with
    | zero => intro h_2 xL1_2 hT_2 hF_2 rL1_2 hm; exfalso; omega
    | succ nn ih2 =>
      intro h_2 xL1_2 hT_2 hF_2 rL1_2 hm2
      refine pw_iload_n d248_2 rfl ?_
      refine pw_iconst d248_3 ?_
      refine pw_aload_n d248_4 rfl ?_
      refine pw_callV0 d248_5 k248_216 hT_2 hA0 rfl rfl rfl (ct216 (τ := τ) (ρ := ρ) hT_2 hA0) (fun r5 h5 q5 => ?_)
      obtain ⟨eh5, z5, ez5, lz5, uz5, pz5_0⟩ := q5
      subst eh5
      subst ez5
      refine pw_imul d248_8 ?_
      refine pw_icmp_ge d248_9 rfl (by omega) (by omega) (fun c9 => ?_) (fun c9 => ?_)
      · exact pw_return d248_42 tt248 ⟨hT_2, hF_2, rfl⟩
      · refine pw_aload_n d248_12 rfl ?_
        refine pw_getR d248_13 g248_37 hT_2 hA0 rfl rfl (fun t13 => ?_)
        have t13 : τ (ρ a0 16) = some 47 := t13
        refine pw_iload_n d248_16 rfl ?_
        refine pw_aload_n d248_17 rfl ?_
        refine pw_getR d248_18 g248_9 hT_2 hA0 rfl rfl (fun t18 => ?_)
        have t18 : τ (ρ a0 1) = some 40 := t18
        refine pw_iconst d248_21 ?_
        refine pw_ialdB d248_22 hT_2 t18 rfl rfl (by omega) (by omega) (fun u22 => ?_)
        have u22 : pv_wok ((3 : Int)) (pv_aI h_2 (ρ a0 1) ((3 : Int)).toNat) := u22
        have vu22 := u22.2.2.2.1 (by omega)
        refine pw_iast d248_23 hT_2 t13 rfl rfl rfl (by omega) (by omega) (by omega) (by omega) (fun h23 T23 F23 E23 => ?_)
        have f23 := hF_2.tr (F23.up (by decide))
        refine pw_aload_n d248_24 rfl ?_
        refine pw_getR d248_25 g248_40 T23 hA0 rfl rfl (fun t25 => ?_)
        have t25 : τ (ρ a0 17) = some 48 := t25
        refine pw_iload_n d248_28 rfl ?_
        refine pw_aload_n d248_29 rfl ?_
        refine pw_getR d248_30 g248_9 T23 hA0 rfl rfl (fun t30 => ?_)
        have t30 : τ (ρ a0 1) = some 40 := t30
        refine pw_iconst d248_33 ?_
        refine pw_ialdB d248_34 T23 t30 rfl rfl (by omega) (by omega) (fun u34 => ?_)
        have u34 : pv_wok ((4 : Int)) (pv_aI h23 (ρ a0 1) ((4 : Int)).toNat) := u34
        have vu34 := u34.2.2.2.2.1 (by omega)
        refine pw_iast d248_35 T23 t25 rfl rfl rfl (by omega) (by omega) (by omega) (by omega) (fun h35 T35 F35 E35 => ?_)
        have f35 := f23.tr (F35.up (by decide))
        refine pw_iinc d248_36 m248 rfl rfl rfl ?_
        refine pw_goto d248_39 rfl ?_
        exact ih2 h35 ((xL1_2 + 1)) T35 f35 (by omega) (by omega)
  refine pw_iconst d248_0 ?_
  refine pw_istore_n d248_1 m248 rfl rfl ?_
  exact L2 _ h (0) hT hF0 (by omega) (pv_mu _)

abbrev Q251 (τ : Nat → Option Nat) (ρ : Nat → Nat → Nat) (h : pv_H) (a0 : Nat) (x1 : Int) : Option Value → pv_H → Prop := fun r h' => h = h' ∧ ∃ z : Int, r = some (.int (pv_I z)) ∧ (-2147483648) ≤ z ∧ z ≤ 2147483647
set_option maxHeartbeats 4000000 in
set_option maxRecDepth 20000 in
/-- AngleNetModel.mostAt(I)I -/
theorem ct251 {τ : Nat → Option Nat} {ρ : Nat → Nat → Nat} {K : Nat → Nat} {h : pv_H} {a0 : Nat} {x1 : Int} (hT : pv_Ty τ ρ h) (hA0 : τ a0 = some 7) (hX1 : (-2147483648) ≤ x1 ∧ x1 ≤ 2147483647) : pv_C K 251 [.ref a0, .int (pv_I x1)] h (Q251 τ ρ h a0 x1) := by
  refine pw_entry 5 ?_
  show pv_T K 251 0 (pv_fl [some (.ref a0), some (.int (pv_I x1)), none, none, none, none, none]) [] h (Q251 τ ρ h a0 x1)
  have L4 : ∀ (nn : Nat) (xL2_4 xL3_4 : Int) (o4_4 o5_4 o6_4 : Option Value), ((-2147483648) ≤ x1 ∧ x1 ≤ 2147483647) → ((-2147483648) ≤ xL2_4 ∧ xL2_4 ≤ 2147483647) → (0 ≤ xL3_4 ∧ xL3_4 ≤ 18) → 18 - xL3_4 < nn → pv_T K 251 4 (pv_fl [some (.ref a0), some (.int (pv_I x1)), some (.int (pv_I xL2_4)), some (.int (pv_I xL3_4)), o4_4, o5_4, o6_4]) [] h (Q251 τ ρ h a0 x1) := by
    intro nn
    induction nn with
    | zero => intro xL2_4 xL3_4 o4_4 o5_4 o6_4 rL1_4 rL2_4 rL3_4 hm; exfalso; omega
    | succ nn ih4 =>
      intro xL2_4 xL3_4 o4_4 o5_4 o6_4 rL1_4 rL2_4 rL3_4 hm4
      have L21 : ∀ (nn : Nat) (xL4_21 xL5_21 xL6_21 : Int), ((-2147483648) ≤ x1 ∧ x1 ≤ 2147483647) → ((-2147483648) ≤ xL2_4 ∧ xL2_4 ≤ 2147483647) → (0 ≤ xL3_4 ∧ xL3_4 ≤ 17) → ((-2147483648) ≤ xL4_21 ∧ xL4_21 ≤ 2147483647) → ((-2147483648) ≤ xL5_21 ∧ xL5_21 ≤ 2147483647) → (0 ≤ xL6_21 ∧ xL6_21 ≤ 3) → 3 - xL6_21 < nn → pv_T K 251 21 (pv_fl [some (.ref a0), some (.int (pv_I x1)), some (.int (pv_I xL2_4)), some (.int (pv_I xL3_4)), some (.int (pv_I xL4_21)), some (.int (pv_I xL5_21)), some (.int (pv_I xL6_21))]) [] h (Q251 τ ρ h a0 x1) := by
        intro nn
        induction nn with
        | zero => intro xL4_21 xL5_21 xL6_21 rL1_21 rL2_21 rL3_21 rL4_21 rL5_21 rL6_21 hm; exfalso; omega
        | succ nn ih21 =>
          intro xL4_21 xL5_21 xL6_21 rL1_21 rL2_21 rL3_21 rL4_21 rL5_21 rL6_21 hm21
          have J94 : ∀ (xL4_94 xS0_94 : Int) (o5_94 : Option Value), ((-2147483648) ≤ x1 ∧ x1 ≤ 2147483647) → ((-2147483648) ≤ xL2_4 ∧ xL2_4 ≤ 2147483647) → (0 ≤ xL3_4 ∧ xL3_4 ≤ 17) → ((-2147483648) ≤ xL4_94 ∧ xL4_94 ≤ 2147483647) → (0 ≤ xL6_21 ∧ xL6_21 ≤ 2) → ((-2147483648) ≤ xS0_94 ∧ xS0_94 ≤ 2147483647) → ((-2147483648) ≤ xL5_21 ∧ xL5_21 ≤ 2147483647) → pv_T K 251 94 (pv_fl [some (.ref a0), some (.int (pv_I x1)), some (.int (pv_I xL2_4)), some (.int (pv_I xL3_4)), some (.int (pv_I xL4_94)), o5_94, some (.int (pv_I xL6_21))]) [.int (pv_I xS0_94), .int (pv_I xL5_21)] h (Q251 τ ρ h a0 x1) := by
            intro xL4_94 xS0_94 o5_94 rL1_94 rL2_94 rL3_94 rL4_94 rL6_94 rS0_94 rS1_94
            refine pw_iadd d251_94 ?_
            refine pw_any (fun z95 hz95 ez95 => ?_)
            refine pw_istore d251_95 m251 rfl rfl ?_
            refine pw_iinc d251_97 m251 rfl rfl rfl ?_
            refine pw_goto d251_100 rfl ?_
            exact ih21 (xL4_94) (z95) ((xL6_21 + 1)) (by omega) (by omega) (by omega) (by omega) (by omega) (by omega) (by omega)
          have J59 : ∀ (xS0_59 : Int) (o4_59 : Option Value), ((-2147483648) ≤ x1 ∧ x1 ≤ 2147483647) → ((-2147483648) ≤ xL2_4 ∧ xL2_4 ≤ 2147483647) → (0 ≤ xL3_4 ∧ xL3_4 ≤ 17) → ((-2147483648) ≤ xL5_21 ∧ xL5_21 ≤ 2147483647) → (0 ≤ xL6_21 ∧ xL6_21 ≤ 2) → ((-2147483648) ≤ xS0_59 ∧ xS0_59 ≤ 2147483647) → ((-2147483648) ≤ xL4_21 ∧ xL4_21 ≤ 2147483647) → pv_T K 251 59 (pv_fl [some (.ref a0), some (.int (pv_I x1)), some (.int (pv_I xL2_4)), some (.int (pv_I xL3_4)), o4_59, some (.int (pv_I xL5_21)), some (.int (pv_I xL6_21))]) [.int (pv_I xS0_59), .int (pv_I xL4_21)] h (Q251 τ ρ h a0 x1) := by
            intro xS0_59 o4_59 rL1_59 rL2_59 rL3_59 rL5_59 rL6_59 rS0_59 rS1_59
            refine pw_iadd d251_59 ?_
            refine pw_any (fun z60 hz60 ez60 => ?_)
            refine pw_istore d251_60 m251 rfl rfl ?_
            refine pw_iload d251_62 rfl ?_
            refine pw_iload_n d251_64 rfl ?_
            refine pw_aload_n d251_65 rfl ?_
            refine pw_iload_n d251_66 rfl ?_
            refine pw_iload d251_67 rfl ?_
            refine pw_callV2 d251_69 k251_219 hT hA0 rfl rfl rfl (ct212 (τ := τ) (ρ := ρ) hT hA0 (by omega) (by omega)) (fun r69 h69 q69 => ?_)
            obtain ⟨eh69, z69, ez69, lz69, uz69, pz69_0, pz69_1⟩ := q69
            subst eh69
            subst ez69
            refine pw_ishr d251_72 (fun z72 hz72 ez72 => ?_)
            refine pw_iconst d251_73 ?_
            refine pw_iand d251_74 (fun z74 hz74 ez74 => ?_)
            have bz74 := pv_and1_b hz74 ez74
            refine pw_iconst d251_75 ?_
            refine pw_icmp_ne d251_76 rfl (by omega) (by omega) (fun c76 => ?_) (fun c76 => ?_)
            · refine pw_aload_n d251_83 rfl ?_
              refine pw_getR d251_84 g251_37 hT hA0 rfl rfl (fun t84 => ?_)
              have t84 : τ (ρ a0 16) = some 47 := t84
              refine pw_iconst d251_87 ?_
              refine pw_iload_n d251_88 rfl ?_
              refine pw_imul d251_89 ?_
              refine pw_iload d251_90 rfl ?_
              refine pw_iadd d251_92 ?_
              refine pw_iald d251_93 hT t84 rfl rfl (by omega) (by omega) (fun u93 vu93 => ?_)
              exact J94 (z60) ((pv_aI h (ρ a0 16) (((3 * xL3_4) + xL6_21)).toNat)) _ (by omega) (by omega) (by omega) (by omega) (by omega) (by omega) (by omega)
            · refine pw_iconst d251_79 ?_
              refine pw_goto d251_80 rfl ?_
              exact J94 (z60) (0) _ (by omega) (by omega) (by omega) (by omega) (by omega) (by omega) (by omega)
          refine pw_iload d251_21 rfl ?_
          refine pw_iconst d251_23 ?_
          refine pw_icmp_ge d251_24 rfl (by omega) (by omega) (fun c24 => ?_) (fun c24 => ?_)
          · refine pw_iload_n d251_103 rfl ?_
            refine pw_iload d251_104 rfl ?_
            refine pw_aload_n d251_106 rfl ?_
            refine pw_iload_n d251_107 rfl ?_
            refine pw_iconst d251_108 ?_
            refine pw_callV2 d251_109 k251_219 hT hA0 rfl rfl rfl (ct212 (τ := τ) (ρ := ρ) hT hA0 (by omega) (by omega)) (fun r109 h109 q109 => ?_)
            obtain ⟨eh109, z109, ez109, lz109, uz109, pz109_0, pz109_1⟩ := q109
            subst eh109
            subst ez109
            refine pw_iload d251_112 rfl ?_
            refine pw_isub d251_114 ?_
            refine pw_any (fun z115 hz115 ez115 => ?_)
            refine pw_mmin d251_115 k251_112 rfl (by omega) (by omega) (fun z115b pz115b hz115b => ?_)
            refine pw_iadd d251_118 ?_
            refine pw_any (fun z119 hz119 ez119 => ?_)
            refine pw_istore_n d251_119 m251 rfl rfl ?_
            refine pw_iinc d251_120 m251 rfl rfl rfl ?_
            refine pw_goto d251_123 rfl ?_
            exact ih4 (z119) ((xL3_4 + 1)) _ _ _ (by omega) (by omega) (by omega) (by omega)
          · refine pw_iload d251_27 rfl ?_
            refine pw_iload_n d251_29 rfl ?_
            refine pw_aload_n d251_30 rfl ?_
            refine pw_iload_n d251_31 rfl ?_
            refine pw_iload d251_32 rfl ?_
            refine pw_callV2 d251_34 k251_219 hT hA0 rfl rfl rfl (ct212 (τ := τ) (ρ := ρ) hT hA0 (by omega) (by omega)) (fun r34 h34 q34 => ?_)
            obtain ⟨eh34, z34, ez34, lz34, uz34, pz34_0, pz34_1⟩ := q34
            subst eh34
            subst ez34
            refine pw_ishr d251_37 (fun z37 hz37 ez37 => ?_)
            refine pw_iconst d251_38 ?_
            refine pw_iand d251_39 (fun z39 hz39 ez39 => ?_)
            have bz39 := pv_and1_b hz39 ez39
            refine pw_iconst d251_40 ?_
            refine pw_icmp_ne d251_41 rfl (by omega) (by omega) (fun c41 => ?_) (fun c41 => ?_)
            · refine pw_iconst d251_58 ?_
              exact J59 (0) _ (by omega) (by omega) (by omega) (by omega) (by omega) (by omega) (by omega)
            · refine pw_aload_n d251_44 rfl ?_
              refine pw_getR d251_45 g251_40 hT hA0 rfl rfl (fun t45 => ?_)
              have t45 : τ (ρ a0 17) = some 48 := t45
              refine pw_iconst d251_48 ?_
              refine pw_iload_n d251_49 rfl ?_
              refine pw_imul d251_50 ?_
              refine pw_iload d251_51 rfl ?_
              refine pw_iadd d251_53 ?_
              refine pw_iald d251_54 hT t45 rfl rfl (by omega) (by omega) (fun u54 vu54 => ?_)
              refine pw_goto d251_55 rfl ?_
              exact J59 ((pv_aI h (ρ a0 17) (((3 * xL3_4) + xL6_21)).toNat)) _ (by omega) (by omega) (by omega) (by omega) (by omega) (by omega) (by omega)
      refine pw_iload_n d251_4 rfl ?_
      refine pw_aload_n d251_5 rfl ?_
      refine pw_callV0 d251_6 k251_216 hT hA0 rfl rfl rfl (ct216 (τ := τ) (ρ := ρ) hT hA0) (fun r6 h6 q6 => ?_)
      obtain ⟨eh6, z6, ez6, lz6, uz6, pz6_0⟩ := q6
      subst eh6
      subst ez6
      refine pw_icmp_ge d251_9 rfl (by omega) (by omega) (fun c9 => ?_) (fun c9 => ?_)
      · refine pw_iload_n d251_126 rfl ?_
        exact pw_ireturn d251_127 tt251 ⟨rfl, xL2_4, rfl, (by omega), (by omega)⟩
      · refine pw_iconst d251_12 ?_
        refine pw_istore d251_13 m251 rfl rfl ?_
        refine pw_iconst d251_15 ?_
        refine pw_istore d251_16 m251 rfl rfl ?_
        refine pw_iconst d251_18 ?_
        refine pw_istore d251_19 m251 rfl rfl ?_
        exact L21 _ (0) (0) (0) (by omega) (by omega) (by omega) (by omega) (by omega) (by omega) (pv_mu _)
  refine pw_iconst d251_0 ?_
  refine pw_istore_n d251_1 m251 rfl rfl ?_
  refine pw_iconst d251_2 ?_
  refine pw_istore_n d251_3 m251 rfl rfl ?_
  exact L4 _ (0) (0) _ _ _ (by omega) (by omega) (by omega) (pv_mu _)

abbrev Q252 (τ : Nat → Option Nat) (ρ : Nat → Nat → Nat) (h : pv_H) (a0 : Nat) (x1 : Int) : Option Value → pv_H → Prop := fun r h' => h = h' ∧ ∃ z : Int, r = some (.int (pv_I z)) ∧ (-2147483648) ≤ z ∧ z ≤ 2147483647
set_option maxHeartbeats 4000000 in
set_option maxRecDepth 20000 in
/-- AngleNetModel.leastAt(I)I -/
theorem ct252 {τ : Nat → Option Nat} {ρ : Nat → Nat → Nat} {K : Nat → Nat} {h : pv_H} {a0 : Nat} {x1 : Int} (hT : pv_Ty τ ρ h) (hA0 : τ a0 = some 7) (hX1 : (-2147483648) ≤ x1 ∧ x1 ≤ 2147483647) : pv_C K 252 [.ref a0, .int (pv_I x1)] h (Q252 τ ρ h a0 x1) := by
  refine pw_entry 5 ?_
  show pv_T K 252 0 (pv_fl [some (.ref a0), some (.int (pv_I x1)), none, none, none, none, none]) [] h (Q252 τ ρ h a0 x1)
  have L4 : ∀ (nn : Nat) (xL2_4 xL3_4 : Int) (o4_4 o5_4 o6_4 : Option Value), ((-2147483648) ≤ x1 ∧ x1 ≤ 2147483647) → ((-2147483648) ≤ xL2_4 ∧ xL2_4 ≤ 2147483647) → (0 ≤ xL3_4 ∧ xL3_4 ≤ 18) → 18 - xL3_4 < nn → pv_T K 252 4 (pv_fl [some (.ref a0), some (.int (pv_I x1)), some (.int (pv_I xL2_4)), some (.int (pv_I xL3_4)), o4_4, o5_4, o6_4]) [] h (Q252 τ ρ h a0 x1) := by
    intro nn
    induction nn with
    | zero => intro xL2_4 xL3_4 o4_4 o5_4 o6_4 rL1_4 rL2_4 rL3_4 hm; exfalso; omega
    | succ nn ih4 =>
      intro xL2_4 xL3_4 o4_4 o5_4 o6_4 rL1_4 rL2_4 rL3_4 hm4
      have L21 : ∀ (nn : Nat) (xL4_21 xL5_21 xL6_21 : Int), ((-2147483648) ≤ x1 ∧ x1 ≤ 2147483647) → ((-2147483648) ≤ xL2_4 ∧ xL2_4 ≤ 2147483647) → (0 ≤ xL3_4 ∧ xL3_4 ≤ 17) → ((-2147483648) ≤ xL4_21 ∧ xL4_21 ≤ 2147483647) → ((-2147483648) ≤ xL5_21 ∧ xL5_21 ≤ 2147483647) → (0 ≤ xL6_21 ∧ xL6_21 ≤ 3) → 3 - xL6_21 < nn → pv_T K 252 21 (pv_fl [some (.ref a0), some (.int (pv_I x1)), some (.int (pv_I xL2_4)), some (.int (pv_I xL3_4)), some (.int (pv_I xL4_21)), some (.int (pv_I xL5_21)), some (.int (pv_I xL6_21))]) [] h (Q252 τ ρ h a0 x1) := by
        intro nn
        induction nn with
        | zero => intro xL4_21 xL5_21 xL6_21 rL1_21 rL2_21 rL3_21 rL4_21 rL5_21 rL6_21 hm; exfalso; omega
        | succ nn ih21 =>
          intro xL4_21 xL5_21 xL6_21 rL1_21 rL2_21 rL3_21 rL4_21 rL5_21 rL6_21 hm21
          have J94 : ∀ (xL4_94 xS0_94 : Int) (o5_94 : Option Value), ((-2147483648) ≤ x1 ∧ x1 ≤ 2147483647) → ((-2147483648) ≤ xL2_4 ∧ xL2_4 ≤ 2147483647) → (0 ≤ xL3_4 ∧ xL3_4 ≤ 17) → ((-2147483648) ≤ xL4_94 ∧ xL4_94 ≤ 2147483647) → (0 ≤ xL6_21 ∧ xL6_21 ≤ 2) → ((-2147483648) ≤ xS0_94 ∧ xS0_94 ≤ 2147483647) → ((-2147483648) ≤ xL5_21 ∧ xL5_21 ≤ 2147483647) → pv_T K 252 94 (pv_fl [some (.ref a0), some (.int (pv_I x1)), some (.int (pv_I xL2_4)), some (.int (pv_I xL3_4)), some (.int (pv_I xL4_94)), o5_94, some (.int (pv_I xL6_21))]) [.int (pv_I xS0_94), .int (pv_I xL5_21)] h (Q252 τ ρ h a0 x1) := by
            intro xL4_94 xS0_94 o5_94 rL1_94 rL2_94 rL3_94 rL4_94 rL6_94 rS0_94 rS1_94
            refine pw_iadd d252_94 ?_
            refine pw_any (fun z95 hz95 ez95 => ?_)
            refine pw_istore d252_95 m252 rfl rfl ?_
            refine pw_iinc d252_97 m252 rfl rfl rfl ?_
            refine pw_goto d252_100 rfl ?_
            exact ih21 (xL4_94) (z95) ((xL6_21 + 1)) (by omega) (by omega) (by omega) (by omega) (by omega) (by omega) (by omega)
          have J59 : ∀ (xS0_59 : Int) (o4_59 : Option Value), ((-2147483648) ≤ x1 ∧ x1 ≤ 2147483647) → ((-2147483648) ≤ xL2_4 ∧ xL2_4 ≤ 2147483647) → (0 ≤ xL3_4 ∧ xL3_4 ≤ 17) → ((-2147483648) ≤ xL5_21 ∧ xL5_21 ≤ 2147483647) → (0 ≤ xL6_21 ∧ xL6_21 ≤ 2) → ((-2147483648) ≤ xS0_59 ∧ xS0_59 ≤ 2147483647) → ((-2147483648) ≤ xL4_21 ∧ xL4_21 ≤ 2147483647) → pv_T K 252 59 (pv_fl [some (.ref a0), some (.int (pv_I x1)), some (.int (pv_I xL2_4)), some (.int (pv_I xL3_4)), o4_59, some (.int (pv_I xL5_21)), some (.int (pv_I xL6_21))]) [.int (pv_I xS0_59), .int (pv_I xL4_21)] h (Q252 τ ρ h a0 x1) := by
            intro xS0_59 o4_59 rL1_59 rL2_59 rL3_59 rL5_59 rL6_59 rS0_59 rS1_59
            refine pw_iadd d252_59 ?_
            refine pw_any (fun z60 hz60 ez60 => ?_)
            refine pw_istore d252_60 m252 rfl rfl ?_
            refine pw_iload d252_62 rfl ?_
            refine pw_iload_n d252_64 rfl ?_
            refine pw_aload_n d252_65 rfl ?_
            refine pw_iload_n d252_66 rfl ?_
            refine pw_iload d252_67 rfl ?_
            refine pw_callV2 d252_69 k252_219 hT hA0 rfl rfl rfl (ct212 (τ := τ) (ρ := ρ) hT hA0 (by omega) (by omega)) (fun r69 h69 q69 => ?_)
            obtain ⟨eh69, z69, ez69, lz69, uz69, pz69_0, pz69_1⟩ := q69
            subst eh69
            subst ez69
            refine pw_ishr d252_72 (fun z72 hz72 ez72 => ?_)
            refine pw_iconst d252_73 ?_
            refine pw_iand d252_74 (fun z74 hz74 ez74 => ?_)
            have bz74 := pv_and1_b hz74 ez74
            refine pw_iconst d252_75 ?_
            refine pw_icmp_ne d252_76 rfl (by omega) (by omega) (fun c76 => ?_) (fun c76 => ?_)
            · refine pw_aload_n d252_83 rfl ?_
              refine pw_getR d252_84 g252_40 hT hA0 rfl rfl (fun t84 => ?_)
              have t84 : τ (ρ a0 17) = some 48 := t84
              refine pw_iconst d252_87 ?_
              refine pw_iload_n d252_88 rfl ?_
              refine pw_imul d252_89 ?_
              refine pw_iload d252_90 rfl ?_
              refine pw_iadd d252_92 ?_
              refine pw_iald d252_93 hT t84 rfl rfl (by omega) (by omega) (fun u93 vu93 => ?_)
              exact J94 (z60) ((pv_aI h (ρ a0 17) (((3 * xL3_4) + xL6_21)).toNat)) _ (by omega) (by omega) (by omega) (by omega) (by omega) (by omega) (by omega)
            · refine pw_iconst d252_79 ?_
              refine pw_goto d252_80 rfl ?_
              exact J94 (z60) (0) _ (by omega) (by omega) (by omega) (by omega) (by omega) (by omega) (by omega)
          refine pw_iload d252_21 rfl ?_
          refine pw_iconst d252_23 ?_
          refine pw_icmp_ge d252_24 rfl (by omega) (by omega) (fun c24 => ?_) (fun c24 => ?_)
          · refine pw_iload_n d252_103 rfl ?_
            refine pw_iload d252_104 rfl ?_
            refine pw_aload_n d252_106 rfl ?_
            refine pw_iload_n d252_107 rfl ?_
            refine pw_iconst d252_108 ?_
            refine pw_callV2 d252_109 k252_219 hT hA0 rfl rfl rfl (ct212 (τ := τ) (ρ := ρ) hT hA0 (by omega) (by omega)) (fun r109 h109 q109 => ?_)
            obtain ⟨eh109, z109, ez109, lz109, uz109, pz109_0, pz109_1⟩ := q109
            subst eh109
            subst ez109
            refine pw_iload d252_112 rfl ?_
            refine pw_isub d252_114 ?_
            refine pw_any (fun z115 hz115 ez115 => ?_)
            refine pw_mmax d252_115 k252_301 rfl (by omega) (by omega) (fun z115b pz115b hz115b => ?_)
            refine pw_iadd d252_118 ?_
            refine pw_any (fun z119 hz119 ez119 => ?_)
            refine pw_istore_n d252_119 m252 rfl rfl ?_
            refine pw_iinc d252_120 m252 rfl rfl rfl ?_
            refine pw_goto d252_123 rfl ?_
            exact ih4 (z119) ((xL3_4 + 1)) _ _ _ (by omega) (by omega) (by omega) (by omega)
          · refine pw_iload d252_27 rfl ?_
            refine pw_iload_n d252_29 rfl ?_
            refine pw_aload_n d252_30 rfl ?_
            refine pw_iload_n d252_31 rfl ?_
            refine pw_iload d252_32 rfl ?_
            refine pw_callV2 d252_34 k252_219 hT hA0 rfl rfl rfl (ct212 (τ := τ) (ρ := ρ) hT hA0 (by omega) (by omega)) (fun r34 h34 q34 => ?_)
            obtain ⟨eh34, z34, ez34, lz34, uz34, pz34_0, pz34_1⟩ := q34
            subst eh34
            subst ez34
            refine pw_ishr d252_37 (fun z37 hz37 ez37 => ?_)
            refine pw_iconst d252_38 ?_
            refine pw_iand d252_39 (fun z39 hz39 ez39 => ?_)
            have bz39 := pv_and1_b hz39 ez39
            refine pw_iconst d252_40 ?_
            refine pw_icmp_ne d252_41 rfl (by omega) (by omega) (fun c41 => ?_) (fun c41 => ?_)
            · refine pw_iconst d252_58 ?_
              exact J59 (0) _ (by omega) (by omega) (by omega) (by omega) (by omega) (by omega) (by omega)
            · refine pw_aload_n d252_44 rfl ?_
              refine pw_getR d252_45 g252_37 hT hA0 rfl rfl (fun t45 => ?_)
              have t45 : τ (ρ a0 16) = some 47 := t45
              refine pw_iconst d252_48 ?_
              refine pw_iload_n d252_49 rfl ?_
              refine pw_imul d252_50 ?_
              refine pw_iload d252_51 rfl ?_
              refine pw_iadd d252_53 ?_
              refine pw_iald d252_54 hT t45 rfl rfl (by omega) (by omega) (fun u54 vu54 => ?_)
              refine pw_goto d252_55 rfl ?_
              exact J59 ((pv_aI h (ρ a0 16) (((3 * xL3_4) + xL6_21)).toNat)) _ (by omega) (by omega) (by omega) (by omega) (by omega) (by omega) (by omega)
      refine pw_iload_n d252_4 rfl ?_
      refine pw_aload_n d252_5 rfl ?_
      refine pw_callV0 d252_6 k252_216 hT hA0 rfl rfl rfl (ct216 (τ := τ) (ρ := ρ) hT hA0) (fun r6 h6 q6 => ?_)
      obtain ⟨eh6, z6, ez6, lz6, uz6, pz6_0⟩ := q6
      subst eh6
      subst ez6
      refine pw_icmp_ge d252_9 rfl (by omega) (by omega) (fun c9 => ?_) (fun c9 => ?_)
      · refine pw_iload_n d252_126 rfl ?_
        exact pw_ireturn d252_127 tt252 ⟨rfl, xL2_4, rfl, (by omega), (by omega)⟩
      · refine pw_iconst d252_12 ?_
        refine pw_istore d252_13 m252 rfl rfl ?_
        refine pw_iconst d252_15 ?_
        refine pw_istore d252_16 m252 rfl rfl ?_
        refine pw_iconst d252_18 ?_
        refine pw_istore d252_19 m252 rfl rfl ?_
        exact L21 _ (0) (0) (0) (by omega) (by omega) (by omega) (by omega) (by omega) (by omega) (pv_mu _)
  refine pw_iconst d252_0 ?_
  refine pw_istore_n d252_1 m252 rfl rfl ?_
  refine pw_iconst d252_2 ?_
  refine pw_istore_n d252_3 m252 rfl rfl ?_
  exact L4 _ (0) (0) _ _ _ (by omega) (by omega) (by omega) (pv_mu _)

abbrev Q245 (τ : Nat → Option Nat) (ρ : Nat → Nat → Nat) (h : pv_H) (a0 : Nat) : Option Value → pv_H → Prop := fun r h' => h = h' ∧ ∃ z : Int, r = some (.int (pv_I z)) ∧ 0 ≤ z ∧ z ≤ 1023
set_option maxHeartbeats 4000000 in
set_option maxRecDepth 20000 in
/-- AngleNetModel.toldPosts()I -/
theorem ct245 {τ : Nat → Option Nat} {ρ : Nat → Nat → Nat} {K : Nat → Nat} {h : pv_H} {a0 : Nat} (hT : pv_Ty τ ρ h) (hA0 : τ a0 = some 7) : pv_C K 245 [.ref a0] h (Q245 τ ρ h a0) := by
  refine pw_entry 2 ?_
  show pv_T K 245 0 (pv_fl [some (.ref a0), none, none]) [] h (Q245 τ ρ h a0)
  have L4 : ∀ (nn : Nat) (xL1_4 xL2_4 : Int), (0 ≤ xL1_4 ∧ xL1_4 ≤ 1023) → (0 ≤ xL2_4 ∧ xL2_4 ≤ 10) → 10 - xL2_4 < nn → pv_T K 245 4 (pv_fl [some (.ref a0), some (.int (pv_I xL1_4)), some (.int (pv_I xL2_4))]) [] h (Q245 τ ρ h a0) := by
    intro nn
    induction nn with
    | zero => intro xL1_4 xL2_4 rL1_4 rL2_4 hm; exfalso; omega
    | succ nn ih4 =>
      intro xL1_4 xL2_4 rL1_4 rL2_4 hm4
      have J32 : ∀ (xS0_32 : Int) (o1_32 : Option Value), (0 ≤ xL2_4 ∧ xL2_4 ≤ 9) → (0 ≤ xS0_32 ∧ xS0_32 ≤ 540) → (0 ≤ xL1_4 ∧ xL1_4 ≤ 1023) → pv_T K 245 32 (pv_fl [some (.ref a0), o1_32, some (.int (pv_I xL2_4))]) [.int (pv_I xS0_32), .int (pv_I xL1_4)] h (Q245 τ ρ h a0) := by
        intro xS0_32 o1_32 rL2_32 rS0_32 rS1_32
        refine pw_ior d245_32 (fun z32 hz32 ez32 => ?_)
        have bz32 := pv_or_b (n := 10) (m := 1024) (x := xL1_4) (y := xS0_32) (by omega) (by omega) (by omega) (by omega) (by decide) (by decide) hz32 ez32
        refine pw_istore_n d245_33 m245 rfl rfl ?_
        refine pw_iinc d245_34 m245 rfl rfl rfl ?_
        refine pw_goto d245_37 rfl ?_
        exact ih4 (z32) ((xL2_4 + 1)) (by omega) (by omega) (by omega)
      refine pw_iload_n d245_4 rfl ?_
      refine pw_aload_n d245_5 rfl ?_
      refine pw_getR d245_6 g245_9 hT hA0 rfl rfl (fun t6 => ?_)
      have t6 : τ (ρ a0 1) = some 40 := t6
      refine pw_iconst d245_9 ?_
      refine pw_ialdB d245_10 hT t6 rfl rfl (by omega) (by omega) (fun u10 => ?_)
      have u10 : pv_wok ((0 : Int)) (pv_aI h (ρ a0 1) ((0 : Int)).toNat) := u10
      have vu10 := u10.2.1 (by omega)
      refine pw_icmp_ge d245_11 rfl (by omega) (by omega) (fun c11 => ?_) (fun c11 => ?_)
      · refine pw_iload_n d245_40 rfl ?_
        exact pw_ireturn d245_41 tt245 ⟨rfl, xL1_4, rfl, (by omega), (by omega)⟩
      · refine pw_iload_n d245_14 rfl ?_
        refine pw_aload_n d245_15 rfl ?_
        refine pw_iload_n d245_16 rfl ?_
        refine pw_iconst d245_17 ?_
        refine pw_callV2 d245_18 k245_232 hT hA0 rfl rfl rfl (ct215 (τ := τ) (ρ := ρ) hT hA0 (by omega) (by omega)) (fun r18 h18 q18 => ?_)
        obtain ⟨eh18, z18, ez18, lz18, uz18, pz18_0⟩ := q18
        subst eh18
        subst ez18
        refine pw_iconst d245_21 ?_
        refine pw_icmp_eq d245_22 rfl (by omega) (by omega) (fun c22 => ?_) (fun c22 => ?_)
        · refine pw_iconst d245_31 ?_
          exact J32 (0) _ (by omega) (by omega) (by omega)
        · refine pw_iconst d245_25 ?_
          refine pw_iload_n d245_26 rfl ?_
          refine pw_ishl d245_27 (fun z27 hz27 ez27 => ?_)
          have bz27 := pv_shl1_b (n := 9) (m := 512) (y := xL2_4) (by omega) (by omega) (by decide) (by decide) hz27 ez27
          refine pw_goto d245_28 rfl ?_
          exact J32 (z27) _ (by omega) (by omega) (by omega)
  refine pw_iconst d245_0 ?_
  refine pw_istore_n d245_1 m245 rfl rfl ?_
  refine pw_iconst d245_2 ?_
  refine pw_istore_n d245_3 m245 rfl rfl ?_
  exact L4 _ (0) (0) (by omega) (by omega) (pv_mu _)

abbrev Q246 (τ : Nat → Option Nat) (ρ : Nat → Nat → Nat) (h : pv_H) (a0 : Nat) (x1 : Int) : Option Value → pv_H → Prop := fun r h' => h = h' ∧ ∃ z : Int, r = some (.int (pv_I z)) ∧ (-2147483648) ≤ z ∧ z ≤ 2147483647
set_option maxHeartbeats 4000000 in
set_option maxRecDepth 20000 in
/-- AngleNetModel.anglesOf(I)I -/
theorem ct246 {τ : Nat → Option Nat} {ρ : Nat → Nat → Nat} {K : Nat → Nat} {h : pv_H} {a0 : Nat} {x1 : Int} (hT : pv_Ty τ ρ h) (hA0 : τ a0 = some 7) (hX1 : (-2147483648) ≤ x1 ∧ x1 ≤ 2147483647) : pv_C K 246 [.ref a0, .int (pv_I x1)] h (Q246 τ ρ h a0 x1) := by
  refine pw_entry 2 ?_
  show pv_T K 246 0 (pv_fl [some (.ref a0), some (.int (pv_I x1)), none, none]) [] h (Q246 τ ρ h a0 x1)
  have L4 : ∀ (nn : Nat) (xL2_4 xL3_4 : Int), ((-2147483648) ≤ x1 ∧ x1 ≤ 2147483647) → ((-2147483648) ≤ xL2_4 ∧ xL2_4 ≤ 2147483647) → (0 ≤ xL3_4 ∧ xL3_4 ≤ 10) → 10 - xL3_4 < nn → pv_T K 246 4 (pv_fl [some (.ref a0), some (.int (pv_I x1)), some (.int (pv_I xL2_4)), some (.int (pv_I xL3_4))]) [] h (Q246 τ ρ h a0 x1) := by
    intro nn
    induction nn with
    | zero => intro xL2_4 xL3_4 rL1_4 rL2_4 rL3_4 hm; exfalso; omega
    | succ nn ih4 =>
      intro xL2_4 xL3_4 rL1_4 rL2_4 rL3_4 hm4
      have J34 : ∀ (xS0_34 : Int) (o2_34 : Option Value), ((-2147483648) ≤ x1 ∧ x1 ≤ 2147483647) → (0 ≤ xL3_4 ∧ xL3_4 ≤ 9) → ((-1) ≤ xS0_34 ∧ xS0_34 ≤ 9999) → ((-2147483648) ≤ xL2_4 ∧ xL2_4 ≤ 2147483647) → pv_T K 246 34 (pv_fl [some (.ref a0), some (.int (pv_I x1)), o2_34, some (.int (pv_I xL3_4))]) [.int (pv_I xS0_34), .int (pv_I xL2_4)] h (Q246 τ ρ h a0 x1) := by
        intro xS0_34 o2_34 rL1_34 rL3_34 rS0_34 rS1_34
        refine pw_iadd d246_34 ?_
        refine pw_any (fun z35 hz35 ez35 => ?_)
        refine pw_istore_n d246_35 m246 rfl rfl ?_
        refine pw_iinc d246_36 m246 rfl rfl rfl ?_
        refine pw_goto d246_39 rfl ?_
        exact ih4 (z35) ((xL3_4 + 1)) (by omega) (by omega) (by omega) (by omega)
      refine pw_iload_n d246_4 rfl ?_
      refine pw_aload_n d246_5 rfl ?_
      refine pw_getR d246_6 g246_9 hT hA0 rfl rfl (fun t6 => ?_)
      have t6 : τ (ρ a0 1) = some 40 := t6
      refine pw_iconst d246_9 ?_
      refine pw_ialdB d246_10 hT t6 rfl rfl (by omega) (by omega) (fun u10 => ?_)
      have u10 : pv_wok ((0 : Int)) (pv_aI h (ρ a0 1) ((0 : Int)).toNat) := u10
      have vu10 := u10.2.1 (by omega)
      refine pw_icmp_ge d246_11 rfl (by omega) (by omega) (fun c11 => ?_) (fun c11 => ?_)
      · refine pw_iload_n d246_42 rfl ?_
        exact pw_ireturn d246_43 tt246 ⟨rfl, xL2_4, rfl, (by omega), (by omega)⟩
      · refine pw_iload_n d246_14 rfl ?_
        refine pw_iload_n d246_15 rfl ?_
        refine pw_iload_n d246_16 rfl ?_
        refine pw_ishr d246_17 (fun z17 hz17 ez17 => ?_)
        refine pw_iconst d246_18 ?_
        refine pw_iand d246_19 (fun z19 hz19 ez19 => ?_)
        have bz19 := pv_and1_b hz19 ez19
        refine pw_iconst d246_20 ?_
        refine pw_icmp_ne d246_21 rfl (by omega) (by omega) (fun c21 => ?_) (fun c21 => ?_)
        · refine pw_iconst d246_33 ?_
          exact J34 (0) _ (by omega) (by omega) (by omega) (by omega)
        · refine pw_aload_n d246_24 rfl ?_
          refine pw_iload_n d246_25 rfl ?_
          refine pw_iconst d246_26 ?_
          refine pw_callV2 d246_27 k246_232 hT hA0 rfl rfl rfl (ct215 (τ := τ) (ρ := ρ) hT hA0 (by omega) (by omega)) (fun r27 h27 q27 => ?_)
          obtain ⟨eh27, z27, ez27, lz27, uz27, pz27_0⟩ := q27
          subst eh27
          subst ez27
          refine pw_goto d246_30 rfl ?_
          exact J34 (z27) _ (by omega) (by omega) (by omega) (by omega)
  refine pw_iconst d246_0 ?_
  refine pw_istore_n d246_1 m246 rfl rfl ?_
  refine pw_iconst d246_2 ?_
  refine pw_istore_n d246_3 m246 rfl rfl ?_
  exact L4 _ (0) (0) (by omega) (by omega) (by omega) (pv_mu _)

abbrev Q250 (τ : Nat → Option Nat) (ρ : Nat → Nat → Nat) (h : pv_H) (a0 : Nat) (x1 : Int) : Option Value → pv_H → Prop := fun r h' => h = h' ∧ ∃ z : Int, r = some (.int (pv_I z)) ∧ 0 ≤ z ∧ z ≤ 2
set_option maxHeartbeats 4000000 in
set_option maxRecDepth 20000 in
/-- AngleNetModel.barsBy(I)I -/
theorem ct250 {τ : Nat → Option Nat} {ρ : Nat → Nat → Nat} {K : Nat → Nat} {h : pv_H} {a0 : Nat} {x1 : Int} (hT : pv_Ty τ ρ h) (hA0 : τ a0 = some 7) (hX1 : (-2147483648) ≤ x1 ∧ x1 ≤ 2147483647) : pv_C K 250 [.ref a0, .int (pv_I x1)] h (Q250 τ ρ h a0 x1) := by
  refine pw_entry 1 ?_
  show pv_T K 250 0 (pv_fl [some (.ref a0), some (.int (pv_I x1)), none]) [] h (Q250 τ ρ h a0 x1)
  refine pw_aload_n d250_0 rfl ?_
  refine pw_iload_n d250_1 rfl ?_
  refine pw_callV1 d250_2 k250_304 hT hA0 rfl rfl rfl (ct246 (τ := τ) (ρ := ρ) hT hA0 (by omega)) (fun r2 h2 q2 => ?_)
  obtain ⟨eh2, z2, ez2, lz2, uz2⟩ := q2
  subst eh2
  subst ez2
  refine pw_istore_n d250_5 m250 rfl rfl ?_
  refine pw_iload_n d250_6 rfl ?_
  refine pw_aload_n d250_7 rfl ?_
  refine pw_iload_n d250_8 rfl ?_
  refine pw_callV1 d250_9 k250_307 hT hA0 rfl rfl rfl (ct251 (τ := τ) (ρ := ρ) hT hA0 (by omega)) (fun r9 h9 q9 => ?_)
  obtain ⟨eh9, z9, ez9, lz9, uz9⟩ := q9
  subst eh9
  subst ez9
  refine pw_icmp_le d250_12 rfl (by omega) (by omega) (fun c12 => ?_) (fun c12 => ?_)
  · refine pw_iload_n d250_19 rfl ?_
    refine pw_aload_n d250_20 rfl ?_
    refine pw_iload_n d250_21 rfl ?_
    refine pw_callV1 d250_22 k250_310 hT hA0 rfl rfl rfl (ct252 (τ := τ) (ρ := ρ) hT hA0 (by omega)) (fun r22 h22 q22 => ?_)
    obtain ⟨eh22, z22, ez22, lz22, uz22⟩ := q22
    subst eh22
    subst ez22
    refine pw_icmp_ge d250_25 rfl (by omega) (by omega) (fun c25 => ?_) (fun c25 => ?_)
    · refine pw_iconst d250_32 ?_
      exact pw_ireturn d250_33 tt250 ⟨rfl, 0, rfl, (by omega), (by omega)⟩
    · refine pw_iconst d250_28 ?_
      refine pw_goto d250_29 rfl ?_
      exact pw_ireturn d250_33 tt250 ⟨rfl, 2, rfl, (by omega), (by omega)⟩
  · refine pw_iconst d250_15 ?_
    refine pw_goto d250_16 rfl ?_
    exact pw_ireturn d250_33 tt250 ⟨rfl, 1, rfl, (by omega), (by omega)⟩

abbrev Q254 (τ : Nat → Option Nat) (ρ : Nat → Nat → Nat) (h : pv_H) (a0 : Nat) : Option Value → pv_H → Prop := fun r h' => h = h' ∧ ∃ z : Int, r = some (.int (pv_I z)) ∧ (-1) ≤ z ∧ z ≤ 1023
set_option maxHeartbeats 4000000 in
set_option maxRecDepth 20000 in
/-- AngleNetModel.barring()I -/
theorem ct254 {τ : Nat → Option Nat} {ρ : Nat → Nat → Nat} {K : Nat → Nat} {h : pv_H} {a0 : Nat} (hT : pv_Ty τ ρ h) (hA0 : τ a0 = some 7) : pv_C K 254 [.ref a0] h (Q254 τ ρ h a0) := by
  refine pw_entry 3 ?_
  show pv_T K 254 0 (pv_fl [some (.ref a0), none, none, none]) [] h (Q254 τ ρ h a0)
  have L9 : ∀ (nn : Nat) (xL1_9 xL2_9 xL3_9 : Int), (0 ≤ xL1_9 ∧ xL1_9 ≤ 1023) → ((-1) ≤ xL2_9 ∧ xL2_9 ≤ 1023) → (0 ≤ xL3_9 ∧ xL3_9 ≤ 1024) → 1024 - xL3_9 < nn → pv_T K 254 9 (pv_fl [some (.ref a0), some (.int (pv_I xL1_9)), some (.int (pv_I xL2_9)), some (.int (pv_I xL3_9))]) [] h (Q254 τ ρ h a0) := by
    intro nn
    induction nn with
    | zero => intro xL1_9 xL2_9 xL3_9 rL1_9 rL2_9 rL3_9 hm; exfalso; omega
    | succ nn ih9 =>
      intro xL1_9 xL2_9 xL3_9 rL1_9 rL2_9 rL3_9 hm9
      have J58 : ∀ (xL2_58 : Int), (0 ≤ xL1_9 ∧ xL1_9 ≤ 1023) → ((-1) ≤ xL2_58 ∧ xL2_58 ≤ 1023) → (0 ≤ xL3_9 ∧ xL3_9 ≤ 1023) → pv_T K 254 58 (pv_fl [some (.ref a0), some (.int (pv_I xL1_9)), some (.int (pv_I xL2_58)), some (.int (pv_I xL3_9))]) [] h (Q254 τ ρ h a0) := by
        intro xL2_58 rL1_58 rL2_58 rL3_58
        refine pw_iinc d254_58 m254 rfl rfl rfl ?_
        refine pw_goto d254_61 rfl ?_
        exact ih9 (xL1_9) (xL2_58) ((xL3_9 + 1)) (by omega) (by omega) (by omega) (by omega)
      have J45 : ∀ (_ : Unit), (0 ≤ xL1_9 ∧ xL1_9 ≤ 1023) → ((-1) ≤ xL2_9 ∧ xL2_9 ≤ 1023) → (0 ≤ xL3_9 ∧ xL3_9 ≤ 1023) → pv_T K 254 45 (pv_fl [some (.ref a0), some (.int (pv_I xL1_9)), some (.int (pv_I xL2_9)), some (.int (pv_I xL3_9))]) [] h (Q254 τ ρ h a0) := by
        intro _ rL1_45 rL2_45 rL3_45
        refine pw_aload_n d254_45 rfl ?_
        refine pw_iload_n d254_46 rfl ?_
        refine pw_callV1 d254_47 k254_316 hT hA0 rfl rfl rfl (ct250 (τ := τ) (ρ := ρ) hT hA0 (by omega)) (fun r47 h47 q47 => ?_)
        obtain ⟨eh47, z47, ez47, lz47, uz47⟩ := q47
        subst eh47
        subst ez47
        refine pw_if_ne d254_50 rfl (by omega) (fun c50 => ?_) (fun c50 => ?_)
        · refine pw_iload_n d254_56 rfl ?_
          refine pw_istore_n d254_57 m254 rfl rfl ?_
          exact J58 (xL3_9) (by omega) (by omega) (by omega)
        · refine pw_goto d254_53 rfl ?_
          exact J58 (xL2_9) (by omega) (by omega) (by omega)
      refine pw_iload_n d254_9 rfl ?_
      refine pw_iconst d254_10 ?_
      refine pw_aload_n d254_11 rfl ?_
      refine pw_getR d254_12 g254_9 hT hA0 rfl rfl (fun t12 => ?_)
      have t12 : τ (ρ a0 1) = some 40 := t12
      refine pw_iconst d254_15 ?_
      refine pw_ialdB d254_16 hT t12 rfl rfl (by omega) (by omega) (fun u16 => ?_)
      have u16 : pv_wok ((0 : Int)) (pv_aI h (ρ a0 1) ((0 : Int)).toNat) := u16
      have vu16 := u16.2.1 (by omega)
      refine pw_ishl d254_17 (fun z17 hz17 ez17 => ?_)
      have bz17 := pv_shl1_b (n := 10) (m := 1024) (y := (pv_aI h (ρ a0 1) ((0 : Int)).toNat)) (by omega) (by omega) (by decide) (by decide) hz17 ez17
      refine pw_icmp_ge d254_18 rfl (by omega) (by omega) (fun c18 => ?_) (fun c18 => ?_)
      · refine pw_iload_n d254_64 rfl ?_
        exact pw_ireturn d254_65 tt254 ⟨rfl, xL2_9, rfl, (by omega), (by omega)⟩
      · refine pw_iload_n d254_21 rfl ?_
        refine pw_iload_n d254_22 rfl ?_
        refine pw_iconst d254_23 ?_
        refine pw_ixor d254_24 (fun z24 hz24 ez24 => ?_)
        refine pw_iand d254_25 (fun z25 hz25 ez25 => ?_)
        refine pw_if_ne d254_26 rfl (by omega) (fun c26 => ?_) (fun c26 => ?_)
        · exact J58 (xL2_9) (by omega) (by omega) (by omega)
        · refine pw_iload_n d254_29 rfl ?_
          refine pw_iconst d254_30 ?_
          refine pw_icmp_eq d254_31 rfl (by omega) (by omega) (fun c31 => ?_) (fun c31 => ?_)
          · exact J45 () (by omega) (by omega) (by omega)
          · refine pw_iload_n d254_34 rfl ?_
            refine pw_callS1 d254_35 k254_262 rfl rfl (ct227 (τ := τ) (ρ := ρ) (by omega)) (fun r35 h35 q35 => ?_)
            obtain ⟨eh35, z35, ez35, lz35, uz35⟩ := q35
            subst eh35
            subst ez35
            refine pw_iload_n d254_38 rfl ?_
            refine pw_callS1 d254_39 k254_262 rfl rfl (ct227 (τ := τ) (ρ := ρ) (by omega)) (fun r39 h39 q39 => ?_)
            obtain ⟨eh39, z39, ez39, lz39, uz39⟩ := q39
            subst eh39
            subst ez39
            refine pw_icmp_ge d254_42 rfl (by omega) (by omega) (fun c42 => ?_) (fun c42 => ?_)
            · exact J58 (xL2_9) (by omega) (by omega) (by omega)
            · exact J45 () (by omega) (by omega) (by omega)
  refine pw_aload_n d254_0 rfl ?_
  refine pw_callV0 d254_1 k254_313 hT hA0 rfl rfl rfl (ct245 (τ := τ) (ρ := ρ) hT hA0) (fun r1 h1 q1 => ?_)
  obtain ⟨eh1, z1, ez1, lz1, uz1⟩ := q1
  subst eh1
  subst ez1
  refine pw_istore_n d254_4 m254 rfl rfl ?_
  refine pw_iconst d254_5 ?_
  refine pw_istore_n d254_6 m254 rfl rfl ?_
  refine pw_iconst d254_7 ?_
  refine pw_istore_n d254_8 m254 rfl rfl ?_
  exact L9 _ (z1) ((-1)) (0) (by omega) (by omega) (by omega) (pv_mu _)

abbrev Q249 (τ : Nat → Option Nat) (ρ : Nat → Nat → Nat) (h : pv_H) (a0 : Nat) : Option Value → pv_H → Prop := fun r h' => h = h' ∧ ∃ z : Int, r = some (.int (pv_I z)) ∧ 0 ≤ z ∧ z ≤ 1
set_option maxHeartbeats 4000000 in
set_option maxRecDepth 20000 in
/-- AngleNetModel.canLay()Z -/
theorem ct249 {τ : Nat → Option Nat} {ρ : Nat → Nat → Nat} {K : Nat → Nat} {h : pv_H} {a0 : Nat} (hT : pv_Ty τ ρ h) (hA0 : τ a0 = some 7) : pv_C K 249 [.ref a0] h (Q249 τ ρ h a0) := by
  refine pw_entry 2 ?_
  show pv_T K 249 0 (pv_fl [some (.ref a0), none, none]) [] h (Q249 τ ρ h a0)
  have L7 : ∀ (nn : Nat) (xL1_7 xL2_7 : Int), (0 ≤ xL1_7 ∧ xL1_7 ≤ 1023) → (0 ≤ xL2_7 ∧ xL2_7 ≤ 1024) → 1024 - xL2_7 < nn → pv_T K 249 7 (pv_fl [some (.ref a0), some (.int (pv_I xL1_7)), some (.int (pv_I xL2_7))]) [] h (Q249 τ ρ h a0) := by
    intro nn
    induction nn with
    | zero => intro xL1_7 xL2_7 rL1_7 rL2_7 hm; exfalso; omega
    | succ nn ih7 =>
      intro xL1_7 xL2_7 rL1_7 rL2_7 hm7
      have J37 : ∀ (_ : Unit), (0 ≤ xL1_7 ∧ xL1_7 ≤ 1023) → (0 ≤ xL2_7 ∧ xL2_7 ≤ 1023) → pv_T K 249 37 (pv_fl [some (.ref a0), some (.int (pv_I xL1_7)), some (.int (pv_I xL2_7))]) [] h (Q249 τ ρ h a0) := by
        intro _ rL1_37 rL2_37
        refine pw_iinc d249_37 m249 rfl rfl rfl ?_
        refine pw_goto d249_40 rfl ?_
        exact ih7 (xL1_7) ((xL2_7 + 1)) (by omega) (by omega) (by omega)
      refine pw_iload_n d249_7 rfl ?_
      refine pw_iconst d249_8 ?_
      refine pw_aload_n d249_9 rfl ?_
      refine pw_getR d249_10 g249_9 hT hA0 rfl rfl (fun t10 => ?_)
      have t10 : τ (ρ a0 1) = some 40 := t10
      refine pw_iconst d249_13 ?_
      refine pw_ialdB d249_14 hT t10 rfl rfl (by omega) (by omega) (fun u14 => ?_)
      have u14 : pv_wok ((0 : Int)) (pv_aI h (ρ a0 1) ((0 : Int)).toNat) := u14
      have vu14 := u14.2.1 (by omega)
      refine pw_ishl d249_15 (fun z15 hz15 ez15 => ?_)
      have bz15 := pv_shl1_b (n := 10) (m := 1024) (y := (pv_aI h (ρ a0 1) ((0 : Int)).toNat)) (by omega) (by omega) (by decide) (by decide) hz15 ez15
      refine pw_icmp_ge d249_16 rfl (by omega) (by omega) (fun c16 => ?_) (fun c16 => ?_)
      · refine pw_iconst d249_43 ?_
        exact pw_zreturn d249_44 tt249 (by omega) ⟨rfl, 1, rfl, (by omega), (by omega)⟩
      · refine pw_iload_n d249_19 rfl ?_
        refine pw_iload_n d249_20 rfl ?_
        refine pw_iconst d249_21 ?_
        refine pw_ixor d249_22 (fun z22 hz22 ez22 => ?_)
        refine pw_iand d249_23 (fun z23 hz23 ez23 => ?_)
        refine pw_if_ne d249_24 rfl (by omega) (fun c24 => ?_) (fun c24 => ?_)
        · exact J37 () (by omega) (by omega)
        · refine pw_aload_n d249_27 rfl ?_
          refine pw_iload_n d249_28 rfl ?_
          refine pw_callV1 d249_29 k249_316 hT hA0 rfl rfl rfl (ct250 (τ := τ) (ρ := ρ) hT hA0 (by omega)) (fun r29 h29 q29 => ?_)
          obtain ⟨eh29, z29, ez29, lz29, uz29⟩ := q29
          subst eh29
          subst ez29
          refine pw_if_eq d249_32 rfl (by omega) (fun c32 => ?_) (fun c32 => ?_)
          · exact J37 () (by omega) (by omega)
          · refine pw_iconst d249_35 ?_
            exact pw_zreturn d249_36 tt249 (by omega) ⟨rfl, 0, rfl, (by omega), (by omega)⟩
  refine pw_aload_n d249_0 rfl ?_
  refine pw_callV0 d249_1 k249_313 hT hA0 rfl rfl rfl (ct245 (τ := τ) (ρ := ρ) hT hA0) (fun r1 h1 q1 => ?_)
  obtain ⟨eh1, z1, ez1, lz1, uz1⟩ := q1
  subst eh1
  subst ez1
  refine pw_istore_n d249_4 m249 rfl rfl ?_
  refine pw_iconst d249_5 ?_
  refine pw_istore_n d249_6 m249 rfl rfl ?_
  exact L7 _ (z1) (0) (by omega) (by omega) (pv_mu _)

abbrev Q244 (τ : Nat → Option Nat) (ρ : Nat → Nat → Nat) (h : pv_H) (a0 : Nat) : Option Value → pv_H → Prop := fun r h' => h = h' ∧ ∃ z : Int, r = some (.int (pv_I z)) ∧ (-2147483648) ≤ z ∧ z ≤ 2147483647
set_option maxHeartbeats 4000000 in
set_option maxRecDepth 20000 in
/-- AngleNetModel.over()I -/
theorem ct244 {τ : Nat → Option Nat} {ρ : Nat → Nat → Nat} {K : Nat → Nat} {h : pv_H} {a0 : Nat} (hT : pv_Ty τ ρ h) (hA0 : τ a0 = some 7) : pv_C K 244 [.ref a0] h (Q244 τ ρ h a0) := by
  refine pw_entry 3 ?_
  show pv_T K 244 0 (pv_fl [some (.ref a0), none, none, none]) [] h (Q244 τ ρ h a0)
  have L39 : ∀ (nn : Nat) (xL2_39 xL3_39 : Int) (o1_39 : Option Value), ((-2147483648) ≤ xL2_39 ∧ xL2_39 ≤ 2147483647) → (0 ≤ xL3_39 ∧ xL3_39 ≤ 18) → 18 - xL3_39 < nn → pv_T K 244 39 (pv_fl [some (.ref a0), o1_39, some (.int (pv_I xL2_39)), some (.int (pv_I xL3_39))]) [] h (Q244 τ ρ h a0) := by
    intro nn
    induction nn with
    | zero => intro xL2_39 xL3_39 o1_39 rL2_39 rL3_39 hm; exfalso; omega
    | succ nn ih39 =>
      intro xL2_39 xL3_39 o1_39 rL2_39 rL3_39 hm39
      refine pw_iload_n d244_39 rfl ?_
      refine pw_aload_n d244_40 rfl ?_
      refine pw_callV0 d244_41 k244_216 hT hA0 rfl rfl rfl (ct216 (τ := τ) (ρ := ρ) hT hA0) (fun r41 h41 q41 => ?_)
      obtain ⟨eh41, z41, ez41, lz41, uz41, pz41_0⟩ := q41
      subst eh41
      subst ez41
      refine pw_icmp_ge d244_44 rfl (by omega) (by omega) (fun c44 => ?_) (fun c44 => ?_)
      · refine pw_iload_n d244_62 rfl ?_
        exact pw_ireturn d244_63 tt244 ⟨rfl, xL2_39, rfl, (by omega), (by omega)⟩
      · refine pw_iload_n d244_47 rfl ?_
        refine pw_aload_n d244_48 rfl ?_
        refine pw_iload_n d244_49 rfl ?_
        refine pw_iconst d244_50 ?_
        refine pw_callV2 d244_51 k244_219 hT hA0 rfl rfl rfl (ct212 (τ := τ) (ρ := ρ) hT hA0 (by omega) (by omega)) (fun r51 h51 q51 => ?_)
        obtain ⟨eh51, z51, ez51, lz51, uz51, pz51_0, pz51_1⟩ := q51
        subst eh51
        subst ez51
        refine pw_isub d244_54 ?_
        refine pw_any (fun z55 hz55 ez55 => ?_)
        refine pw_istore_n d244_55 m244 rfl rfl ?_
        refine pw_iinc d244_56 m244 rfl rfl rfl ?_
        refine pw_goto d244_59 rfl ?_
        exact ih39 (z55) ((xL3_39 + 1)) _ (by omega) (by omega) (by omega)
  refine pw_aload_n d244_0 rfl ?_
  refine pw_callV0 d244_1 k244_283 hT hA0 rfl rfl rfl (ct224 (τ := τ) (ρ := ρ) hT hA0) (fun r1 h1 q1 => ?_)
  obtain ⟨eh1, z1, ez1, lz1, uz1⟩ := q1
  subst eh1
  subst ez1
  refine pw_if_ne d244_4 rfl (by omega) (fun c4 => ?_) (fun c4 => ?_)
  · refine pw_aload_n d244_11 rfl ?_
    refine pw_callV0 d244_12 k244_259 hT hA0 rfl rfl rfl (ct226 (τ := τ) (ρ := ρ) hT hA0) (fun r12 h12 q12 => ?_)
    obtain ⟨eh12, z12, ez12, lz12, uz12⟩ := q12
    subst eh12
    subst ez12
    refine pw_istore_n d244_15 m244 rfl rfl ?_
    refine pw_iload_n d244_16 rfl ?_
    refine pw_aload_n d244_17 rfl ?_
    refine pw_callV0 d244_18 k244_313 hT hA0 rfl rfl rfl (ct245 (τ := τ) (ρ := ρ) hT hA0) (fun r18 h18 q18 => ?_)
    obtain ⟨eh18, z18, ez18, lz18, uz18⟩ := q18
    subst eh18
    subst ez18
    refine pw_iconst d244_21 ?_
    refine pw_ixor d244_22 (fun z22 hz22 ez22 => ?_)
    refine pw_iand d244_23 (fun z23 hz23 ez23 => ?_)
    refine pw_if_eq d244_24 rfl (by omega) (fun c24 => ?_) (fun c24 => ?_)
    · refine pw_aload_n d244_31 rfl ?_
      refine pw_iload_n d244_32 rfl ?_
      refine pw_callV1 d244_33 k244_304 hT hA0 rfl rfl rfl (ct246 (τ := τ) (ρ := ρ) hT hA0 (by omega)) (fun r33 h33 q33 => ?_)
      obtain ⟨eh33, z33, ez33, lz33, uz33⟩ := q33
      subst eh33
      subst ez33
      refine pw_istore_n d244_36 m244 rfl rfl ?_
      refine pw_iconst d244_37 ?_
      refine pw_istore_n d244_38 m244 rfl rfl ?_
      exact L39 _ (z33) (0) _ (by omega) (by omega) (pv_mu _)
    · refine pw_ldcw (v := pv_I (-1000000)) d244_27 n244_27 ?_
      exact pw_ireturn d244_30 tt244 ⟨rfl, (-1000000), rfl, (by omega), (by omega)⟩
  · refine pw_ldcw (v := pv_I (-1000000)) d244_7 n244_7 ?_
    exact pw_ireturn d244_10 tt244 ⟨rfl, (-1000000), rfl, (by omega), (by omega)⟩

abbrev Q247 (τ : Nat → Option Nat) (ρ : Nat → Nat → Nat) (h : pv_H) (a0 : Nat) : Option Value → pv_H → Prop := fun r h' => pv_Ty τ ρ h' ∧ pv_Fr τ [3071, 3135] h h' ∧ ∃ z : Int, r = some (.int (pv_I z)) ∧ (-2) ≤ z ∧ z ≤ 1
set_option maxHeartbeats 4000000 in
set_option maxRecDepth 20000 in
/-- AngleNetModel.can()I -/
theorem ct247 {τ : Nat → Option Nat} {ρ : Nat → Nat → Nat} {K : Nat → Nat} {h : pv_H} {a0 : Nat} (hT : pv_Ty τ ρ h) (hA0 : τ a0 = some 7) : pv_C K 247 [.ref a0] h (Q247 τ ρ h a0) := by
  refine pw_entry 0 ?_
  show pv_T K 247 0 (pv_fl [some (.ref a0)]) [] h (Q247 τ ρ h a0)
  have hF0 : pv_Fr τ [3071, 3135] h h := pv_Fr.rf
  refine pw_aload_n d247_0 rfl ?_
  refine pw_callV0 d247_1 k247_283 hT hA0 rfl rfl rfl (ct224 (τ := τ) (ρ := ρ) hT hA0) (fun r1 h1 q1 => ?_)
  obtain ⟨eh1, z1, ez1, lz1, uz1⟩ := q1
  subst eh1
  subst ez1
  refine pw_if_ne d247_4 rfl (by omega) (fun c4 => ?_) (fun c4 => ?_)
  · refine pw_aload_n d247_10 rfl ?_
    refine pw_callV0 d247_11 k247_320 hT hA0 rfl rfl rfl (ct248 (τ := τ) (ρ := ρ) hT hA0) (fun r11 h11 q11 => ?_)
    obtain ⟨T11, F11, ez11⟩ := q11
    subst ez11
    have f11 := hF0.tr (F11.up (by decide))
    refine pw_aload_n d247_14 rfl ?_
    refine pw_callV0 d247_15 k247_323 T11 hA0 rfl rfl rfl (ct249 (τ := τ) (ρ := ρ) T11 hA0) (fun r15 h15 q15 => ?_)
    obtain ⟨eh15, z15, ez15, lz15, uz15⟩ := q15
    subst eh15
    subst ez15
    refine pw_if_eq d247_18 rfl (by omega) (fun c18 => ?_) (fun c18 => ?_)
    · refine pw_iconst d247_25 ?_
      exact pw_ireturn d247_26 tt247 ⟨T11, f11, 0, rfl, (by omega), (by omega)⟩
    · refine pw_iconst d247_21 ?_
      refine pw_goto d247_22 rfl ?_
      exact pw_ireturn d247_26 tt247 ⟨T11, f11, 1, rfl, (by omega), (by omega)⟩
  · refine pw_bipush d247_7 (by decide) ?_
    exact pw_ireturn d247_9 tt247 ⟨hT, hF0, (-2), rfl, (by omega), (by omega)⟩

abbrev Q253 (τ : Nat → Option Nat) (ρ : Nat → Nat → Nat) (h : pv_H) (a0 : Nat) (x1 : Int) : Option Value → pv_H → Prop := fun r h' => pv_Ty τ ρ h' ∧ pv_Fr τ [3071, 3135] h h' ∧ ∃ z : Int, r = some (.int (pv_I z)) ∧ (-2) ≤ z ∧ z ≤ 1023
set_option maxHeartbeats 4000000 in
set_option maxRecDepth 20000 in
/-- AngleNetModel.bars(I)I -/
theorem ct253 {τ : Nat → Option Nat} {ρ : Nat → Nat → Nat} {K : Nat → Nat} {h : pv_H} {a0 : Nat} {x1 : Int} (hT : pv_Ty τ ρ h) (hA0 : τ a0 = some 7) (hX1 : (-2147483648) ≤ x1 ∧ x1 ≤ 2147483647) : pv_C K 253 [.ref a0, .int (pv_I x1)] h (Q253 τ ρ h a0 x1) := by
  refine pw_entry 1 ?_
  show pv_T K 253 0 (pv_fl [some (.ref a0), some (.int (pv_I x1)), none]) [] h (Q253 τ ρ h a0 x1)
  have hF0 : pv_Fr τ [3071, 3135] h h := pv_Fr.rf
  refine pw_aload_n d253_0 rfl ?_
  refine pw_callV0 d253_1 k253_283 hT hA0 rfl rfl rfl (ct224 (τ := τ) (ρ := ρ) hT hA0) (fun r1 h1 q1 => ?_)
  obtain ⟨eh1, z1, ez1, lz1, uz1⟩ := q1
  subst eh1
  subst ez1
  refine pw_if_eq d253_4 rfl (by omega) (fun c4 => ?_) (fun c4 => ?_)
  · refine pw_bipush d253_17 (by decide) ?_
    exact pw_ireturn d253_19 tt253 ⟨hT, hF0, (-2), rfl, (by omega), (by omega)⟩
  · refine pw_iload_n d253_7 rfl ?_
    refine pw_i2l d253_8 (by omega) ?_
    refine pw_lconst (z := 0) d253_9 (by decide) ?_
    refine pw_lconst (z := 1) d253_10 (by decide) ?_
    refine pw_callS3 d253_11 k253_73 rfl rfl (ct184 (τ := τ) (ρ := ρ) (by omega) (by omega) (by omega)) (fun r11 h11 q11 => ?_)
    obtain ⟨eh11, z11, ez11, lz11, uz11, pz11_0⟩ := q11
    subst eh11
    subst ez11
    refine pw_if_ne d253_14 rfl (by omega) (fun c14 => ?_) (fun c14 => ?_)
    · refine pw_aload_n d253_20 rfl ?_
      refine pw_callV0 d253_21 k253_320 hT hA0 rfl rfl rfl (ct248 (τ := τ) (ρ := ρ) hT hA0) (fun r21 h21 q21 => ?_)
      obtain ⟨T21, F21, ez21⟩ := q21
      subst ez21
      have f21 := hF0.tr (F21.up (by decide))
      refine pw_aload_n d253_24 rfl ?_
      refine pw_callV0 d253_25 k253_326 T21 hA0 rfl rfl rfl (ct254 (τ := τ) (ρ := ρ) T21 hA0) (fun r25 h25 q25 => ?_)
      obtain ⟨eh25, z25, ez25, lz25, uz25⟩ := q25
      subst eh25
      subst ez25
      refine pw_istore_n d253_28 m253 rfl rfl ?_
      refine pw_iload_n d253_29 rfl ?_
      refine pw_iconst d253_30 ?_
      refine pw_icmp_eq d253_31 rfl (by omega) (by omega) (fun c31 => ?_) (fun c31 => ?_)
      · refine pw_iload_n d253_38 rfl ?_
        refine pw_goto d253_39 rfl ?_
        exact pw_ireturn d253_47 tt253 ⟨T21, f21, z25, rfl, (by omega), (by omega)⟩
      · refine pw_iload_n d253_34 rfl ?_
        refine pw_if_ne d253_35 rfl (by omega) (fun c35 => ?_) (fun c35 => ?_)
        · refine pw_aload_n d253_42 rfl ?_
          refine pw_iload_n d253_43 rfl ?_
          refine pw_callV1 d253_44 k253_316 T21 hA0 rfl rfl rfl (ct250 (τ := τ) (ρ := ρ) T21 hA0 (by omega)) (fun r44 h44 q44 => ?_)
          obtain ⟨eh44, z44, ez44, lz44, uz44⟩ := q44
          subst eh44
          subst ez44
          exact pw_ireturn d253_47 tt253 ⟨T21, f21, z44, rfl, (by omega), (by omega)⟩
        · refine pw_iload_n d253_38 rfl ?_
          refine pw_goto d253_39 rfl ?_
          exact pw_ireturn d253_47 tt253 ⟨T21, f21, z25, rfl, (by omega), (by omega)⟩
    · refine pw_bipush d253_17 (by decide) ?_
      exact pw_ireturn d253_19 tt253 ⟨hT, hF0, (-2), rfl, (by omega), (by omega)⟩

abbrev Q256 (τ : Nat → Option Nat) (ρ : Nat → Nat → Nat) (h : pv_H) (a0 : Nat) (x1 : Int) (x2 : Int) : Option Value → pv_H → Prop := fun r h' => pv_Ty τ ρ h' ∧ pv_Fr τ [3071, 3135] h h' ∧ ∃ z : Int, r = some (.int (pv_I z)) ∧ 0 ≤ z ∧ z ≤ 1
set_option maxHeartbeats 4000000 in
set_option maxRecDepth 20000 in
/-- AngleNetModel.canBe(II)Z -/
theorem ct256 {τ : Nat → Option Nat} {ρ : Nat → Nat → Nat} {K : Nat → Nat} {h : pv_H} {a0 : Nat} {x1 : Int} {x2 : Int} (hT : pv_Ty τ ρ h) (hA0 : τ a0 = some 7) (hX1 : 0 ≤ x1 ∧ x1 ≤ 53) (hX2 : (-2147483648) ≤ x2 ∧ x2 ≤ 2147483647) : pv_C K 256 [.ref a0, .int (pv_I x1), .int (pv_I x2)] h (Q256 τ ρ h a0 x1 x2) := by
  refine pw_entry 0 ?_
  show pv_T K 256 0 (pv_fl [some (.ref a0), some (.int (pv_I x1)), some (.int (pv_I x2))]) [] h (Q256 τ ρ h a0 x1 x2)
  have hF0 : pv_Fr τ [3071, 3135] h h := pv_Fr.rf
  refine pw_aload_n d256_0 rfl ?_
  refine pw_callV0 d256_1 k256_320 hT hA0 rfl rfl rfl (ct248 (τ := τ) (ρ := ρ) hT hA0) (fun r1 h1 q1 => ?_)
  obtain ⟨T1, F1, ez1⟩ := q1
  subst ez1
  have f1 := hF0.tr (F1.up (by decide))
  refine pw_aload_n d256_4 rfl ?_
  refine pw_getR d256_5 g256_37 T1 hA0 rfl rfl (fun t5 => ?_)
  have t5 : τ (ρ a0 16) = some 47 := t5
  refine pw_iload_n d256_8 rfl ?_
  refine pw_iload_n d256_9 rfl ?_
  refine pw_iast d256_10 T1 t5 rfl rfl rfl (by omega) (by omega) (by omega) (by omega) (fun h10 T10 F10 E10 => ?_)
  have f10 := f1.tr (F10.up (by decide))
  refine pw_aload_n d256_11 rfl ?_
  refine pw_getR d256_12 g256_40 T10 hA0 rfl rfl (fun t12 => ?_)
  have t12 : τ (ρ a0 17) = some 48 := t12
  refine pw_iload_n d256_15 rfl ?_
  refine pw_iload_n d256_16 rfl ?_
  refine pw_iast d256_17 T10 t12 rfl rfl rfl (by omega) (by omega) (by omega) (by omega) (fun h17 T17 F17 E17 => ?_)
  have f17 := f10.tr (F17.up (by decide))
  refine pw_aload_n d256_18 rfl ?_
  refine pw_callV0 d256_19 k256_323 T17 hA0 rfl rfl rfl (ct249 (τ := τ) (ρ := ρ) T17 hA0) (fun r19 h19 q19 => ?_)
  obtain ⟨eh19, z19, ez19, lz19, uz19⟩ := q19
  subst eh19
  subst ez19
  exact pw_zreturn d256_22 tt256 (by omega) ⟨T17, f17, z19, rfl, (by omega), (by omega)⟩

abbrev Q257 (τ : Nat → Option Nat) (ρ : Nat → Nat → Nat) (h : pv_H) (a0 : Nat) (x1 : Int) (x2 : Int) : Option Value → pv_H → Prop := fun r h' => pv_Ty τ ρ h' ∧ pv_Fr τ [2623] h h' ∧ ∃ z : Int, r = some (.int (pv_I z)) ∧ (-2) ≤ z ∧ z ≤ 9999
set_option maxHeartbeats 4000000 in
set_option maxRecDepth 20000 in
/-- AngleNetModel.tells(II)I -/
theorem ct257 {τ : Nat → Option Nat} {ρ : Nat → Nat → Nat} {K : Nat → Nat} {h : pv_H} {a0 : Nat} {x1 : Int} {x2 : Int} (hT : pv_Ty τ ρ h) (hA0 : τ a0 = some 7) (hX1 : (-2147483648) ≤ x1 ∧ x1 ≤ 2147483647) (hX2 : (-2147483648) ≤ x2 ∧ x2 ≤ 2147483647) : pv_C K 257 [.ref a0, .int (pv_I x1), .int (pv_I x2)] h (Q257 τ ρ h a0 x1 x2) := by
  refine pw_entry 1 ?_
  show pv_T K 257 0 (pv_fl [some (.ref a0), some (.int (pv_I x1)), some (.int (pv_I x2)), none]) [] h (Q257 τ ρ h a0 x1 x2)
  have hF0 : pv_Fr τ [2623] h h := pv_Fr.rf
  have J51 : ∀ (xL3_51 xS0_51 xS1_51 : Int) (o0_51 o1_51 o2_51 : Option Value), ((-1) ≤ xL3_51 ∧ xL3_51 ≤ 9999) → ((-1) ≤ xS0_51 ∧ xS0_51 ≤ 3600) → (80 ≤ xS1_51 ∧ xS1_51 ≤ 116) → (τ (ρ a0 1) = some 40) → pv_T K 257 51 (pv_fl [o0_51, o1_51, o2_51, some (.int (pv_I xL3_51))]) [.int (pv_I xS0_51), .int (pv_I xS1_51), .ref (ρ a0 1)] h (Q257 τ ρ h a0 x1 x2) := by
    intro xL3_51 xS0_51 xS1_51 o0_51 o1_51 o2_51 rL3_51 rS0_51 rS1_51 t_51_ρa01
    refine pw_iastB d257_51 hT t_51_ρa01 rfl rfl rfl (by omega) (by omega) (by omega) (by show pv_wok _ _; unfold pv_wok; omega) (fun h51 T51 F51 E51 => ?_)
    have f51 := hF0.tr (F51.up (by decide))
    refine pw_iload_n d257_52 rfl ?_
    exact pw_ireturn d257_53 tt257 ⟨T51, f51, xL3_51, rfl, (by omega), (by omega)⟩
  refine pw_aload_n d257_0 rfl ?_
  refine pw_iload_n d257_1 rfl ?_
  refine pw_callV1 d257_2 k257_77 hT hA0 rfl rfl rfl (ct214 (τ := τ) (ρ := ρ) hT hA0 (by omega)) (fun r2 h2 q2 => ?_)
  obtain ⟨eh2, z2, ez2, lz2, uz2, pz2_0⟩ := q2
  subst eh2
  subst ez2
  refine pw_if_eq d257_5 rfl (by omega) (fun c5 => ?_) (fun c5 => ?_)
  · refine pw_bipush d257_20 (by decide) ?_
    exact pw_ireturn d257_22 tt257 ⟨hT, hF0, (-2), rfl, (by omega), (by omega)⟩
  · refine pw_iload_n d257_8 rfl ?_
    refine pw_i2l d257_9 (by omega) ?_
    refine pw_lconst (z := 0) d257_10 (by decide) ?_
    refine pw_ldc2 (v := pv_J 3600) d257_11 n257_11 ?_
    refine pw_callS3 d257_14 k257_73 rfl rfl (ct184 (τ := τ) (ρ := ρ) (by omega) (by omega) (by omega)) (fun r14 h14 q14 => ?_)
    obtain ⟨eh14, z14, ez14, lz14, uz14, pz14_0⟩ := q14
    subst eh14
    subst ez14
    refine pw_if_ne d257_17 rfl (by omega) (fun c17 => ?_) (fun c17 => ?_)
    · refine pw_aload_n d257_23 rfl ?_
      refine pw_iload_n d257_24 rfl ?_
      refine pw_iconst d257_25 ?_
      refine pw_callV2 d257_26 k257_232 hT hA0 rfl rfl rfl (ct215 (τ := τ) (ρ := ρ) hT hA0 (by omega) (by omega)) (fun r26 h26 q26 => ?_)
      obtain ⟨eh26, z26, ez26, lz26, uz26, pz26_0⟩ := q26
      subst eh26
      subst ez26
      refine pw_istore_n d257_29 m257 rfl rfl ?_
      refine pw_aload_n d257_30 rfl ?_
      refine pw_getR d257_31 g257_9 hT hA0 rfl rfl (fun t31 => ?_)
      have t31 : τ (ρ a0 1) = some 40 := t31
      refine pw_bipush d257_34 (by decide) ?_
      refine pw_iconst d257_36 ?_
      refine pw_iload_n d257_37 rfl ?_
      refine pw_imul d257_38 ?_
      refine pw_iadd d257_39 ?_
      refine pw_iconst d257_40 ?_
      refine pw_iadd d257_41 ?_
      refine pw_iload_n d257_42 rfl ?_
      refine pw_if_ne d257_43 rfl (by omega) (fun c43 => ?_) (fun c43 => ?_)
      · refine pw_iload_n d257_50 rfl ?_
        exact J51 (z26) (x2) (((80 + (4 * x1)) + 0)) _ _ _ (by omega) (by omega) (by omega) t31
      · refine pw_iconst d257_46 ?_
        refine pw_goto d257_47 rfl ?_
        exact J51 (z26) ((-1)) (((80 + (4 * x1)) + 0)) _ _ _ (by omega) (by omega) (by omega) t31
    · refine pw_bipush d257_20 (by decide) ?_
      exact pw_ireturn d257_22 tt257 ⟨hT, hF0, (-2), rfl, (by omega), (by omega)⟩

abbrev Q258 (τ : Nat → Option Nat) (ρ : Nat → Nat → Nat) (h : pv_H) (a0 : Nat) (x1 : Int) (x2 : Int) : Option Value → pv_H → Prop := fun r h' => pv_Ty τ ρ h' ∧ pv_Fr τ [3071, 3135] h h' ∧ ∃ z : Int, r = some (.int (pv_I z)) ∧ (-2) ≤ z ∧ z ≤ 3600
set_option maxHeartbeats 4000000 in
set_option maxRecDepth 20000 in
/-- AngleNetModel.free(II)I -/
theorem ct258 {τ : Nat → Option Nat} {ρ : Nat → Nat → Nat} {K : Nat → Nat} {h : pv_H} {a0 : Nat} {x1 : Int} {x2 : Int} (hT : pv_Ty τ ρ h) (hA0 : τ a0 = some 7) (hX1 : (-2147483648) ≤ x1 ∧ x1 ≤ 2147483647) (hX2 : (-2147483648) ≤ x2 ∧ x2 ≤ 2147483647) : pv_C K 258 [.ref a0, .int (pv_I x1), .int (pv_I x2)] h (Q258 τ ρ h a0 x1 x2) := by
  refine pw_entry 5 ?_
  show pv_T K 258 0 (pv_fl [some (.ref a0), some (.int (pv_I x1)), some (.int (pv_I x2)), none, none, none, none, none]) [] h (Q258 τ ρ h a0 x1 x2)
  have hF0 : pv_Fr τ [3071, 3135] h h := pv_Fr.rf
  have L58 : ∀ (nn : Nat) (h_58 : pv_H) (xL3_58 xL4_58 xL5_58 xL6_58 : Int) (o7_58 : Option Value), (pv_Ty τ ρ h_58) → (pv_Fr τ [3071, 3135] h h_58) → (0 ≤ x1 ∧ x1 ≤ 9) → (0 ≤ x2 ∧ x2 ≤ 1) → ((-2147483648) ≤ xL3_58 ∧ xL3_58 ≤ 2147483647) → (1 ≤ xL4_58 ∧ xL4_58 ≤ 2147483647) → ((-2147483648) ≤ xL5_58 ∧ xL5_58 ≤ 3600) → (0 ≤ xL6_58 ∧ xL6_58 ≤ 1024) → 1024 - xL6_58 < nn → pv_T K 258 58 (pv_fl [some (.ref a0), some (.int (pv_I x1)), some (.int (pv_I x2)), some (.int (pv_I xL3_58)), some (.int (pv_I xL4_58)), some (.int (pv_I xL5_58)), some (.int (pv_I xL6_58)), o7_58]) [] h_58 (Q258 τ ρ h a0 x1 x2) := by
    intro nn
    induction nn with
    | zero => intro h_58 xL3_58 xL4_58 xL5_58 xL6_58 o7_58 hT_58 hF_58 rL1_58 rL2_58 rL3_58 rL4_58 rL5_58 rL6_58 hm; exfalso; omega
    | succ nn ih58 =>
      intro h_58 xL3_58 xL4_58 xL5_58 xL6_58 o7_58 hT_58 hF_58 rL1_58 rL2_58 rL3_58 rL4_58 rL5_58 rL6_58 hm58
      have J142 : ∀ (xL4_142 xL5_142 : Int) (o7_142 : Option Value), (0 ≤ x1 ∧ x1 ≤ 9) → (0 ≤ x2 ∧ x2 ≤ 1) → ((-2147483648) ≤ xL3_58 ∧ xL3_58 ≤ 2147483647) → (1 ≤ xL4_142 ∧ xL4_142 ≤ 2147483647) → ((-2147483648) ≤ xL5_142 ∧ xL5_142 ≤ 3600) → (0 ≤ xL6_58 ∧ xL6_58 ≤ 1023) → pv_T K 258 142 (pv_fl [some (.ref a0), some (.int (pv_I x1)), some (.int (pv_I x2)), some (.int (pv_I xL3_58)), some (.int (pv_I xL4_142)), some (.int (pv_I xL5_142)), some (.int (pv_I xL6_58)), o7_142]) [] h_58 (Q258 τ ρ h a0 x1 x2) := by
        intro xL4_142 xL5_142 o7_142 rL1_142 rL2_142 rL3_142 rL4_142 rL5_142 rL6_142
        refine pw_iinc d258_142 m258 rfl rfl rfl ?_
        refine pw_goto d258_145 rfl ?_
        exact ih58 h_58 (xL3_58) (xL4_142) (xL5_142) ((xL6_58 + 1)) _ hT_58 hF_58 (by omega) (by omega) (by omega) (by omega) (by omega) (by omega) (by omega)
      refine pw_iload d258_58 rfl ?_
      refine pw_iconst d258_60 ?_
      refine pw_aload_n d258_61 rfl ?_
      refine pw_getR d258_62 g258_9 hT_58 hA0 rfl rfl (fun t62 => ?_)
      have t62 : τ (ρ a0 1) = some 40 := t62
      refine pw_iconst d258_65 ?_
      refine pw_ialdB d258_66 hT_58 t62 rfl rfl (by omega) (by omega) (fun u66 => ?_)
      have u66 : pv_wok ((0 : Int)) (pv_aI h_58 (ρ a0 1) ((0 : Int)).toNat) := u66
      have vu66 := u66.2.1 (by omega)
      refine pw_ishl d258_67 (fun z67 hz67 ez67 => ?_)
      have bz67 := pv_shl1_b (n := 10) (m := 1024) (y := (pv_aI h_58 (ρ a0 1) ((0 : Int)).toNat)) (by omega) (by omega) (by decide) (by decide) hz67 ez67
      refine pw_icmp_ge d258_68 rfl (by omega) (by omega) (fun c68 => ?_) (fun c68 => ?_)
      · refine pw_iload d258_148 rfl ?_
        refine pw_iload d258_150 rfl ?_
        refine pw_icmp_le d258_152 rfl (by omega) (by omega) (fun c152 => ?_) (fun c152 => ?_)
        · refine pw_iload_n d258_159 rfl ?_
          refine pw_if_ne d258_160 rfl (by omega) (fun c160 => ?_) (fun c160 => ?_)
          · refine pw_iload d258_168 rfl ?_
            exact pw_ireturn d258_170 tt258 ⟨hT_58, hF_58, xL5_58, rfl, (by omega), (by omega)⟩
          · refine pw_iload d258_163 rfl ?_
            refine pw_goto d258_165 rfl ?_
            exact pw_ireturn d258_170 tt258 ⟨hT_58, hF_58, xL4_58, rfl, (by omega), (by omega)⟩
        · refine pw_iconst d258_155 ?_
          refine pw_goto d258_156 rfl ?_
          exact pw_ireturn d258_170 tt258 ⟨hT_58, hF_58, (-1), rfl, (by omega), (by omega)⟩
      · refine pw_iload d258_71 rfl ?_
        refine pw_iload_n d258_73 rfl ?_
        refine pw_iconst d258_74 ?_
        refine pw_ixor d258_75 (fun z75 hz75 ez75 => ?_)
        refine pw_iand d258_76 (fun z76 hz76 ez76 => ?_)
        refine pw_if_eq d258_77 rfl (by omega) (fun c77 => ?_) (fun c77 => ?_)
        · refine pw_aload_n d258_83 rfl ?_
          refine pw_iload d258_84 rfl ?_
          refine pw_callV1 d258_86 k258_316 hT_58 hA0 rfl rfl rfl (ct250 (τ := τ) (ρ := ρ) hT_58 hA0 (by omega)) (fun r86 h86 q86 => ?_)
          obtain ⟨eh86, z86, ez86, lz86, uz86⟩ := q86
          subst eh86
          subst ez86
          refine pw_if_eq d258_89 rfl (by omega) (fun c89 => ?_) (fun c89 => ?_)
          · refine pw_aload_n d258_94 rfl ?_
            refine pw_iload d258_95 rfl ?_
            refine pw_callV1 d258_97 k258_304 hT_58 hA0 rfl rfl rfl (ct246 (τ := τ) (ρ := ρ) hT_58 hA0 (by omega)) (fun r97 h97 q97 => ?_)
            obtain ⟨eh97, z97, ez97, lz97, uz97⟩ := q97
            subst eh97
            subst ez97
            refine pw_istore d258_100 m258 rfl rfl ?_
            refine pw_iload d258_102 rfl ?_
            refine pw_aload_n d258_104 rfl ?_
            refine pw_iload d258_105 rfl ?_
            refine pw_iconst d258_107 ?_
            refine pw_iload_n d258_108 rfl ?_
            refine pw_ishl d258_109 (fun z109 hz109 ez109 => ?_)
            have bz109 := pv_shl1_b (n := 9) (m := 512) (y := x1) (by omega) (by omega) (by decide) (by decide) hz109 ez109
            refine pw_ior d258_110 (fun z110 hz110 ez110 => ?_)
            have bz110 := pv_or_b (n := 10) (m := 1024) (x := xL6_58) (y := z109) (by omega) (by omega) (by omega) (by omega) (by decide) (by decide) hz110 ez110
            refine pw_callV1 d258_111 k258_310 hT_58 hA0 rfl rfl rfl (ct252 (τ := τ) (ρ := ρ) hT_58 hA0 (by omega)) (fun r111 h111 q111 => ?_)
            obtain ⟨eh111, z111, ez111, lz111, uz111⟩ := q111
            subst eh111
            subst ez111
            refine pw_iload d258_114 rfl ?_
            refine pw_isub d258_116 ?_
            refine pw_any (fun z117 hz117 ez117 => ?_)
            refine pw_mmax d258_117 k258_301 rfl (by omega) (by omega) (fun z117b pz117b hz117b => ?_)
            refine pw_istore d258_120 m258 rfl rfl ?_
            refine pw_iload d258_122 rfl ?_
            refine pw_aload_n d258_124 rfl ?_
            refine pw_iload d258_125 rfl ?_
            refine pw_iconst d258_127 ?_
            refine pw_iload_n d258_128 rfl ?_
            refine pw_ishl d258_129 (fun z129 hz129 ez129 => ?_)
            have bz129 := pv_shl1_b (n := 9) (m := 512) (y := x1) (by omega) (by omega) (by decide) (by decide) hz129 ez129
            refine pw_ior d258_130 (fun z130 hz130 ez130 => ?_)
            have bz130 := pv_or_b (n := 10) (m := 1024) (x := xL6_58) (y := z129) (by omega) (by omega) (by omega) (by omega) (by decide) (by decide) hz130 ez130
            refine pw_callV1 d258_131 k258_307 hT_58 hA0 rfl rfl rfl (ct251 (τ := τ) (ρ := ρ) hT_58 hA0 (by omega)) (fun r131 h131 q131 => ?_)
            obtain ⟨eh131, z131, ez131, lz131, uz131⟩ := q131
            subst eh131
            subst ez131
            refine pw_iload d258_134 rfl ?_
            refine pw_isub d258_136 ?_
            refine pw_any (fun z137 hz137 ez137 => ?_)
            refine pw_mmin d258_137 k258_112 rfl (by omega) (by omega) (fun z137b pz137b hz137b => ?_)
            refine pw_istore d258_140 m258 rfl rfl ?_
            exact J142 (z117b) (z137b) _ (by omega) (by omega) (by omega) (by omega) (by omega) (by omega)
          · refine pw_iconst d258_92 ?_
            exact pw_ireturn d258_93 tt258 ⟨hT_58, hF_58, (-1), rfl, (by omega), (by omega)⟩
        · refine pw_goto d258_80 rfl ?_
          exact J142 (xL4_58) (xL5_58) _ (by omega) (by omega) (by omega) (by omega) (by omega) (by omega)
  refine pw_aload_n d258_0 rfl ?_
  refine pw_iload_n d258_1 rfl ?_
  refine pw_callV1 d258_2 k258_77 hT hA0 rfl rfl rfl (ct214 (τ := τ) (ρ := ρ) hT hA0 (by omega)) (fun r2 h2 q2 => ?_)
  obtain ⟨eh2, z2, ez2, lz2, uz2, pz2_0⟩ := q2
  subst eh2
  subst ez2
  refine pw_if_eq d258_5 rfl (by omega) (fun c5 => ?_) (fun c5 => ?_)
  · refine pw_bipush d258_29 (by decide) ?_
    exact pw_ireturn d258_31 tt258 ⟨hT, hF0, (-2), rfl, (by omega), (by omega)⟩
  · refine pw_iload_n d258_8 rfl ?_
    refine pw_i2l d258_9 (by omega) ?_
    refine pw_lconst (z := 0) d258_10 (by decide) ?_
    refine pw_lconst (z := 1) d258_11 (by decide) ?_
    refine pw_callS3 d258_12 k258_73 rfl rfl (ct184 (τ := τ) (ρ := ρ) (by omega) (by omega) (by omega)) (fun r12 h12 q12 => ?_)
    obtain ⟨eh12, z12, ez12, lz12, uz12, pz12_0⟩ := q12
    subst eh12
    subst ez12
    refine pw_if_eq d258_15 rfl (by omega) (fun c15 => ?_) (fun c15 => ?_)
    · refine pw_bipush d258_29 (by decide) ?_
      exact pw_ireturn d258_31 tt258 ⟨hT, hF0, (-2), rfl, (by omega), (by omega)⟩
    · refine pw_aload_n d258_18 rfl ?_
      refine pw_callV0 d258_19 k258_259 hT hA0 rfl rfl rfl (ct226 (τ := τ) (ρ := ρ) hT hA0) (fun r19 h19 q19 => ?_)
      obtain ⟨eh19, z19, ez19, lz19, uz19⟩ := q19
      subst eh19
      subst ez19
      refine pw_iload_n d258_22 rfl ?_
      refine pw_ishr d258_23 (fun z23 hz23 ez23 => ?_)
      refine pw_iconst d258_24 ?_
      refine pw_iand d258_25 (fun z25 hz25 ez25 => ?_)
      have bz25 := pv_and1_b hz25 ez25
      refine pw_if_ne d258_26 rfl (by omega) (fun c26 => ?_) (fun c26 => ?_)
      · refine pw_aload_n d258_32 rfl ?_
        refine pw_callV0 d258_33 k258_320 hT hA0 rfl rfl rfl (ct248 (τ := τ) (ρ := ρ) hT hA0) (fun r33 h33 q33 => ?_)
        obtain ⟨T33, F33, ez33⟩ := q33
        subst ez33
        have f33 := hF0.tr (F33.up (by decide))
        refine pw_aload_n d258_36 rfl ?_
        refine pw_callV0 d258_37 k258_313 T33 hA0 rfl rfl rfl (ct245 (τ := τ) (ρ := ρ) T33 hA0) (fun r37 h37 q37 => ?_)
        obtain ⟨eh37, z37, ez37, lz37, uz37⟩ := q37
        subst eh37
        subst ez37
        refine pw_iconst d258_40 ?_
        refine pw_iload_n d258_41 rfl ?_
        refine pw_ishl d258_42 (fun z42 hz42 ez42 => ?_)
        have bz42 := pv_shl1_b (n := 9) (m := 512) (y := x1) (by omega) (by omega) (by decide) (by decide) hz42 ez42
        refine pw_iconst d258_43 ?_
        refine pw_ixor d258_44 (fun z44 hz44 ez44 => ?_)
        refine pw_iand d258_45 (fun z45 hz45 ez45 => ?_)
        refine pw_istore_n d258_46 m258 rfl rfl ?_
        refine pw_iconst d258_47 ?_
        refine pw_istore d258_48 m258 rfl rfl ?_
        refine pw_sipush d258_50 (by decide) ?_
        refine pw_istore d258_53 m258 rfl rfl ?_
        refine pw_iconst d258_55 ?_
        refine pw_istore d258_56 m258 rfl rfl ?_
        exact L58 _ h33 (z45) (1) (3600) (0) _ T33 f33 (by omega) (by omega) (by omega) (by omega) (by omega) (by omega) (pv_mu _)
      · refine pw_bipush d258_29 (by decide) ?_
        exact pw_ireturn d258_31 tt258 ⟨hT, hF0, (-2), rfl, (by omega), (by omega)⟩

abbrev Q261 (τ : Nat → Option Nat) (ρ : Nat → Nat → Nat) (h : pv_H) (a0 : Nat) (x1 : Int) : Option Value → pv_H → Prop := fun r h' => h = h' ∧ ∃ z : Int, r = some (.int (pv_I z)) ∧ 0 ≤ z ∧ z ≤ 1 ∧ (z = 1 → 0 ≤ x1 ∧ x1 ≤ 9)
set_option maxHeartbeats 4000000 in
set_option maxRecDepth 20000 in
/-- AngleNetModel.hasPlace(I)Z -/
theorem ct261 {τ : Nat → Option Nat} {ρ : Nat → Nat → Nat} {K : Nat → Nat} {h : pv_H} {a0 : Nat} {x1 : Int} (hT : pv_Ty τ ρ h) (hA0 : τ a0 = some 7) (hX1 : (-2147483648) ≤ x1 ∧ x1 ≤ 2147483647) : pv_C K 261 [.ref a0, .int (pv_I x1)] h (Q261 τ ρ h a0 x1) := by
  refine pw_entry 0 ?_
  show pv_T K 261 0 (pv_fl [some (.ref a0), some (.int (pv_I x1))]) [] h (Q261 τ ρ h a0 x1)
  refine pw_aload_n d261_0 rfl ?_
  refine pw_iload_n d261_1 rfl ?_
  refine pw_callV1 d261_2 k261_77 hT hA0 rfl rfl rfl (ct214 (τ := τ) (ρ := ρ) hT hA0 (by omega)) (fun r2 h2 q2 => ?_)
  obtain ⟨eh2, z2, ez2, lz2, uz2, pz2_0⟩ := q2
  subst eh2
  subst ez2
  refine pw_if_eq d261_5 rfl (by omega) (fun c5 => ?_) (fun c5 => ?_)
  · refine pw_iconst d261_22 ?_
    exact pw_zreturn d261_23 tt261 (by omega) ⟨rfl, 0, rfl, (by omega), (by omega), (by omega)⟩
  · refine pw_aload_n d261_8 rfl ?_
    refine pw_iload_n d261_9 rfl ?_
    refine pw_iconst d261_10 ?_
    refine pw_callV2 d261_11 k261_232 hT hA0 rfl rfl rfl (ct215 (τ := τ) (ρ := ρ) hT hA0 (by omega) (by omega)) (fun r11 h11 q11 => ?_)
    obtain ⟨eh11, z11, ez11, lz11, uz11, pz11_0⟩ := q11
    subst eh11
    subst ez11
    refine pw_iconst d261_14 ?_
    refine pw_icmp_eq d261_15 rfl (by omega) (by omega) (fun c15 => ?_) (fun c15 => ?_)
    · refine pw_iconst d261_22 ?_
      exact pw_zreturn d261_23 tt261 (by omega) ⟨rfl, 0, rfl, (by omega), (by omega), (by omega)⟩
    · refine pw_iconst d261_18 ?_
      refine pw_goto d261_19 rfl ?_
      exact pw_zreturn d261_23 tt261 (by omega) ⟨rfl, 1, rfl, (by omega), (by omega), (by omega)⟩

abbrev Q262 (τ : Nat → Option Nat) (ρ : Nat → Nat → Nat) (h : pv_H) (a0 : Nat) (x1 : Int) (x2 : Int) (x3 : Int) : Option Value → pv_H → Prop := fun r h' => h = h' ∧ ∃ z : Int, r = some (.int (pv_I z)) ∧ (-2147483648) ≤ z ∧ z ≤ 2147483647
set_option maxHeartbeats 4000000 in
set_option maxRecDepth 20000 in
/-- AngleNetModel.turnOf(III)I -/
theorem ct262 {τ : Nat → Option Nat} {ρ : Nat → Nat → Nat} {K : Nat → Nat} {h : pv_H} {a0 : Nat} {x1 : Int} {x2 : Int} {x3 : Int} (hT : pv_Ty τ ρ h) (hA0 : τ a0 = some 7) (hX1 : 0 ≤ x1 ∧ x1 ≤ 9) (hX2 : 0 ≤ x2 ∧ x2 ≤ 9) (hX3 : 0 ≤ x3 ∧ x3 ≤ 9) : pv_C K 262 [.ref a0, .int (pv_I x1), .int (pv_I x2), .int (pv_I x3)] h (Q262 τ ρ h a0 x1 x2 x3) := by
  refine pw_entry 0 ?_
  show pv_T K 262 0 (pv_fl [some (.ref a0), some (.int (pv_I x1)), some (.int (pv_I x2)), some (.int (pv_I x3))]) [] h (Q262 τ ρ h a0 x1 x2 x3)
  refine pw_aload_n d262_0 rfl ?_
  refine pw_iload_n d262_1 rfl ?_
  refine pw_iconst d262_2 ?_
  refine pw_callV2 d262_3 k262_232 hT hA0 rfl rfl rfl (ct215 (τ := τ) (ρ := ρ) hT hA0 (by omega) (by omega)) (fun r3 h3 q3 => ?_)
  obtain ⟨eh3, z3, ez3, lz3, uz3, pz3_0⟩ := q3
  subst eh3
  subst ez3
  refine pw_aload_n d262_6 rfl ?_
  refine pw_iload_n d262_7 rfl ?_
  refine pw_iconst d262_8 ?_
  refine pw_callV2 d262_9 k262_232 hT hA0 rfl rfl rfl (ct215 (τ := τ) (ρ := ρ) hT hA0 (by omega) (by omega)) (fun r9 h9 q9 => ?_)
  obtain ⟨eh9, z9, ez9, lz9, uz9, pz9_0⟩ := q9
  subst eh9
  subst ez9
  refine pw_isub d262_12 ?_
  refine pw_aload_n d262_13 rfl ?_
  refine pw_iload_n d262_14 rfl ?_
  refine pw_iconst d262_15 ?_
  refine pw_callV2 d262_16 k262_232 hT hA0 rfl rfl rfl (ct215 (τ := τ) (ρ := ρ) hT hA0 (by omega) (by omega)) (fun r16 h16 q16 => ?_)
  obtain ⟨eh16, z16, ez16, lz16, uz16, pz16_0⟩ := q16
  subst eh16
  subst ez16
  refine pw_aload_n d262_19 rfl ?_
  refine pw_iload_n d262_20 rfl ?_
  refine pw_iconst d262_21 ?_
  refine pw_callV2 d262_22 k262_232 hT hA0 rfl rfl rfl (ct215 (τ := τ) (ρ := ρ) hT hA0 (by omega) (by omega)) (fun r22 h22 q22 => ?_)
  obtain ⟨eh22, z22, ez22, lz22, uz22, pz22_0⟩ := q22
  subst eh22
  subst ez22
  refine pw_isub d262_25 ?_
  refine pw_imul d262_26 ?_
  refine pw_any (fun z26 hz26 ez26 => ?_)
  refine pw_aload_n d262_27 rfl ?_
  refine pw_iload_n d262_28 rfl ?_
  refine pw_iconst d262_29 ?_
  refine pw_callV2 d262_30 k262_232 hT hA0 rfl rfl rfl (ct215 (τ := τ) (ρ := ρ) hT hA0 (by omega) (by omega)) (fun r30 h30 q30 => ?_)
  obtain ⟨eh30, z30, ez30, lz30, uz30, pz30_0⟩ := q30
  subst eh30
  subst ez30
  refine pw_aload_n d262_33 rfl ?_
  refine pw_iload_n d262_34 rfl ?_
  refine pw_iconst d262_35 ?_
  refine pw_callV2 d262_36 k262_232 hT hA0 rfl rfl rfl (ct215 (τ := τ) (ρ := ρ) hT hA0 (by omega) (by omega)) (fun r36 h36 q36 => ?_)
  obtain ⟨eh36, z36, ez36, lz36, uz36, pz36_0⟩ := q36
  subst eh36
  subst ez36
  refine pw_isub d262_39 ?_
  refine pw_aload_n d262_40 rfl ?_
  refine pw_iload_n d262_41 rfl ?_
  refine pw_iconst d262_42 ?_
  refine pw_callV2 d262_43 k262_232 hT hA0 rfl rfl rfl (ct215 (τ := τ) (ρ := ρ) hT hA0 (by omega) (by omega)) (fun r43 h43 q43 => ?_)
  obtain ⟨eh43, z43, ez43, lz43, uz43, pz43_0⟩ := q43
  subst eh43
  subst ez43
  refine pw_aload_n d262_46 rfl ?_
  refine pw_iload_n d262_47 rfl ?_
  refine pw_iconst d262_48 ?_
  refine pw_callV2 d262_49 k262_232 hT hA0 rfl rfl rfl (ct215 (τ := τ) (ρ := ρ) hT hA0 (by omega) (by omega)) (fun r49 h49 q49 => ?_)
  obtain ⟨eh49, z49, ez49, lz49, uz49, pz49_0⟩ := q49
  subst eh49
  subst ez49
  refine pw_isub d262_52 ?_
  refine pw_imul d262_53 ?_
  refine pw_any (fun z53 hz53 ez53 => ?_)
  refine pw_isub d262_54 ?_
  refine pw_any (fun z55 hz55 ez55 => ?_)
  exact pw_ireturn d262_55 tt262 ⟨rfl, z55, rfl, (by omega), (by omega)⟩

abbrev Q260 (τ : Nat → Option Nat) (ρ : Nat → Nat → Nat) (h : pv_H) (a0 : Nat) (x1 : Int) (x2 : Int) (x3 : Int) : Option Value → pv_H → Prop := fun r h' => h = h' ∧ ∃ z : Int, r = some (.int (pv_I z)) ∧ 0 ≤ z ∧ z ≤ 1 ∧ (z = 1 → 0 ≤ x1 ∧ x1 ≤ 9 ∧ 0 ≤ x2 ∧ x2 ≤ 9 ∧ 0 ≤ x3 ∧ x3 ≤ 9)
set_option maxHeartbeats 4000000 in
set_option maxRecDepth 20000 in
/-- AngleNetModel.arePlaced(III)Z -/
theorem ct260 {τ : Nat → Option Nat} {ρ : Nat → Nat → Nat} {K : Nat → Nat} {h : pv_H} {a0 : Nat} {x1 : Int} {x2 : Int} {x3 : Int} (hT : pv_Ty τ ρ h) (hA0 : τ a0 = some 7) (hX1 : (-2147483648) ≤ x1 ∧ x1 ≤ 2147483647) (hX2 : (-2147483648) ≤ x2 ∧ x2 ≤ 2147483647) (hX3 : (-2147483648) ≤ x3 ∧ x3 ≤ 2147483647) : pv_C K 260 [.ref a0, .int (pv_I x1), .int (pv_I x2), .int (pv_I x3)] h (Q260 τ ρ h a0 x1 x2 x3) := by
  refine pw_entry 0 ?_
  show pv_T K 260 0 (pv_fl [some (.ref a0), some (.int (pv_I x1)), some (.int (pv_I x2)), some (.int (pv_I x3))]) [] h (Q260 τ ρ h a0 x1 x2 x3)
  refine pw_aload_n d260_0 rfl ?_
  refine pw_iload_n d260_1 rfl ?_
  refine pw_callV1 d260_2 k260_334 hT hA0 rfl rfl rfl (ct261 (τ := τ) (ρ := ρ) hT hA0 (by omega)) (fun r2 h2 q2 => ?_)
  obtain ⟨eh2, z2, ez2, lz2, uz2, pz2_0⟩ := q2
  subst eh2
  subst ez2
  refine pw_if_eq d260_5 rfl (by omega) (fun c5 => ?_) (fun c5 => ?_)
  · refine pw_iconst d260_43 ?_
    exact pw_zreturn d260_44 tt260 (by omega) ⟨rfl, 0, rfl, (by omega), (by omega), (by omega)⟩
  · refine pw_aload_n d260_8 rfl ?_
    refine pw_iload_n d260_9 rfl ?_
    refine pw_callV1 d260_10 k260_334 hT hA0 rfl rfl rfl (ct261 (τ := τ) (ρ := ρ) hT hA0 (by omega)) (fun r10 h10 q10 => ?_)
    obtain ⟨eh10, z10, ez10, lz10, uz10, pz10_0⟩ := q10
    subst eh10
    subst ez10
    refine pw_if_eq d260_13 rfl (by omega) (fun c13 => ?_) (fun c13 => ?_)
    · refine pw_iconst d260_43 ?_
      exact pw_zreturn d260_44 tt260 (by omega) ⟨rfl, 0, rfl, (by omega), (by omega), (by omega)⟩
    · refine pw_aload_n d260_16 rfl ?_
      refine pw_iload_n d260_17 rfl ?_
      refine pw_callV1 d260_18 k260_334 hT hA0 rfl rfl rfl (ct261 (τ := τ) (ρ := ρ) hT hA0 (by omega)) (fun r18 h18 q18 => ?_)
      obtain ⟨eh18, z18, ez18, lz18, uz18, pz18_0⟩ := q18
      subst eh18
      subst ez18
      refine pw_if_eq d260_21 rfl (by omega) (fun c21 => ?_) (fun c21 => ?_)
      · refine pw_iconst d260_43 ?_
        exact pw_zreturn d260_44 tt260 (by omega) ⟨rfl, 0, rfl, (by omega), (by omega), (by omega)⟩
      · refine pw_iload_n d260_24 rfl ?_
        refine pw_iload_n d260_25 rfl ?_
        refine pw_icmp_eq d260_26 rfl (by omega) (by omega) (fun c26 => ?_) (fun c26 => ?_)
        · refine pw_iconst d260_43 ?_
          exact pw_zreturn d260_44 tt260 (by omega) ⟨rfl, 0, rfl, (by omega), (by omega), (by omega)⟩
        · refine pw_iload_n d260_29 rfl ?_
          refine pw_iload_n d260_30 rfl ?_
          refine pw_icmp_eq d260_31 rfl (by omega) (by omega) (fun c31 => ?_) (fun c31 => ?_)
          · refine pw_iconst d260_43 ?_
            exact pw_zreturn d260_44 tt260 (by omega) ⟨rfl, 0, rfl, (by omega), (by omega), (by omega)⟩
          · refine pw_iload_n d260_34 rfl ?_
            refine pw_iload_n d260_35 rfl ?_
            refine pw_icmp_eq d260_36 rfl (by omega) (by omega) (fun c36 => ?_) (fun c36 => ?_)
            · refine pw_iconst d260_43 ?_
              exact pw_zreturn d260_44 tt260 (by omega) ⟨rfl, 0, rfl, (by omega), (by omega), (by omega)⟩
            · refine pw_iconst d260_39 ?_
              refine pw_goto d260_40 rfl ?_
              exact pw_zreturn d260_44 tt260 (by omega) ⟨rfl, 1, rfl, (by omega), (by omega), (by omega)⟩

abbrev Q259 (τ : Nat → Option Nat) (ρ : Nat → Nat → Nat) (h : pv_H) (a0 : Nat) (x1 : Int) (x2 : Int) (x3 : Int) : Option Value → pv_H → Prop := fun r h' => h = h' ∧ ∃ z : Int, r = some (.int (pv_I z)) ∧ (-2147483648) ≤ z ∧ z ≤ 2147483647
set_option maxHeartbeats 4000000 in
set_option maxRecDepth 20000 in
/-- AngleNetModel.turn(III)I -/
theorem ct259 {τ : Nat → Option Nat} {ρ : Nat → Nat → Nat} {K : Nat → Nat} {h : pv_H} {a0 : Nat} {x1 : Int} {x2 : Int} {x3 : Int} (hT : pv_Ty τ ρ h) (hA0 : τ a0 = some 7) (hX1 : (-2147483648) ≤ x1 ∧ x1 ≤ 2147483647) (hX2 : (-2147483648) ≤ x2 ∧ x2 ≤ 2147483647) (hX3 : (-2147483648) ≤ x3 ∧ x3 ≤ 2147483647) : pv_C K 259 [.ref a0, .int (pv_I x1), .int (pv_I x2), .int (pv_I x3)] h (Q259 τ ρ h a0 x1 x2 x3) := by
  refine pw_entry 0 ?_
  show pv_T K 259 0 (pv_fl [some (.ref a0), some (.int (pv_I x1)), some (.int (pv_I x2)), some (.int (pv_I x3))]) [] h (Q259 τ ρ h a0 x1 x2 x3)
  refine pw_aload_n d259_0 rfl ?_
  refine pw_iload_n d259_1 rfl ?_
  refine pw_iload_n d259_2 rfl ?_
  refine pw_iload_n d259_3 rfl ?_
  refine pw_callV3 d259_4 k259_337 hT hA0 rfl rfl rfl (ct260 (τ := τ) (ρ := ρ) hT hA0 (by omega) (by omega) (by omega)) (fun r4 h4 q4 => ?_)
  obtain ⟨eh4, z4, ez4, lz4, uz4, pz4_0⟩ := q4
  subst eh4
  subst ez4
  refine pw_if_eq d259_7 rfl (by omega) (fun c7 => ?_) (fun c7 => ?_)
  · refine pw_ldcw (v := pv_I (-1000000)) d259_20 n259_20 ?_
    exact pw_ireturn d259_23 tt259 ⟨rfl, (-1000000), rfl, (by omega), (by omega)⟩
  · refine pw_aload_n d259_10 rfl ?_
    refine pw_iload_n d259_11 rfl ?_
    refine pw_iload_n d259_12 rfl ?_
    refine pw_iload_n d259_13 rfl ?_
    refine pw_callV3 d259_14 k259_340 hT hA0 rfl rfl rfl (ct262 (τ := τ) (ρ := ρ) hT hA0 (by omega) (by omega) (by omega)) (fun r14 h14 q14 => ?_)
    obtain ⟨eh14, z14, ez14, lz14, uz14⟩ := q14
    subst eh14
    subst ez14
    refine pw_goto d259_17 rfl ?_
    exact pw_ireturn d259_23 tt259 ⟨rfl, z14, rfl, (by omega), (by omega)⟩

abbrev Q265 (τ : Nat → Option Nat) (ρ : Nat → Nat → Nat) (h : pv_H) (a0 : Nat) (x1 : Int) (x2 : Int) (x3 : Int) (x4 : Int) : Option Value → pv_H → Prop := fun r h' => h = h' ∧ ∃ z : Int, r = some (.long (pv_J z)) ∧ (-9223372036854775808) ≤ z ∧ z ≤ 9223372036854775807
set_option maxHeartbeats 4000000 in
set_option maxRecDepth 20000 in
/-- AngleNetModel.lifted(IIII)J -/
theorem ct265 {τ : Nat → Option Nat} {ρ : Nat → Nat → Nat} {K : Nat → Nat} {h : pv_H} {a0 : Nat} {x1 : Int} {x2 : Int} {x3 : Int} {x4 : Int} (hT : pv_Ty τ ρ h) (hA0 : τ a0 = some 7) (hX1 : 0 ≤ x1 ∧ x1 ≤ 9) (hX2 : 0 ≤ x2 ∧ x2 ≤ 9) (hX3 : 0 ≤ x3 ∧ x3 ≤ 9) (hX4 : 0 ≤ x4 ∧ x4 ≤ 9) : pv_C K 265 [.ref a0, .int (pv_I x1), .int (pv_I x2), .int (pv_I x3), .int (pv_I x4)] h (Q265 τ ρ h a0 x1 x2 x3 x4) := by
  refine pw_entry 4 ?_
  show pv_T K 265 0 (pv_fl [some (.ref a0), some (.int (pv_I x1)), some (.int (pv_I x2)), some (.int (pv_I x3)), some (.int (pv_I x4)), none, none, none, none]) [] h (Q265 τ ρ h a0 x1 x2 x3 x4)
  refine pw_aload_n d265_0 rfl ?_
  refine pw_iload_n d265_1 rfl ?_
  refine pw_iconst d265_2 ?_
  refine pw_callV2 d265_3 k265_232 hT hA0 rfl rfl rfl (ct215 (τ := τ) (ρ := ρ) hT hA0 (by omega) (by omega)) (fun r3 h3 q3 => ?_)
  obtain ⟨eh3, z3, ez3, lz3, uz3, pz3_0⟩ := q3
  subst eh3
  subst ez3
  refine pw_aload_n d265_6 rfl ?_
  refine pw_iload d265_7 rfl ?_
  refine pw_iconst d265_9 ?_
  refine pw_callV2 d265_10 k265_232 hT hA0 rfl rfl rfl (ct215 (τ := τ) (ρ := ρ) hT hA0 (by omega) (by omega)) (fun r10 h10 q10 => ?_)
  obtain ⟨eh10, z10, ez10, lz10, uz10, pz10_0⟩ := q10
  subst eh10
  subst ez10
  refine pw_isub d265_13 ?_
  refine pw_i2l d265_14 (by omega) ?_
  refine pw_lstore d265_15 m265 rfl rfl ?_
  refine pw_aload_n d265_17 rfl ?_
  refine pw_iload_n d265_18 rfl ?_
  refine pw_iconst d265_19 ?_
  refine pw_callV2 d265_20 k265_232 hT hA0 rfl rfl rfl (ct215 (τ := τ) (ρ := ρ) hT hA0 (by omega) (by omega)) (fun r20 h20 q20 => ?_)
  obtain ⟨eh20, z20, ez20, lz20, uz20, pz20_0⟩ := q20
  subst eh20
  subst ez20
  refine pw_aload_n d265_23 rfl ?_
  refine pw_iload d265_24 rfl ?_
  refine pw_iconst d265_26 ?_
  refine pw_callV2 d265_27 k265_232 hT hA0 rfl rfl rfl (ct215 (τ := τ) (ρ := ρ) hT hA0 (by omega) (by omega)) (fun r27 h27 q27 => ?_)
  obtain ⟨eh27, z27, ez27, lz27, uz27, pz27_0⟩ := q27
  subst eh27
  subst ez27
  refine pw_isub d265_30 ?_
  refine pw_i2l d265_31 (by omega) ?_
  refine pw_lstore d265_32 m265 rfl rfl ?_
  refine pw_lload d265_34 rfl ?_
  refine pw_lload d265_36 rfl ?_
  refine pw_lmul d265_38 ?_
  refine pw_anyl (fun z38 hz38 ez38 => ?_)
  refine pw_lload d265_39 rfl ?_
  refine pw_lload d265_41 rfl ?_
  refine pw_lmul d265_43 ?_
  refine pw_anyl (fun z43 hz43 ez43 => ?_)
  refine pw_ladd d265_44 ?_
  refine pw_aload_n d265_45 rfl ?_
  refine pw_iload d265_46 rfl ?_
  refine pw_iload_n d265_48 rfl ?_
  refine pw_iload_n d265_49 rfl ?_
  refine pw_callV3 d265_50 k265_340 hT hA0 rfl rfl rfl (ct262 (τ := τ) (ρ := ρ) hT hA0 (by omega) (by omega) (by omega)) (fun r50 h50 q50 => ?_)
  obtain ⟨eh50, z50, ez50, lz50, uz50⟩ := q50
  subst eh50
  subst ez50
  refine pw_i2l d265_53 (by omega) ?_
  refine pw_lmul d265_54 ?_
  refine pw_anyl (fun z54 hz54 ez54 => ?_)
  exact pw_lreturn d265_55 tt265 ⟨rfl, z54, rfl, (by omega), (by omega)⟩

abbrev Q264 (τ : Nat → Option Nat) (ρ : Nat → Nat → Nat) (h : pv_H) (a0 : Nat) (x1 : Int) (x2 : Int) (x3 : Int) (x4 : Int) : Option Value → pv_H → Prop := fun r h' => h = h' ∧ ∃ z : Int, r = some (.int (pv_I z)) ∧ (-1) ≤ z ∧ z ≤ 1
set_option maxHeartbeats 4000000 in
set_option maxRecDepth 20000 in
/-- AngleNetModel.insideOf(IIII)I -/
theorem ct264 {τ : Nat → Option Nat} {ρ : Nat → Nat → Nat} {K : Nat → Nat} {h : pv_H} {a0 : Nat} {x1 : Int} {x2 : Int} {x3 : Int} {x4 : Int} (hT : pv_Ty τ ρ h) (hA0 : τ a0 = some 7) (hX1 : 0 ≤ x1 ∧ x1 ≤ 9) (hX2 : 0 ≤ x2 ∧ x2 ≤ 9) (hX3 : 0 ≤ x3 ∧ x3 ≤ 9) (hX4 : 0 ≤ x4 ∧ x4 ≤ 9) : pv_C K 264 [.ref a0, .int (pv_I x1), .int (pv_I x2), .int (pv_I x3), .int (pv_I x4)] h (Q264 τ ρ h a0 x1 x2 x3 x4) := by
  refine pw_entry 3 ?_
  show pv_T K 264 0 (pv_fl [some (.ref a0), some (.int (pv_I x1)), some (.int (pv_I x2)), some (.int (pv_I x3)), some (.int (pv_I x4)), none, none, none]) [] h (Q264 τ ρ h a0 x1 x2 x3 x4)
  have J54 : ∀ (xS0_54 : Int) (o4_54 o5_54 o6_54 o7_54 : Option Value), (0 ≤ x1 ∧ x1 ≤ 9) → (0 ≤ x2 ∧ x2 ≤ 9) → (0 ≤ x3 ∧ x3 ≤ 9) → ((-1) ≤ xS0_54 ∧ xS0_54 ≤ 1) → pv_T K 264 54 (pv_fl [some (.ref a0), some (.int (pv_I x1)), some (.int (pv_I x2)), some (.int (pv_I x3)), o4_54, o5_54, o6_54, o7_54]) [.int (pv_I xS0_54)] h (Q264 τ ρ h a0 x1 x2 x3 x4) := by
    intro xS0_54 o4_54 o5_54 o6_54 o7_54 rL1_54 rL2_54 rL3_54 rS0_54
    refine pw_istore d264_54 m264 rfl rfl ?_
    refine pw_aload_n d264_56 rfl ?_
    refine pw_iload_n d264_57 rfl ?_
    refine pw_iload_n d264_58 rfl ?_
    refine pw_iload_n d264_59 rfl ?_
    refine pw_callV3 d264_60 k264_340 hT hA0 rfl rfl rfl (ct262 (τ := τ) (ρ := ρ) hT hA0 (by omega) (by omega) (by omega)) (fun r60 h60 q60 => ?_)
    obtain ⟨eh60, z60, ez60, lz60, uz60⟩ := q60
    subst eh60
    subst ez60
    refine pw_if_le d264_63 rfl (by omega) (fun c63 => ?_) (fun c63 => ?_)
    · refine pw_iload d264_71 rfl ?_
      refine pw_ineg d264_73 ?_
      exact pw_ireturn d264_74 tt264 ⟨rfl, (-xS0_54), rfl, (by omega), (by omega)⟩
    · refine pw_iload d264_66 rfl ?_
      refine pw_goto d264_68 rfl ?_
      exact pw_ireturn d264_74 tt264 ⟨rfl, xS0_54, rfl, (by omega), (by omega)⟩
  refine pw_aload_n d264_0 rfl ?_
  refine pw_iload_n d264_1 rfl ?_
  refine pw_iload_n d264_2 rfl ?_
  refine pw_iload_n d264_3 rfl ?_
  refine pw_iload d264_4 rfl ?_
  refine pw_callV4 d264_6 k264_343 hT hA0 rfl rfl rfl (ct265 (τ := τ) (ρ := ρ) hT hA0 (by omega) (by omega) (by omega) (by omega)) (fun r6 h6 q6 => ?_)
  obtain ⟨eh6, z6, ez6, lz6, uz6⟩ := q6
  subst eh6
  subst ez6
  refine pw_aload_n d264_9 rfl ?_
  refine pw_iload_n d264_10 rfl ?_
  refine pw_iload_n d264_11 rfl ?_
  refine pw_iload_n d264_12 rfl ?_
  refine pw_iload d264_13 rfl ?_
  refine pw_callV4 d264_15 k264_343 hT hA0 rfl rfl rfl (ct265 (τ := τ) (ρ := ρ) hT hA0 (by omega) (by omega) (by omega) (by omega)) (fun r15 h15 q15 => ?_)
  obtain ⟨eh15, z15, ez15, lz15, uz15⟩ := q15
  subst eh15
  subst ez15
  refine pw_lsub d264_18 ?_
  refine pw_aload_n d264_19 rfl ?_
  refine pw_iload_n d264_20 rfl ?_
  refine pw_iload_n d264_21 rfl ?_
  refine pw_iload_n d264_22 rfl ?_
  refine pw_iload d264_23 rfl ?_
  refine pw_callV4 d264_25 k264_343 hT hA0 rfl rfl rfl (ct265 (τ := τ) (ρ := ρ) hT hA0 (by omega) (by omega) (by omega) (by omega)) (fun r25 h25 q25 => ?_)
  obtain ⟨eh25, z25, ez25, lz25, uz25⟩ := q25
  subst eh25
  subst ez25
  refine pw_ladd d264_28 ?_
  refine pw_anyl (fun z29 hz29 ez29 => ?_)
  refine pw_lstore d264_29 m264 rfl rfl ?_
  refine pw_lload d264_31 rfl ?_
  refine pw_lconst (z := 0) d264_33 (by decide) ?_
  refine pw_lcmp d264_34 (by omega) (by omega) (fun z34 ez34 => ?_)
  refine pw_if_le d264_35 rfl (by omega) (fun c35 => ?_) (fun c35 => ?_)
  · refine pw_lload d264_42 rfl ?_
    refine pw_lconst (z := 0) d264_44 (by decide) ?_
    refine pw_lcmp d264_45 (by omega) (by omega) (fun z45 ez45 => ?_)
    refine pw_if_ge d264_46 rfl (by omega) (fun c46 => ?_) (fun c46 => ?_)
    · refine pw_iconst d264_53 ?_
      exact J54 (0) _ _ _ _ (by omega) (by omega) (by omega) (by omega)
    · refine pw_iconst d264_49 ?_
      refine pw_goto d264_50 rfl ?_
      exact J54 ((-1)) _ _ _ _ (by omega) (by omega) (by omega) (by omega)
  · refine pw_iconst d264_38 ?_
    refine pw_goto d264_39 rfl ?_
    exact J54 (1) _ _ _ _ (by omega) (by omega) (by omega) (by omega)

abbrev Q263 (τ : Nat → Option Nat) (ρ : Nat → Nat → Nat) (h : pv_H) (a0 : Nat) (x1 : Int) (x2 : Int) (x3 : Int) (x4 : Int) : Option Value → pv_H → Prop := fun r h' => h = h' ∧ ∃ z : Int, r = some (.int (pv_I z)) ∧ (-1000000) ≤ z ∧ z ≤ 1
set_option maxHeartbeats 4000000 in
set_option maxRecDepth 20000 in
/-- AngleNetModel.inside(IIII)I -/
theorem ct263 {τ : Nat → Option Nat} {ρ : Nat → Nat → Nat} {K : Nat → Nat} {h : pv_H} {a0 : Nat} {x1 : Int} {x2 : Int} {x3 : Int} {x4 : Int} (hT : pv_Ty τ ρ h) (hA0 : τ a0 = some 7) (hX1 : (-2147483648) ≤ x1 ∧ x1 ≤ 2147483647) (hX2 : (-2147483648) ≤ x2 ∧ x2 ≤ 2147483647) (hX3 : (-2147483648) ≤ x3 ∧ x3 ≤ 2147483647) (hX4 : (-2147483648) ≤ x4 ∧ x4 ≤ 2147483647) : pv_C K 263 [.ref a0, .int (pv_I x1), .int (pv_I x2), .int (pv_I x3), .int (pv_I x4)] h (Q263 τ ρ h a0 x1 x2 x3 x4) := by
  refine pw_entry 1 ?_
  show pv_T K 263 0 (pv_fl [some (.ref a0), some (.int (pv_I x1)), some (.int (pv_I x2)), some (.int (pv_I x3)), some (.int (pv_I x4)), none]) [] h (Q263 τ ρ h a0 x1 x2 x3 x4)
  refine pw_aload_n d263_0 rfl ?_
  refine pw_iload_n d263_1 rfl ?_
  refine pw_iload_n d263_2 rfl ?_
  refine pw_iload_n d263_3 rfl ?_
  refine pw_callV3 d263_4 k263_337 hT hA0 rfl rfl rfl (ct260 (τ := τ) (ρ := ρ) hT hA0 (by omega) (by omega) (by omega)) (fun r4 h4 q4 => ?_)
  obtain ⟨eh4, z4, ez4, lz4, uz4, pz4_0⟩ := q4
  subst eh4
  subst ez4
  refine pw_if_eq d263_7 rfl (by omega) (fun c7 => ?_) (fun c7 => ?_)
  · refine pw_iconst d263_51 ?_
    refine pw_istore d263_52 m263 rfl rfl ?_
    refine pw_iload d263_54 rfl ?_
    refine pw_if_eq d263_56 rfl (by omega) (fun c56 => ?_) (fun c56 => ?_)
    · refine pw_ldcw (v := pv_I (-1000000)) d263_71 n263_71 ?_
      exact pw_ireturn d263_74 tt263 ⟨rfl, (-1000000), rfl, (by omega), (by omega)⟩
    · exfalso; omega
  · refine pw_aload_n d263_10 rfl ?_
    refine pw_iload d263_11 rfl ?_
    refine pw_callV1 d263_13 k263_334 hT hA0 rfl rfl rfl (ct261 (τ := τ) (ρ := ρ) hT hA0 (by omega)) (fun r13 h13 q13 => ?_)
    obtain ⟨eh13, z13, ez13, lz13, uz13, pz13_0⟩ := q13
    subst eh13
    subst ez13
    refine pw_if_eq d263_16 rfl (by omega) (fun c16 => ?_) (fun c16 => ?_)
    · refine pw_iconst d263_51 ?_
      refine pw_istore d263_52 m263 rfl rfl ?_
      refine pw_iload d263_54 rfl ?_
      refine pw_if_eq d263_56 rfl (by omega) (fun c56 => ?_) (fun c56 => ?_)
      · refine pw_ldcw (v := pv_I (-1000000)) d263_71 n263_71 ?_
        exact pw_ireturn d263_74 tt263 ⟨rfl, (-1000000), rfl, (by omega), (by omega)⟩
      · exfalso; omega
    · refine pw_iload d263_19 rfl ?_
      refine pw_iload_n d263_21 rfl ?_
      refine pw_icmp_eq d263_22 rfl (by omega) (by omega) (fun c22 => ?_) (fun c22 => ?_)
      · refine pw_iconst d263_51 ?_
        refine pw_istore d263_52 m263 rfl rfl ?_
        refine pw_iload d263_54 rfl ?_
        refine pw_if_eq d263_56 rfl (by omega) (fun c56 => ?_) (fun c56 => ?_)
        · refine pw_ldcw (v := pv_I (-1000000)) d263_71 n263_71 ?_
          exact pw_ireturn d263_74 tt263 ⟨rfl, (-1000000), rfl, (by omega), (by omega)⟩
        · exfalso; omega
      · refine pw_iload d263_25 rfl ?_
        refine pw_iload_n d263_27 rfl ?_
        refine pw_icmp_eq d263_28 rfl (by omega) (by omega) (fun c28 => ?_) (fun c28 => ?_)
        · refine pw_iconst d263_51 ?_
          refine pw_istore d263_52 m263 rfl rfl ?_
          refine pw_iload d263_54 rfl ?_
          refine pw_if_eq d263_56 rfl (by omega) (fun c56 => ?_) (fun c56 => ?_)
          · refine pw_ldcw (v := pv_I (-1000000)) d263_71 n263_71 ?_
            exact pw_ireturn d263_74 tt263 ⟨rfl, (-1000000), rfl, (by omega), (by omega)⟩
          · exfalso; omega
        · refine pw_iload d263_31 rfl ?_
          refine pw_iload_n d263_33 rfl ?_
          refine pw_icmp_eq d263_34 rfl (by omega) (by omega) (fun c34 => ?_) (fun c34 => ?_)
          · refine pw_iconst d263_51 ?_
            refine pw_istore d263_52 m263 rfl rfl ?_
            refine pw_iload d263_54 rfl ?_
            refine pw_if_eq d263_56 rfl (by omega) (fun c56 => ?_) (fun c56 => ?_)
            · refine pw_ldcw (v := pv_I (-1000000)) d263_71 n263_71 ?_
              exact pw_ireturn d263_74 tt263 ⟨rfl, (-1000000), rfl, (by omega), (by omega)⟩
            · exfalso; omega
          · refine pw_aload_n d263_37 rfl ?_
            refine pw_iload_n d263_38 rfl ?_
            refine pw_iload_n d263_39 rfl ?_
            refine pw_iload_n d263_40 rfl ?_
            refine pw_callV3 d263_41 k263_340 hT hA0 rfl rfl rfl (ct262 (τ := τ) (ρ := ρ) hT hA0 (by omega) (by omega) (by omega)) (fun r41 h41 q41 => ?_)
            obtain ⟨eh41, z41, ez41, lz41, uz41⟩ := q41
            subst eh41
            subst ez41
            refine pw_if_eq d263_44 rfl (by omega) (fun c44 => ?_) (fun c44 => ?_)
            · refine pw_iconst d263_51 ?_
              refine pw_istore d263_52 m263 rfl rfl ?_
              refine pw_iload d263_54 rfl ?_
              refine pw_if_eq d263_56 rfl (by omega) (fun c56 => ?_) (fun c56 => ?_)
              · refine pw_ldcw (v := pv_I (-1000000)) d263_71 n263_71 ?_
                exact pw_ireturn d263_74 tt263 ⟨rfl, (-1000000), rfl, (by omega), (by omega)⟩
              · exfalso; omega
            · refine pw_iconst d263_47 ?_
              refine pw_goto d263_48 rfl ?_
              refine pw_istore d263_52 m263 rfl rfl ?_
              refine pw_iload d263_54 rfl ?_
              refine pw_if_eq d263_56 rfl (by omega) (fun c56 => ?_) (fun c56 => ?_)
              · exfalso; omega
              · refine pw_aload_n d263_59 rfl ?_
                refine pw_iload_n d263_60 rfl ?_
                refine pw_iload_n d263_61 rfl ?_
                refine pw_iload_n d263_62 rfl ?_
                refine pw_iload d263_63 rfl ?_
                refine pw_callV4 d263_65 k263_347 hT hA0 rfl rfl rfl (ct264 (τ := τ) (ρ := ρ) hT hA0 (by omega) (by omega) (by omega) (by omega)) (fun r65 h65 q65 => ?_)
                obtain ⟨eh65, z65, ez65, lz65, uz65⟩ := q65
                subst eh65
                subst ez65
                refine pw_goto d263_68 rfl ?_
                exact pw_ireturn d263_74 tt263 ⟨rfl, z65, rfl, (by omega), (by omega)⟩

abbrev Q270 (τ : Nat → Option Nat) (ρ : Nat → Nat → Nat) (h : pv_H) (x0 : Int) (x1 : Int) (x2 : Int) (x3 : Int) : Option Value → pv_H → Prop := fun r h' => h = h' ∧ ∃ z : Int, r = some (.int (pv_I z)) ∧ 0 ≤ z ∧ z ≤ 1
set_option maxHeartbeats 4000000 in
set_option maxRecDepth 20000 in
/-- AngleNetModel.areLike(IIII)Z -/
theorem ct270 {τ : Nat → Option Nat} {ρ : Nat → Nat → Nat} {K : Nat → Nat} {h : pv_H} {x0 : Int} {x1 : Int} {x2 : Int} {x3 : Int} (hX0 : (-2147483648) ≤ x0 ∧ x0 ≤ 2147483647) (hX1 : (-2147483648) ≤ x1 ∧ x1 ≤ 2147483647) (hX2 : (-2147483648) ≤ x2 ∧ x2 ≤ 2147483647) (hX3 : (-2147483648) ≤ x3 ∧ x3 ≤ 2147483647) : pv_C K 270 [.int (pv_I x0), .int (pv_I x1), .int (pv_I x2), .int (pv_I x3)] h (Q270 τ ρ h x0 x1 x2 x3) := by
  refine pw_entry 0 ?_
  show pv_T K 270 0 (pv_fl [some (.int (pv_I x0)), some (.int (pv_I x1)), some (.int (pv_I x2)), some (.int (pv_I x3))]) [] h (Q270 τ ρ h x0 x1 x2 x3)
  have J16 : ∀ (_ : Unit), ((-2147483648) ≤ x0 ∧ x0 ≤ 2147483647) → ((-2147483648) ≤ x1 ∧ x1 ≤ 2147483647) → ((-2147483648) ≤ x2 ∧ x2 ≤ 2147483647) → ((-2147483648) ≤ x3 ∧ x3 ≤ 2147483647) → pv_T K 270 16 (pv_fl [some (.int (pv_I x0)), some (.int (pv_I x1)), some (.int (pv_I x2)), some (.int (pv_I x3))]) [] h (Q270 τ ρ h x0 x1 x2 x3) := by
    intro _ rL0_16 rL1_16 rL2_16 rL3_16
    refine pw_iload_n d270_16 rfl ?_
    refine pw_if_ge d270_17 rfl (by omega) (fun c17 => ?_) (fun c17 => ?_)
    · refine pw_iconst d270_36 ?_
      exact pw_zreturn d270_37 tt270 (by omega) ⟨rfl, 0, rfl, (by omega), (by omega)⟩
    · refine pw_iload_n d270_20 rfl ?_
      refine pw_if_ge d270_21 rfl (by omega) (fun c21 => ?_) (fun c21 => ?_)
      · refine pw_iconst d270_36 ?_
        exact pw_zreturn d270_37 tt270 (by omega) ⟨rfl, 0, rfl, (by omega), (by omega)⟩
      · refine pw_iload_n d270_24 rfl ?_
        refine pw_if_ge d270_25 rfl (by omega) (fun c25 => ?_) (fun c25 => ?_)
        · refine pw_iconst d270_36 ?_
          exact pw_zreturn d270_37 tt270 (by omega) ⟨rfl, 0, rfl, (by omega), (by omega)⟩
        · refine pw_iload_n d270_28 rfl ?_
          refine pw_if_ge d270_29 rfl (by omega) (fun c29 => ?_) (fun c29 => ?_)
          · refine pw_iconst d270_36 ?_
            exact pw_zreturn d270_37 tt270 (by omega) ⟨rfl, 0, rfl, (by omega), (by omega)⟩
          · refine pw_iconst d270_32 ?_
            refine pw_goto d270_33 rfl ?_
            exact pw_zreturn d270_37 tt270 (by omega) ⟨rfl, 1, rfl, (by omega), (by omega)⟩
  refine pw_iload_n d270_0 rfl ?_
  refine pw_if_le d270_1 rfl (by omega) (fun c1 => ?_) (fun c1 => ?_)
  · exact J16 () (by omega) (by omega) (by omega) (by omega)
  · refine pw_iload_n d270_4 rfl ?_
    refine pw_if_le d270_5 rfl (by omega) (fun c5 => ?_) (fun c5 => ?_)
    · exact J16 () (by omega) (by omega) (by omega) (by omega)
    · refine pw_iload_n d270_8 rfl ?_
      refine pw_if_le d270_9 rfl (by omega) (fun c9 => ?_) (fun c9 => ?_)
      · exact J16 () (by omega) (by omega) (by omega) (by omega)
      · refine pw_iload_n d270_12 rfl ?_
        refine pw_if_gt d270_13 rfl (by omega) (fun c13 => ?_) (fun c13 => ?_)
        · refine pw_iconst d270_32 ?_
          refine pw_goto d270_33 rfl ?_
          exact pw_zreturn d270_37 tt270 (by omega) ⟨rfl, 1, rfl, (by omega), (by omega)⟩
        · exact J16 () (by omega) (by omega) (by omega) (by omega)

abbrev Q274 (τ : Nat → Option Nat) (ρ : Nat → Nat → Nat) (h : pv_H) (a0 : Nat) (x1 : Int) (x2 : Int) (x3 : Int) : Option Value → pv_H → Prop := fun r h' => pv_Ty τ ρ h' ∧ pv_Fr τ [2623] h h' ∧ r = none
set_option maxHeartbeats 4000000 in
set_option maxRecDepth 20000 in
/-- AngleNetModel.setWeight(III)V -/
theorem ct274 {τ : Nat → Option Nat} {ρ : Nat → Nat → Nat} {K : Nat → Nat} {h : pv_H} {a0 : Nat} {x1 : Int} {x2 : Int} {x3 : Int} (hT : pv_Ty τ ρ h) (hA0 : τ a0 = some 7) (hX1 : 0 ≤ x1 ∧ x1 ≤ 9) (hX2 : 0 ≤ x2 ∧ x2 ≤ 9) (hX3 : 0 ≤ x3 ∧ x3 ≤ 360) : pv_C K 274 [.ref a0, .int (pv_I x1), .int (pv_I x2), .int (pv_I x3)] h (Q274 τ ρ h a0 x1 x2 x3) := by
  refine pw_entry 0 ?_
  show pv_T K 274 0 (pv_fl [some (.ref a0), some (.int (pv_I x1)), some (.int (pv_I x2)), some (.int (pv_I x3))]) [] h (Q274 τ ρ h a0 x1 x2 x3)
  have hF0 : pv_Fr τ [2623] h h := pv_Fr.rf
  refine pw_aload_n d274_0 rfl ?_
  refine pw_getR d274_1 g274_9 hT hA0 rfl rfl (fun t1 => ?_)
  have t1 : τ (ρ a0 1) = some 40 := t1
  refine pw_bipush d274_4 (by decide) ?_
  refine pw_bipush d274_6 (by decide) ?_
  refine pw_iload_n d274_8 rfl ?_
  refine pw_imul d274_9 ?_
  refine pw_iadd d274_10 ?_
  refine pw_iload_n d274_11 rfl ?_
  refine pw_iadd d274_12 ?_
  refine pw_iload_n d274_13 rfl ?_
  refine pw_iastB d274_14 hT t1 rfl rfl rfl (by omega) (by omega) (by omega) (by show pv_wok _ _; unfold pv_wok; omega) (fun h14 T14 F14 E14 => ?_)
  have f14 := hF0.tr (F14.up (by decide))
  refine pw_aload_n d274_15 rfl ?_
  refine pw_getR d274_16 g274_9 T14 hA0 rfl rfl (fun t16 => ?_)
  have t16 : τ (ρ a0 1) = some 40 := t16
  refine pw_bipush d274_19 (by decide) ?_
  refine pw_bipush d274_21 (by decide) ?_
  refine pw_iload_n d274_23 rfl ?_
  refine pw_imul d274_24 ?_
  refine pw_iadd d274_25 ?_
  refine pw_iload_n d274_26 rfl ?_
  refine pw_iadd d274_27 ?_
  refine pw_iload_n d274_28 rfl ?_
  refine pw_iastB d274_29 T14 t16 rfl rfl rfl (by omega) (by omega) (by omega) (by show pv_wok _ _; unfold pv_wok; omega) (fun h29 T29 F29 E29 => ?_)
  have f29 := f14.tr (F29.up (by decide))
  exact pw_return d274_30 tt274 ⟨T29, f29, rfl⟩

abbrev Q283 (τ : Nat → Option Nat) (ρ : Nat → Nat → Nat) (h : pv_H) (a0 : Nat) (x1 : Int) (x2 : Int) : Option Value → pv_H → Prop := fun r h' => h = h' ∧ ∃ z : Int, r = some (.int (pv_I z)) ∧ (-2147483648) ≤ z ∧ z ≤ 2147483647
set_option maxHeartbeats 4000000 in
set_option maxRecDepth 20000 in
/-- AngleNetModel.weightOf(II)I -/
theorem ct283 {τ : Nat → Option Nat} {ρ : Nat → Nat → Nat} {K : Nat → Nat} {h : pv_H} {a0 : Nat} {x1 : Int} {x2 : Int} (hT : pv_Ty τ ρ h) (hA0 : τ a0 = some 7) (hX1 : 0 ≤ x1 ∧ x1 ≤ 9) (hX2 : (-9) ≤ x2 ∧ x2 ≤ 9) : pv_C K 283 [.ref a0, .int (pv_I x1), .int (pv_I x2)] h (Q283 τ ρ h a0 x1 x2) := by
  refine pw_entry 0 ?_
  show pv_T K 283 0 (pv_fl [some (.ref a0), some (.int (pv_I x1)), some (.int (pv_I x2))]) [] h (Q283 τ ρ h a0 x1 x2)
  refine pw_aload_n d283_0 rfl ?_
  refine pw_getR d283_1 g283_9 hT hA0 rfl rfl (fun t1 => ?_)
  have t1 : τ (ρ a0 1) = some 40 := t1
  refine pw_bipush d283_4 (by decide) ?_
  refine pw_bipush d283_6 (by decide) ?_
  refine pw_iload_n d283_8 rfl ?_
  refine pw_imul d283_9 ?_
  refine pw_iadd d283_10 ?_
  refine pw_iload_n d283_11 rfl ?_
  refine pw_iadd d283_12 ?_
  refine pw_ialdB d283_13 hT t1 rfl rfl (by omega) (by omega) (fun u13 => ?_)
  have u13 : pv_wok (((120 + (10 * x1)) + x2)) (pv_aI h (ρ a0 1) (((120 + (10 * x1)) + x2)).toNat) := u13
  have vu13 := u13.1
  exact pw_ireturn d283_14 tt283 ⟨rfl, (pv_aI h (ρ a0 1) (((120 + (10 * x1)) + x2)).toNat), rfl, (by omega), (by omega)⟩

abbrev Q282 (τ : Nat → Option Nat) (ρ : Nat → Nat → Nat) (h : pv_H) (a0 : Nat) (x1 : Int) (x2 : Int) (x3 : Int) : Option Value → pv_H → Prop := fun r h' => pv_Ty τ ρ h' ∧ pv_Fr τ [2623] h h' ∧ ∃ z : Int, r = some (.int (pv_I z)) ∧ (-2147483648) ≤ z ∧ z ≤ 2147483647
set_option maxHeartbeats 4000000 in
set_option maxRecDepth 20000 in
/-- AngleNetModel.weigh(III)I -/
theorem ct282 {τ : Nat → Option Nat} {ρ : Nat → Nat → Nat} {K : Nat → Nat} {h : pv_H} {a0 : Nat} {x1 : Int} {x2 : Int} {x3 : Int} (hT : pv_Ty τ ρ h) (hA0 : τ a0 = some 7) (hX1 : (-2147483648) ≤ x1 ∧ x1 ≤ 2147483647) (hX2 : (-2147483648) ≤ x2 ∧ x2 ≤ 2147483647) (hX3 : (-2147483648) ≤ x3 ∧ x3 ≤ 2147483647) : pv_C K 282 [.ref a0, .int (pv_I x1), .int (pv_I x2), .int (pv_I x3)] h (Q282 τ ρ h a0 x1 x2 x3) := by
  refine pw_entry 1 ?_
  show pv_T K 282 0 (pv_fl [some (.ref a0), some (.int (pv_I x1)), some (.int (pv_I x2)), some (.int (pv_I x3)), none]) [] h (Q282 τ ρ h a0 x1 x2 x3)
  have hF0 : pv_Fr τ [2623] h h := pv_Fr.rf
  refine pw_aload_n d282_0 rfl ?_
  refine pw_iload_n d282_1 rfl ?_
  refine pw_iload_n d282_2 rfl ?_
  refine pw_callV2 d282_3 k282_235 hT hA0 rfl rfl rfl (ct220 (τ := τ) (ρ := ρ) hT hA0 (by omega) (by omega)) (fun r3 h3 q3 => ?_)
  obtain ⟨eh3, z3, ez3, lz3, uz3, pz3_0⟩ := q3
  subst eh3
  subst ez3
  refine pw_if_eq d282_6 rfl (by omega) (fun c6 => ?_) (fun c6 => ?_)
  · refine pw_bipush d282_30 (by decide) ?_
    exact pw_ireturn d282_32 tt282 ⟨hT, hF0, (-2), rfl, (by omega), (by omega)⟩
  · refine pw_aload_n d282_9 rfl ?_
    refine pw_iload_n d282_10 rfl ?_
    refine pw_iload_n d282_11 rfl ?_
    refine pw_callV2 d282_12 k282_221 hT hA0 rfl rfl rfl (ct217 (τ := τ) (ρ := ρ) hT hA0 (by omega) (by omega)) (fun r12 h12 q12 => ?_)
    obtain ⟨eh12, z12, ez12, lz12, uz12⟩ := q12
    subst eh12
    subst ez12
    refine pw_if_eq d282_15 rfl (by omega) (fun c15 => ?_) (fun c15 => ?_)
    · refine pw_bipush d282_30 (by decide) ?_
      exact pw_ireturn d282_32 tt282 ⟨hT, hF0, (-2), rfl, (by omega), (by omega)⟩
    · refine pw_iload_n d282_18 rfl ?_
      refine pw_i2l d282_19 (by omega) ?_
      refine pw_lconst (z := 0) d282_20 (by decide) ?_
      refine pw_ldc2 (v := pv_J 360) d282_21 n282_21 ?_
      refine pw_callS3 d282_24 k282_73 rfl rfl (ct184 (τ := τ) (ρ := ρ) (by omega) (by omega) (by omega)) (fun r24 h24 q24 => ?_)
      obtain ⟨eh24, z24, ez24, lz24, uz24, pz24_0⟩ := q24
      subst eh24
      subst ez24
      refine pw_if_ne d282_27 rfl (by omega) (fun c27 => ?_) (fun c27 => ?_)
      · refine pw_aload_n d282_33 rfl ?_
        refine pw_iload_n d282_34 rfl ?_
        refine pw_iload_n d282_35 rfl ?_
        refine pw_callV2 d282_36 k282_404 hT hA0 rfl rfl rfl (ct283 (τ := τ) (ρ := ρ) hT hA0 (by omega) (by omega)) (fun r36 h36 q36 => ?_)
        obtain ⟨eh36, z36, ez36, lz36, uz36⟩ := q36
        subst eh36
        subst ez36
        refine pw_istore d282_39 m282 rfl rfl ?_
        refine pw_aload_n d282_41 rfl ?_
        refine pw_iload_n d282_42 rfl ?_
        refine pw_iload_n d282_43 rfl ?_
        refine pw_iload_n d282_44 rfl ?_
        refine pw_callV3 d282_45 k282_368 hT hA0 rfl rfl rfl (ct274 (τ := τ) (ρ := ρ) hT hA0 (by omega) (by omega) (by omega)) (fun r45 h45 q45 => ?_)
        obtain ⟨T45, F45, ez45⟩ := q45
        subst ez45
        have f45 := hF0.tr (F45.up (by decide))
        refine pw_iload d282_48 rfl ?_
        exact pw_ireturn d282_50 tt282 ⟨T45, f45, z36, rfl, (by omega), (by omega)⟩
      · refine pw_bipush d282_30 (by decide) ?_
        exact pw_ireturn d282_32 tt282 ⟨hT, hF0, (-2), rfl, (by omega), (by omega)⟩

abbrev Q285 (τ : Nat → Option Nat) (ρ : Nat → Nat → Nat) (h : pv_H) (a0 : Nat) : Option Value → pv_H → Prop := fun r h' => h = h' ∧ ∃ z : Int, r = some (.int (pv_I z)) ∧ 0 ≤ z ∧ z ≤ 1
set_option maxHeartbeats 4000000 in
set_option maxRecDepth 20000 in
/-- AngleNetModel.isBall()Z -/
theorem ct285 {τ : Nat → Option Nat} {ρ : Nat → Nat → Nat} {K : Nat → Nat} {h : pv_H} {a0 : Nat} (hT : pv_Ty τ ρ h) (hA0 : τ a0 = some 7) : pv_C K 285 [.ref a0] h (Q285 τ ρ h a0) := by
  refine pw_entry 0 ?_
  show pv_T K 285 0 (pv_fl [some (.ref a0)]) [] h (Q285 τ ρ h a0)
  refine pw_aload_n d285_0 rfl ?_
  refine pw_callV0 d285_1 k285_268 hT hA0 rfl rfl rfl (ct229 (τ := τ) (ρ := ρ) hT hA0) (fun r1 h1 q1 => ?_)
  obtain ⟨eh1, z1, ez1, lz1, uz1⟩ := q1
  subst eh1
  subst ez1
  refine pw_if_eq d285_4 rfl (by omega) (fun c4 => ?_) (fun c4 => ?_)
  · refine pw_iconst d285_39 ?_
    exact pw_zreturn d285_40 tt285 (by omega) ⟨rfl, 0, rfl, (by omega), (by omega)⟩
  · refine pw_aload_n d285_7 rfl ?_
    refine pw_aload_n d285_8 rfl ?_
    refine pw_callV0 d285_9 k285_259 hT hA0 rfl rfl rfl (ct226 (τ := τ) (ρ := ρ) hT hA0) (fun r9 h9 q9 => ?_)
    obtain ⟨eh9, z9, ez9, lz9, uz9⟩ := q9
    subst eh9
    subst ez9
    refine pw_iconst d285_12 ?_
    refine pw_callV2 d285_13 k285_274 hT hA0 rfl rfl rfl (ct232 (τ := τ) (ρ := ρ) hT hA0 (by omega) (by omega)) (fun r13 h13 q13 => ?_)
    obtain ⟨eh13, z13, ez13, lz13, uz13⟩ := q13
    subst eh13
    subst ez13
    refine pw_iconst d285_16 ?_
    refine pw_icmp_ne d285_17 rfl (by omega) (by omega) (fun c17 => ?_) (fun c17 => ?_)
    · refine pw_iconst d285_39 ?_
      exact pw_zreturn d285_40 tt285 (by omega) ⟨rfl, 0, rfl, (by omega), (by omega)⟩
    · refine pw_aload_n d285_20 rfl ?_
      refine pw_callV0 d285_21 k285_277 hT hA0 rfl rfl rfl (ct225 (τ := τ) (ρ := ρ) hT hA0) (fun r21 h21 q21 => ?_)
      obtain ⟨eh21, z21, ez21, lz21, uz21⟩ := q21
      subst eh21
      subst ez21
      refine pw_iconst d285_24 ?_
      refine pw_icmp_ne d285_25 rfl (by omega) (by omega) (fun c25 => ?_) (fun c25 => ?_)
      · refine pw_iconst d285_39 ?_
        exact pw_zreturn d285_40 tt285 (by omega) ⟨rfl, 0, rfl, (by omega), (by omega)⟩
      · refine pw_aload_n d285_28 rfl ?_
        refine pw_callV0 d285_29 k285_286 hT hA0 rfl rfl rfl (ct237 (τ := τ) (ρ := ρ) hT hA0) (fun r29 h29 q29 => ?_)
        obtain ⟨eh29, z29, ez29, lz29, uz29⟩ := q29
        subst eh29
        subst ez29
        refine pw_if_ne d285_32 rfl (by omega) (fun c32 => ?_) (fun c32 => ?_)
        · refine pw_iconst d285_39 ?_
          exact pw_zreturn d285_40 tt285 (by omega) ⟨rfl, 0, rfl, (by omega), (by omega)⟩
        · refine pw_iconst d285_35 ?_
          refine pw_goto d285_36 rfl ?_
          exact pw_zreturn d285_40 tt285 (by omega) ⟨rfl, 1, rfl, (by omega), (by omega)⟩

abbrev Q288 (τ : Nat → Option Nat) (ρ : Nat → Nat → Nat) (h : pv_H) (a0 : Nat) (x1 : Int) : Option Value → pv_H → Prop := fun r h' => h = h' ∧ ∃ z : Int, r = some (.int (pv_I z)) ∧ (-2147483648) ≤ z ∧ z ≤ 2147483647
set_option maxHeartbeats 4000000 in
set_option maxRecDepth 20000 in
/-- AngleNetModel.cutOf(I)I -/
theorem ct288 {τ : Nat → Option Nat} {ρ : Nat → Nat → Nat} {K : Nat → Nat} {h : pv_H} {a0 : Nat} {x1 : Int} (hT : pv_Ty τ ρ h) (hA0 : τ a0 = some 7) (hX1 : (-2147483648) ≤ x1 ∧ x1 ≤ 2147483647) : pv_C K 288 [.ref a0, .int (pv_I x1)] h (Q288 τ ρ h a0 x1) := by
  refine pw_entry 3 ?_
  show pv_T K 288 0 (pv_fl [some (.ref a0), some (.int (pv_I x1)), none, none, none]) [] h (Q288 τ ρ h a0 x1)
  have L4 : ∀ (nn : Nat) (xL2_4 xL3_4 : Int) (o4_4 : Option Value), ((-2147483648) ≤ x1 ∧ x1 ≤ 2147483647) → ((-2147483648) ≤ xL2_4 ∧ xL2_4 ≤ 2147483647) → (0 ≤ xL3_4 ∧ xL3_4 ≤ 10) → 10 - xL3_4 < nn → pv_T K 288 4 (pv_fl [some (.ref a0), some (.int (pv_I x1)), some (.int (pv_I xL2_4)), some (.int (pv_I xL3_4)), o4_4]) [] h (Q288 τ ρ h a0 x1) := by
    intro nn
    induction nn with
    | zero => intro xL2_4 xL3_4 o4_4 rL1_4 rL2_4 rL3_4 hm; exfalso; omega
    | succ nn ih4 =>
      intro xL2_4 xL3_4 o4_4 rL1_4 rL2_4 rL3_4 hm4
      have L17 : ∀ (nn : Nat) (xL2_17 xL4_17 : Int), ((-2147483648) ≤ x1 ∧ x1 ≤ 2147483647) → ((-2147483648) ≤ xL2_17 ∧ xL2_17 ≤ 2147483647) → (0 ≤ xL3_4 ∧ xL3_4 ≤ 9) → (0 ≤ xL4_17 ∧ xL4_17 ≤ 10) → 10 - xL4_17 < nn → pv_T K 288 17 (pv_fl [some (.ref a0), some (.int (pv_I x1)), some (.int (pv_I xL2_17)), some (.int (pv_I xL3_4)), some (.int (pv_I xL4_17))]) [] h (Q288 τ ρ h a0 x1) := by
        intro nn
        induction nn with
        | zero => intro xL2_17 xL4_17 rL1_17 rL2_17 rL3_17 rL4_17 hm; exfalso; omega
        | succ nn ih17 =>
          intro xL2_17 xL4_17 rL1_17 rL2_17 rL3_17 rL4_17 hm17
          have J59 : ∀ (xS0_59 xS1_59 : Int) (o2_59 : Option Value), ((-2147483648) ≤ x1 ∧ x1 ≤ 2147483647) → (1 ≤ xL3_4 ∧ xL3_4 ≤ 9) → (0 ≤ xL4_17 ∧ xL4_17 ≤ 9) → ((-2147483648) ≤ xS0_59 ∧ xS0_59 ≤ 2147483647) → ((-2147483648) ≤ xS1_59 ∧ xS1_59 ≤ 2147483647) → pv_T K 288 59 (pv_fl [some (.ref a0), some (.int (pv_I x1)), o2_59, some (.int (pv_I xL3_4)), some (.int (pv_I xL4_17))]) [.int (pv_I xS0_59), .int (pv_I xS1_59)] h (Q288 τ ρ h a0 x1) := by
            intro xS0_59 xS1_59 o2_59 rL1_59 rL3_59 rL4_59 rS0_59 rS1_59
            refine pw_iadd d288_59 ?_
            refine pw_any (fun z60 hz60 ez60 => ?_)
            refine pw_istore_n d288_60 m288 rfl rfl ?_
            refine pw_iinc d288_61 m288 rfl rfl rfl ?_
            refine pw_goto d288_64 rfl ?_
            exact ih17 (z60) ((xL4_17 + 1)) (by omega) (by omega) (by omega) (by omega) (by omega)
          have J58 : ∀ (xS0_58 : Int) (o2_58 : Option Value), ((-2147483648) ≤ x1 ∧ x1 ≤ 2147483647) → (1 ≤ xL3_4 ∧ xL3_4 ≤ 9) → (0 ≤ xL4_17 ∧ xL4_17 ≤ 9) → ((-2147483648) ≤ xS0_58 ∧ xS0_58 ≤ 2147483647) → pv_T K 288 58 (pv_fl [some (.ref a0), some (.int (pv_I x1)), o2_58, some (.int (pv_I xL3_4)), some (.int (pv_I xL4_17))]) [.int (pv_I xS0_58)] h (Q288 τ ρ h a0 x1) := by
            intro xS0_58 o2_58 rL1_58 rL3_58 rL4_58 rS0_58
            refine pw_iconst d288_58 ?_
            exact J59 (0) (xS0_58) _ (by omega) (by omega) (by omega) (by omega) (by omega)
          refine pw_iload d288_17 rfl ?_
          refine pw_iload_n d288_19 rfl ?_
          refine pw_icmp_ge d288_20 rfl (by omega) (by omega) (fun c20 => ?_) (fun c20 => ?_)
          · refine pw_iinc d288_67 m288 rfl rfl rfl ?_
            refine pw_goto d288_70 rfl ?_
            exact ih4 (xL2_17) ((xL3_4 + 1)) _ (by omega) (by omega) (by omega) (by omega)
          · refine pw_iload_n d288_23 rfl ?_
            refine pw_aload_n d288_24 rfl ?_
            refine pw_iload_n d288_25 rfl ?_
            refine pw_iload d288_26 rfl ?_
            refine pw_callV2 d288_28 k288_221 hT hA0 rfl rfl rfl (ct217 (τ := τ) (ρ := ρ) hT hA0 (by omega) (by omega)) (fun r28 h28 q28 => ?_)
            obtain ⟨eh28, z28, ez28, lz28, uz28⟩ := q28
            subst eh28
            subst ez28
            refine pw_if_eq d288_31 rfl (by omega) (fun c31 => ?_) (fun c31 => ?_)
            · exact J58 (xL2_17) _ (by omega) (by omega) (by omega) (by omega)
            · refine pw_iload_n d288_34 rfl ?_
              refine pw_iload_n d288_35 rfl ?_
              refine pw_ishr d288_36 (fun z36 hz36 ez36 => ?_)
              refine pw_iconst d288_37 ?_
              refine pw_iand d288_38 (fun z38 hz38 ez38 => ?_)
              have bz38 := pv_and1_b hz38 ez38
              refine pw_iload_n d288_39 rfl ?_
              refine pw_iload d288_40 rfl ?_
              refine pw_ishr d288_42 (fun z42 hz42 ez42 => ?_)
              refine pw_iconst d288_43 ?_
              refine pw_iand d288_44 (fun z44 hz44 ez44 => ?_)
              have bz44 := pv_and1_b hz44 ez44
              refine pw_icmp_eq d288_45 rfl (by omega) (by omega) (fun c45 => ?_) (fun c45 => ?_)
              · exact J58 (xL2_17) _ (by omega) (by omega) (by omega) (by omega)
              · refine pw_aload_n d288_48 rfl ?_
                refine pw_iload_n d288_49 rfl ?_
                refine pw_iload d288_50 rfl ?_
                refine pw_callV2 d288_52 k288_404 hT hA0 rfl rfl rfl (ct283 (τ := τ) (ρ := ρ) hT hA0 (by omega) (by omega)) (fun r52 h52 q52 => ?_)
                obtain ⟨eh52, z52, ez52, lz52, uz52⟩ := q52
                subst eh52
                subst ez52
                refine pw_goto d288_55 rfl ?_
                exact J59 (z52) (xL2_17) _ (by omega) (by omega) (by omega) (by omega) (by omega)
      refine pw_iload_n d288_4 rfl ?_
      refine pw_aload_n d288_5 rfl ?_
      refine pw_getR d288_6 g288_9 hT hA0 rfl rfl (fun t6 => ?_)
      have t6 : τ (ρ a0 1) = some 40 := t6
      refine pw_iconst d288_9 ?_
      refine pw_ialdB d288_10 hT t6 rfl rfl (by omega) (by omega) (fun u10 => ?_)
      have u10 : pv_wok ((0 : Int)) (pv_aI h (ρ a0 1) ((0 : Int)).toNat) := u10
      have vu10 := u10.2.1 (by omega)
      refine pw_icmp_ge d288_11 rfl (by omega) (by omega) (fun c11 => ?_) (fun c11 => ?_)
      · refine pw_iload_n d288_73 rfl ?_
        exact pw_ireturn d288_74 tt288 ⟨rfl, xL2_4, rfl, (by omega), (by omega)⟩
      · refine pw_iconst d288_14 ?_
        refine pw_istore d288_15 m288 rfl rfl ?_
        exact L17 _ (xL2_4) (0) (by omega) (by omega) (by omega) (by omega) (pv_mu _)
  refine pw_iconst d288_0 ?_
  refine pw_istore_n d288_1 m288 rfl rfl ?_
  refine pw_iconst d288_2 ?_
  refine pw_istore_n d288_3 m288 rfl rfl ?_
  exact L4 _ (0) (0) _ (by omega) (by omega) (by omega) (pv_mu _)

abbrev Q286 (τ : Nat → Option Nat) (ρ : Nat → Nat → Nat) (h : pv_H) (a0 : Nat) : Option Value → pv_H → Prop := fun r h' => h = h' ∧ ∃ z : Int, r = some (.int (pv_I z)) ∧ (-1) ≤ z ∧ z ≤ 99
set_option maxHeartbeats 4000000 in
set_option maxRecDepth 20000 in
/-- AngleNetModel.badWeight()I -/
theorem ct286 {τ : Nat → Option Nat} {ρ : Nat → Nat → Nat} {K : Nat → Nat} {h : pv_H} {a0 : Nat} (hT : pv_Ty τ ρ h) (hA0 : τ a0 = some 7) : pv_C K 286 [.ref a0] h (Q286 τ ρ h a0) := by
  refine pw_entry 3 ?_
  show pv_T K 286 0 (pv_fl [some (.ref a0), none, none, none]) [] h (Q286 τ ρ h a0)
  have L7 : ∀ (nn : Nat) (xL1_7 xL2_7 : Int) (o3_7 : Option Value), ((-2147483648) ≤ xL1_7 ∧ xL1_7 ≤ 2147483647) → (0 ≤ xL2_7 ∧ xL2_7 ≤ 2147483647) → 2147483647 - xL2_7 < nn → pv_T K 286 7 (pv_fl [some (.ref a0), some (.int (pv_I xL1_7)), some (.int (pv_I xL2_7)), o3_7]) [] h (Q286 τ ρ h a0) := by
    intro nn
    induction nn with
    | zero => intro xL1_7 xL2_7 o3_7 rL1_7 rL2_7 hm; exfalso; omega
    | succ nn ih7 =>
      intro xL1_7 xL2_7 o3_7 rL1_7 rL2_7 hm7
      refine pw_iload_n d286_7 rfl ?_
      refine pw_iload_n d286_8 rfl ?_
      refine pw_icmp_ge d286_9 rfl (by omega) (by omega) (fun c9 => ?_) (fun c9 => ?_)
      · refine pw_iconst d286_49 ?_
        exact pw_ireturn d286_50 tt286 ⟨rfl, (-1), rfl, (by omega), (by omega)⟩
      · refine pw_aload_n d286_12 rfl ?_
        refine pw_iload_n d286_13 rfl ?_
        refine pw_callV1 d286_14 k286_238 hT hA0 rfl rfl rfl (ct222 (τ := τ) (ρ := ρ) hT hA0 (by omega)) (fun r14 h14 q14 => ?_)
        obtain ⟨eh14, z14, ez14, lz14, uz14⟩ := q14
        subst eh14
        subst ez14
        refine pw_istore_n d286_17 m286 rfl rfl ?_
        refine pw_aload_n d286_18 rfl ?_
        refine pw_iload_n d286_19 rfl ?_
        refine pw_bipush d286_20 (by decide) ?_
        refine pw_idivT d286_22 (by omega) (by omega) (by omega) (fun z22 hz22 ez22 => ?_)
        refine pw_iload_n d286_23 rfl ?_
        refine pw_bipush d286_24 (by decide) ?_
        refine pw_iremT d286_26 (by omega) (by omega) (by omega) (fun z26 hz26 ez26 => ?_)
        refine pw_callV2 d286_27 k286_404 hT hA0 rfl rfl rfl (ct283 (τ := τ) (ρ := ρ) hT hA0 (by omega) (by omega)) (fun r27 h27 q27 => ?_)
        obtain ⟨eh27, z27, ez27, lz27, uz27⟩ := q27
        subst eh27
        subst ez27
        refine pw_i2l d286_30 (by omega) ?_
        refine pw_lconst (z := 1) d286_31 (by decide) ?_
        refine pw_ldc2 (v := pv_J 179) d286_32 n286_32 ?_
        refine pw_callS3 d286_35 k286_73 rfl rfl (ct184 (τ := τ) (ρ := ρ) (by omega) (by omega) (by omega)) (fun r35 h35 q35 => ?_)
        obtain ⟨eh35, z35, ez35, lz35, uz35, pz35_0⟩ := q35
        subst eh35
        subst ez35
        refine pw_if_ne d286_38 rfl (by omega) (fun c38 => ?_) (fun c38 => ?_)
        · refine pw_iinc d286_43 m286 rfl rfl rfl ?_
          refine pw_goto d286_46 rfl ?_
          exact ih7 (xL1_7) ((xL2_7 + 1)) _ (by omega) (by omega) (by omega)
        · refine pw_iload_n d286_41 rfl ?_
          exact pw_ireturn d286_42 tt286 ⟨rfl, z14, rfl, (by omega), (by omega)⟩
  refine pw_aload_n d286_0 rfl ?_
  refine pw_callV0 d286_1 k286_265 hT hA0 rfl rfl rfl (ct228 (τ := τ) (ρ := ρ) hT hA0) (fun r1 h1 q1 => ?_)
  obtain ⟨eh1, z1, ez1, lz1, uz1⟩ := q1
  subst eh1
  subst ez1
  refine pw_istore_n d286_4 m286 rfl rfl ?_
  refine pw_iconst d286_5 ?_
  refine pw_istore_n d286_6 m286 rfl rfl ?_
  exact L7 _ (z1) (0) _ (by omega) (by omega) (pv_mu _)

abbrev Q287 (τ : Nat → Option Nat) (ρ : Nat → Nat → Nat) (h : pv_H) (a0 : Nat) : Option Value → pv_H → Prop := fun r h' => h = h' ∧ ∃ z : Int, r = some (.int (pv_I z)) ∧ (-1) ≤ z ∧ z ≤ 9
set_option maxHeartbeats 4000000 in
set_option maxRecDepth 20000 in
/-- AngleNetModel.badPost()I -/
theorem ct287 {τ : Nat → Option Nat} {ρ : Nat → Nat → Nat} {K : Nat → Nat} {h : pv_H} {a0 : Nat} (hT : pv_Ty τ ρ h) (hA0 : τ a0 = some 7) : pv_C K 287 [.ref a0] h (Q287 τ ρ h a0) := by
  refine pw_entry 1 ?_
  show pv_T K 287 0 (pv_fl [some (.ref a0), none]) [] h (Q287 τ ρ h a0)
  have L2 : ∀ (nn : Nat) (xL1_2 : Int), (0 ≤ xL1_2 ∧ xL1_2 ≤ 10) → 10 - xL1_2 < nn → pv_T K 287 2 (pv_fl [some (.ref a0), some (.int (pv_I xL1_2))]) [] h (Q287 τ ρ h a0) := by
    intro nn
    induction nn with
    | zero => intro xL1_2 rL1_2 hm; exfalso; omega
    | succ nn ih2 =>
      intro xL1_2 rL1_2 hm2
      have J39 : ∀ (_ : Unit), (0 ≤ xL1_2 ∧ xL1_2 ≤ 9) → pv_T K 287 39 (pv_fl [some (.ref a0), some (.int (pv_I xL1_2))]) [] h (Q287 τ ρ h a0) := by
        intro _ rL1_39
        refine pw_iinc d287_39 m287 rfl rfl rfl ?_
        refine pw_goto d287_42 rfl ?_
        exact ih2 ((xL1_2 + 1)) (by omega) (by omega)
      refine pw_iload_n d287_2 rfl ?_
      refine pw_aload_n d287_3 rfl ?_
      refine pw_getR d287_4 g287_9 hT hA0 rfl rfl (fun t4 => ?_)
      have t4 : τ (ρ a0 1) = some 40 := t4
      refine pw_iconst d287_7 ?_
      refine pw_ialdB d287_8 hT t4 rfl rfl (by omega) (by omega) (fun u8 => ?_)
      have u8 : pv_wok ((0 : Int)) (pv_aI h (ρ a0 1) ((0 : Int)).toNat) := u8
      have vu8 := u8.2.1 (by omega)
      refine pw_icmp_ge d287_9 rfl (by omega) (by omega) (fun c9 => ?_) (fun c9 => ?_)
      · refine pw_iconst d287_45 ?_
        exact pw_ireturn d287_46 tt287 ⟨rfl, (-1), rfl, (by omega), (by omega)⟩
      · refine pw_aload_n d287_12 rfl ?_
        refine pw_callV0 d287_13 k287_259 hT hA0 rfl rfl rfl (ct226 (τ := τ) (ρ := ρ) hT hA0) (fun r13 h13 q13 => ?_)
        obtain ⟨eh13, z13, ez13, lz13, uz13⟩ := q13
        subst eh13
        subst ez13
        refine pw_iload_n d287_16 rfl ?_
        refine pw_ishr d287_17 (fun z17 hz17 ez17 => ?_)
        refine pw_iconst d287_18 ?_
        refine pw_iand d287_19 (fun z19 hz19 ez19 => ?_)
        have bz19 := pv_and1_b hz19 ez19
        refine pw_iconst d287_20 ?_
        refine pw_icmp_ne d287_21 rfl (by omega) (by omega) (fun c21 => ?_) (fun c21 => ?_)
        · exact J39 () (by omega)
        · refine pw_aload_n d287_24 rfl ?_
          refine pw_iconst d287_25 ?_
          refine pw_iload_n d287_26 rfl ?_
          refine pw_ishl d287_27 (fun z27 hz27 ez27 => ?_)
          have bz27 := pv_shl1_b (n := 9) (m := 512) (y := xL1_2) (by omega) (by omega) (by decide) (by decide) hz27 ez27
          refine pw_callV1 d287_28 k287_409 hT hA0 rfl rfl rfl (ct288 (τ := τ) (ρ := ρ) hT hA0 (by omega)) (fun r28 h28 q28 => ?_)
          obtain ⟨eh28, z28, ez28, lz28, uz28⟩ := q28
          subst eh28
          subst ez28
          refine pw_sipush d287_31 (by decide) ?_
          refine pw_icmp_eq d287_34 rfl (by omega) (by omega) (fun c34 => ?_) (fun c34 => ?_)
          · exact J39 () (by omega)
          · refine pw_iload_n d287_37 rfl ?_
            exact pw_ireturn d287_38 tt287 ⟨rfl, xL1_2, rfl, (by omega), (by omega)⟩
  refine pw_iconst d287_0 ?_
  refine pw_istore_n d287_1 m287 rfl rfl ?_
  exact L2 _ (0) (by omega) (pv_mu _)

abbrev Q289 (τ : Nat → Option Nat) (ρ : Nat → Nat → Nat) (h : pv_H) (a0 : Nat) : Option Value → pv_H → Prop := fun r h' => h = h' ∧ ∃ z : Int, r = some (.int (pv_I z)) ∧ (-1) ≤ z ∧ z ≤ 1023
set_option maxHeartbeats 4000000 in
set_option maxRecDepth 20000 in
/-- AngleNetModel.badSet()I -/
theorem ct289 {τ : Nat → Option Nat} {ρ : Nat → Nat → Nat} {K : Nat → Nat} {h : pv_H} {a0 : Nat} (hT : pv_Ty τ ρ h) (hA0 : τ a0 = some 7) : pv_C K 289 [.ref a0] h (Q289 τ ρ h a0) := by
  refine pw_entry 3 ?_
  show pv_T K 289 0 (pv_fl [some (.ref a0), none, none, none]) [] h (Q289 τ ρ h a0)
  have L9 : ∀ (nn : Nat) (xL1_9 xL2_9 xL3_9 : Int), (0 ≤ xL1_9 ∧ xL1_9 ≤ 1023) → ((-1) ≤ xL2_9 ∧ xL2_9 ≤ 1023) → (0 ≤ xL3_9 ∧ xL3_9 ≤ 1024) → 1024 - xL3_9 < nn → pv_T K 289 9 (pv_fl [some (.ref a0), some (.int (pv_I xL1_9)), some (.int (pv_I xL2_9)), some (.int (pv_I xL3_9))]) [] h (Q289 τ ρ h a0) := by
    intro nn
    induction nn with
    | zero => intro xL1_9 xL2_9 xL3_9 rL1_9 rL2_9 rL3_9 hm; exfalso; omega
    | succ nn ih9 =>
      intro xL1_9 xL2_9 xL3_9 rL1_9 rL2_9 rL3_9 hm9
      have J75 : ∀ (xL2_75 : Int), (0 ≤ xL1_9 ∧ xL1_9 ≤ 1023) → ((-1) ≤ xL2_75 ∧ xL2_75 ≤ 1023) → (0 ≤ xL3_9 ∧ xL3_9 ≤ 1023) → pv_T K 289 75 (pv_fl [some (.ref a0), some (.int (pv_I xL1_9)), some (.int (pv_I xL2_75)), some (.int (pv_I xL3_9))]) [] h (Q289 τ ρ h a0) := by
        intro xL2_75 rL1_75 rL2_75 rL3_75
        refine pw_iinc d289_75 m289 rfl rfl rfl ?_
        refine pw_goto d289_78 rfl ?_
        exact ih9 (xL1_9) (xL2_75) ((xL3_9 + 1)) (by omega) (by omega) (by omega) (by omega)
      have J59 : ∀ (_ : Unit), (0 ≤ xL1_9 ∧ xL1_9 ≤ 1023) → ((-1) ≤ xL2_9 ∧ xL2_9 ≤ 1023) → (0 ≤ xL3_9 ∧ xL3_9 ≤ 1023) → pv_T K 289 59 (pv_fl [some (.ref a0), some (.int (pv_I xL1_9)), some (.int (pv_I xL2_9)), some (.int (pv_I xL3_9))]) [] h (Q289 τ ρ h a0) := by
        intro _ rL1_59 rL2_59 rL3_59
        refine pw_aload_n d289_59 rfl ?_
        refine pw_iload_n d289_60 rfl ?_
        refine pw_callV1 d289_61 k289_409 hT hA0 rfl rfl rfl (ct288 (τ := τ) (ρ := ρ) hT hA0 (by omega)) (fun r61 h61 q61 => ?_)
        obtain ⟨eh61, z61, ez61, lz61, uz61⟩ := q61
        subst eh61
        subst ez61
        refine pw_sipush d289_64 (by decide) ?_
        refine pw_icmp_le d289_67 rfl (by omega) (by omega) (fun c67 => ?_) (fun c67 => ?_)
        · refine pw_iload_n d289_73 rfl ?_
          refine pw_istore_n d289_74 m289 rfl rfl ?_
          exact J75 (xL3_9) (by omega) (by omega) (by omega)
        · refine pw_goto d289_70 rfl ?_
          exact J75 (xL2_9) (by omega) (by omega) (by omega)
      refine pw_iload_n d289_9 rfl ?_
      refine pw_iload_n d289_10 rfl ?_
      refine pw_icmp_gt d289_11 rfl (by omega) (by omega) (fun c11 => ?_) (fun c11 => ?_)
      · refine pw_iload_n d289_81 rfl ?_
        exact pw_ireturn d289_82 tt289 ⟨rfl, xL2_9, rfl, (by omega), (by omega)⟩
      · refine pw_iload_n d289_14 rfl ?_
        refine pw_iload_n d289_15 rfl ?_
        refine pw_iconst d289_16 ?_
        refine pw_ixor d289_17 (fun z17 hz17 ez17 => ?_)
        refine pw_iand d289_18 (fun z18 hz18 ez18 => ?_)
        refine pw_if_ne d289_19 rfl (by omega) (fun c19 => ?_) (fun c19 => ?_)
        · exact J75 (xL2_9) (by omega) (by omega) (by omega)
        · refine pw_iload_n d289_22 rfl ?_
          refine pw_callS1 d289_23 k289_262 rfl rfl (ct227 (τ := τ) (ρ := ρ) (by omega)) (fun r23 h23 q23 => ?_)
          obtain ⟨eh23, z23, ez23, lz23, uz23⟩ := q23
          subst eh23
          subst ez23
          refine pw_iconst d289_26 ?_
          refine pw_icmp_lt d289_27 rfl (by omega) (by omega) (fun c27 => ?_) (fun c27 => ?_)
          · exact J75 (xL2_9) (by omega) (by omega) (by omega)
          · refine pw_iload_n d289_30 rfl ?_
            refine pw_callS1 d289_31 k289_262 rfl rfl (ct227 (τ := τ) (ρ := ρ) (by omega)) (fun r31 h31 q31 => ?_)
            obtain ⟨eh31, z31, ez31, lz31, uz31⟩ := q31
            subst eh31
            subst ez31
            refine pw_iload_n d289_34 rfl ?_
            refine pw_callS1 d289_35 k289_262 rfl rfl (ct227 (τ := τ) (ρ := ρ) (by omega)) (fun r35 h35 q35 => ?_)
            obtain ⟨eh35, z35, ez35, lz35, uz35⟩ := q35
            subst eh35
            subst ez35
            refine pw_isub d289_38 ?_
            refine pw_iconst d289_39 ?_
            refine pw_icmp_lt d289_40 rfl (by omega) (by omega) (fun c40 => ?_) (fun c40 => ?_)
            · exact J75 (xL2_9) (by omega) (by omega) (by omega)
            · refine pw_iload_n d289_43 rfl ?_
              refine pw_iconst d289_44 ?_
              refine pw_icmp_eq d289_45 rfl (by omega) (by omega) (fun c45 => ?_) (fun c45 => ?_)
              · exact J59 () (by omega) (by omega) (by omega)
              · refine pw_iload_n d289_48 rfl ?_
                refine pw_callS1 d289_49 k289_262 rfl rfl (ct227 (τ := τ) (ρ := ρ) (by omega)) (fun r49 h49 q49 => ?_)
                obtain ⟨eh49, z49, ez49, lz49, uz49⟩ := q49
                subst eh49
                subst ez49
                refine pw_iload_n d289_52 rfl ?_
                refine pw_callS1 d289_53 k289_262 rfl rfl (ct227 (τ := τ) (ρ := ρ) (by omega)) (fun r53 h53 q53 => ?_)
                obtain ⟨eh53, z53, ez53, lz53, uz53⟩ := q53
                subst eh53
                subst ez53
                refine pw_icmp_ge d289_56 rfl (by omega) (by omega) (fun c56 => ?_) (fun c56 => ?_)
                · exact J75 (xL2_9) (by omega) (by omega) (by omega)
                · exact J59 () (by omega) (by omega) (by omega)
  refine pw_aload_n d289_0 rfl ?_
  refine pw_callV0 d289_1 k289_259 hT hA0 rfl rfl rfl (ct226 (τ := τ) (ρ := ρ) hT hA0) (fun r1 h1 q1 => ?_)
  obtain ⟨eh1, z1, ez1, lz1, uz1⟩ := q1
  subst eh1
  subst ez1
  refine pw_istore_n d289_4 m289 rfl rfl ?_
  refine pw_iconst d289_5 ?_
  refine pw_istore_n d289_6 m289 rfl rfl ?_
  refine pw_iconst d289_7 ?_
  refine pw_istore_n d289_8 m289 rfl rfl ?_
  exact L9 _ (z1) ((-1)) (0) (by omega) (by omega) (by omega) (pv_mu _)

abbrev Q284 (τ : Nat → Option Nat) (ρ : Nat → Nat → Nat) (h : pv_H) (a0 : Nat) : Option Value → pv_H → Prop := fun r h' => h = h' ∧ ∃ z : Int, r = some (.int (pv_I z)) ∧ (-2) ≤ z ∧ z ≤ 4
set_option maxHeartbeats 4000000 in
set_option maxRecDepth 20000 in
/-- AngleNetModel.inscribed()I -/
theorem ct284 {τ : Nat → Option Nat} {ρ : Nat → Nat → Nat} {K : Nat → Nat} {h : pv_H} {a0 : Nat} (hT : pv_Ty τ ρ h) (hA0 : τ a0 = some 7) : pv_C K 284 [.ref a0] h (Q284 τ ρ h a0) := by
  refine pw_entry 0 ?_
  show pv_T K 284 0 (pv_fl [some (.ref a0)]) [] h (Q284 τ ρ h a0)
  refine pw_aload_n d284_0 rfl ?_
  refine pw_callV0 d284_1 k284_283 hT hA0 rfl rfl rfl (ct224 (τ := τ) (ρ := ρ) hT hA0) (fun r1 h1 q1 => ?_)
  obtain ⟨eh1, z1, ez1, lz1, uz1⟩ := q1
  subst eh1
  subst ez1
  refine pw_if_ne d284_4 rfl (by omega) (fun c4 => ?_) (fun c4 => ?_)
  · refine pw_aload_n d284_10 rfl ?_
    refine pw_callV0 d284_11 k284_412 hT hA0 rfl rfl rfl (ct285 (τ := τ) (ρ := ρ) hT hA0) (fun r11 h11 q11 => ?_)
    obtain ⟨eh11, z11, ez11, lz11, uz11⟩ := q11
    subst eh11
    subst ez11
    refine pw_if_ne d284_14 rfl (by omega) (fun c14 => ?_) (fun c14 => ?_)
    · refine pw_aload_n d284_19 rfl ?_
      refine pw_callV0 d284_20 k284_415 hT hA0 rfl rfl rfl (ct286 (τ := τ) (ρ := ρ) hT hA0) (fun r20 h20 q20 => ?_)
      obtain ⟨eh20, z20, ez20, lz20, uz20⟩ := q20
      subst eh20
      subst ez20
      refine pw_iconst d284_23 ?_
      refine pw_icmp_eq d284_24 rfl (by omega) (by omega) (fun c24 => ?_) (fun c24 => ?_)
      · refine pw_aload_n d284_31 rfl ?_
        refine pw_callV0 d284_32 k284_418 hT hA0 rfl rfl rfl (ct287 (τ := τ) (ρ := ρ) hT hA0) (fun r32 h32 q32 => ?_)
        obtain ⟨eh32, z32, ez32, lz32, uz32⟩ := q32
        subst eh32
        subst ez32
        refine pw_iconst d284_35 ?_
        refine pw_icmp_eq d284_36 rfl (by omega) (by omega) (fun c36 => ?_) (fun c36 => ?_)
        · refine pw_aload_n d284_43 rfl ?_
          refine pw_callV0 d284_44 k284_421 hT hA0 rfl rfl rfl (ct289 (τ := τ) (ρ := ρ) hT hA0) (fun r44 h44 q44 => ?_)
          obtain ⟨eh44, z44, ez44, lz44, uz44⟩ := q44
          subst eh44
          subst ez44
          refine pw_iconst d284_47 ?_
          refine pw_icmp_eq d284_48 rfl (by omega) (by omega) (fun c48 => ?_) (fun c48 => ?_)
          · refine pw_iconst d284_55 ?_
            exact pw_ireturn d284_56 tt284 ⟨rfl, 0, rfl, (by omega), (by omega)⟩
          · refine pw_iconst d284_51 ?_
            refine pw_goto d284_52 rfl ?_
            exact pw_ireturn d284_56 tt284 ⟨rfl, 4, rfl, (by omega), (by omega)⟩
        · refine pw_iconst d284_39 ?_
          refine pw_goto d284_40 rfl ?_
          exact pw_ireturn d284_56 tt284 ⟨rfl, 3, rfl, (by omega), (by omega)⟩
      · refine pw_iconst d284_27 ?_
        refine pw_goto d284_28 rfl ?_
        exact pw_ireturn d284_56 tt284 ⟨rfl, 2, rfl, (by omega), (by omega)⟩
    · refine pw_iconst d284_17 ?_
      exact pw_ireturn d284_18 tt284 ⟨rfl, 1, rfl, (by omega), (by omega)⟩
  · refine pw_bipush d284_7 (by decide) ?_
    exact pw_ireturn d284_9 tt284 ⟨rfl, (-2), rfl, (by omega), (by omega)⟩

abbrev Q290 (τ : Nat → Option Nat) (ρ : Nat → Nat → Nat) (h : pv_H) (a0 : Nat) (x1 : Int) : Option Value → pv_H → Prop := fun r h' => h = h' ∧ ∃ z : Int, r = some (.int (pv_I z)) ∧ (-2) ≤ z ∧ z ≤ 1023
set_option maxHeartbeats 4000000 in
set_option maxRecDepth 20000 in
/-- AngleNetModel.hinders(I)I -/
theorem ct290 {τ : Nat → Option Nat} {ρ : Nat → Nat → Nat} {K : Nat → Nat} {h : pv_H} {a0 : Nat} {x1 : Int} (hT : pv_Ty τ ρ h) (hA0 : τ a0 = some 7) (hX1 : (-2147483648) ≤ x1 ∧ x1 ≤ 2147483647) : pv_C K 290 [.ref a0, .int (pv_I x1)] h (Q290 τ ρ h a0 x1) := by
  refine pw_entry 0 ?_
  show pv_T K 290 0 (pv_fl [some (.ref a0), some (.int (pv_I x1))]) [] h (Q290 τ ρ h a0 x1)
  refine pw_aload_n d290_0 rfl ?_
  refine pw_callV0 d290_1 k290_283 hT hA0 rfl rfl rfl (ct224 (τ := τ) (ρ := ρ) hT hA0) (fun r1 h1 q1 => ?_)
  obtain ⟨eh1, z1, ez1, lz1, uz1⟩ := q1
  subst eh1
  subst ez1
  refine pw_if_eq d290_4 rfl (by omega) (fun c4 => ?_) (fun c4 => ?_)
  · refine pw_bipush d290_19 (by decide) ?_
    exact pw_ireturn d290_21 tt290 ⟨rfl, (-2), rfl, (by omega), (by omega)⟩
  · refine pw_iload_n d290_7 rfl ?_
    refine pw_i2l d290_8 (by omega) ?_
    refine pw_lconst (z := 0) d290_9 (by decide) ?_
    refine pw_ldc2 (v := pv_J 2) d290_10 n290_10 ?_
    refine pw_callS3 d290_13 k290_73 rfl rfl (ct184 (τ := τ) (ρ := ρ) (by omega) (by omega) (by omega)) (fun r13 h13 q13 => ?_)
    obtain ⟨eh13, z13, ez13, lz13, uz13, pz13_0⟩ := q13
    subst eh13
    subst ez13
    refine pw_if_ne d290_16 rfl (by omega) (fun c16 => ?_) (fun c16 => ?_)
    · refine pw_aload_n d290_22 rfl ?_
      refine pw_callV0 d290_23 k290_412 hT hA0 rfl rfl rfl (ct285 (τ := τ) (ρ := ρ) hT hA0) (fun r23 h23 q23 => ?_)
      obtain ⟨eh23, z23, ez23, lz23, uz23⟩ := q23
      subst eh23
      subst ez23
      refine pw_if_ne d290_26 rfl (by omega) (fun c26 => ?_) (fun c26 => ?_)
      · refine pw_iload_n d290_31 rfl ?_
        refine pw_if_ne d290_32 rfl (by omega) (fun c32 => ?_) (fun c32 => ?_)
        · refine pw_iload_n d290_42 rfl ?_
          refine pw_iconst d290_43 ?_
          refine pw_icmp_ne d290_44 rfl (by omega) (by omega) (fun c44 => ?_) (fun c44 => ?_)
          · refine pw_aload_n d290_54 rfl ?_
            refine pw_callV0 d290_55 k290_421 hT hA0 rfl rfl rfl (ct289 (τ := τ) (ρ := ρ) hT hA0) (fun r55 h55 q55 => ?_)
            obtain ⟨eh55, z55, ez55, lz55, uz55⟩ := q55
            subst eh55
            subst ez55
            exact pw_ireturn d290_58 tt290 ⟨rfl, z55, rfl, (by omega), (by omega)⟩
          · refine pw_aload_n d290_47 rfl ?_
            refine pw_callV0 d290_48 k290_418 hT hA0 rfl rfl rfl (ct287 (τ := τ) (ρ := ρ) hT hA0) (fun r48 h48 q48 => ?_)
            obtain ⟨eh48, z48, ez48, lz48, uz48⟩ := q48
            subst eh48
            subst ez48
            refine pw_goto d290_51 rfl ?_
            exact pw_ireturn d290_58 tt290 ⟨rfl, z48, rfl, (by omega), (by omega)⟩
        · refine pw_aload_n d290_35 rfl ?_
          refine pw_callV0 d290_36 k290_415 hT hA0 rfl rfl rfl (ct286 (τ := τ) (ρ := ρ) hT hA0) (fun r36 h36 q36 => ?_)
          obtain ⟨eh36, z36, ez36, lz36, uz36⟩ := q36
          subst eh36
          subst ez36
          refine pw_goto d290_39 rfl ?_
          exact pw_ireturn d290_58 tt290 ⟨rfl, z36, rfl, (by omega), (by omega)⟩
      · refine pw_iconst d290_29 ?_
        exact pw_ireturn d290_30 tt290 ⟨rfl, (-1), rfl, (by omega), (by omega)⟩
    · refine pw_bipush d290_19 (by decide) ?_
      exact pw_ireturn d290_21 tt290 ⟨rfl, (-2), rfl, (by omega), (by omega)⟩

abbrev Q291 (τ : Nat → Option Nat) (ρ : Nat → Nat → Nat) (h : pv_H) (a0 : Nat) (x1 : Int) : Option Value → pv_H → Prop := fun r h' => h = h' ∧ ∃ z : Int, r = some (.int (pv_I z)) ∧ (-2147483648) ≤ z ∧ z ≤ 2147483647
set_option maxHeartbeats 4000000 in
set_option maxRecDepth 20000 in
/-- AngleNetModel.cut(I)I -/
theorem ct291 {τ : Nat → Option Nat} {ρ : Nat → Nat → Nat} {K : Nat → Nat} {h : pv_H} {a0 : Nat} {x1 : Int} (hT : pv_Ty τ ρ h) (hA0 : τ a0 = some 7) (hX1 : (-2147483648) ≤ x1 ∧ x1 ≤ 2147483647) : pv_C K 291 [.ref a0, .int (pv_I x1)] h (Q291 τ ρ h a0 x1) := by
  refine pw_entry 0 ?_
  show pv_T K 291 0 (pv_fl [some (.ref a0), some (.int (pv_I x1))]) [] h (Q291 τ ρ h a0 x1)
  refine pw_aload_n d291_0 rfl ?_
  refine pw_callV0 d291_1 k291_283 hT hA0 rfl rfl rfl (ct224 (τ := τ) (ρ := ρ) hT hA0) (fun r1 h1 q1 => ?_)
  obtain ⟨eh1, z1, ez1, lz1, uz1⟩ := q1
  subst eh1
  subst ez1
  refine pw_if_eq d291_4 rfl (by omega) (fun c4 => ?_) (fun c4 => ?_)
  · refine pw_bipush d291_35 (by decide) ?_
    exact pw_ireturn d291_37 tt291 ⟨rfl, (-2), rfl, (by omega), (by omega)⟩
  · refine pw_iload_n d291_7 rfl ?_
    refine pw_i2l d291_8 (by omega) ?_
    refine pw_lconst (z := 0) d291_9 (by decide) ?_
    refine pw_iconst d291_10 ?_
    refine pw_aload_n d291_11 rfl ?_
    refine pw_getR d291_12 g291_9 hT hA0 rfl rfl (fun t12 => ?_)
    have t12 : τ (ρ a0 1) = some 40 := t12
    refine pw_iconst d291_15 ?_
    refine pw_ialdB d291_16 hT t12 rfl rfl (by omega) (by omega) (fun u16 => ?_)
    have u16 : pv_wok ((0 : Int)) (pv_aI h (ρ a0 1) ((0 : Int)).toNat) := u16
    have vu16 := u16.2.1 (by omega)
    refine pw_ishl d291_17 (fun z17 hz17 ez17 => ?_)
    have bz17 := pv_shl1_b (n := 10) (m := 1024) (y := (pv_aI h (ρ a0 1) ((0 : Int)).toNat)) (by omega) (by omega) (by decide) (by decide) hz17 ez17
    refine pw_iconst d291_18 ?_
    refine pw_isub d291_19 ?_
    refine pw_i2l d291_20 (by omega) ?_
    refine pw_callS3 d291_21 k291_73 rfl rfl (ct184 (τ := τ) (ρ := ρ) (by omega) (by omega) (by omega)) (fun r21 h21 q21 => ?_)
    obtain ⟨eh21, z21, ez21, lz21, uz21, pz21_0⟩ := q21
    subst eh21
    subst ez21
    refine pw_if_eq d291_24 rfl (by omega) (fun c24 => ?_) (fun c24 => ?_)
    · refine pw_bipush d291_35 (by decide) ?_
      exact pw_ireturn d291_37 tt291 ⟨rfl, (-2), rfl, (by omega), (by omega)⟩
    · refine pw_aload_n d291_27 rfl ?_
      refine pw_iload_n d291_28 rfl ?_
      refine pw_callV1 d291_29 k291_409 hT hA0 rfl rfl rfl (ct288 (τ := τ) (ρ := ρ) hT hA0 (by omega)) (fun r29 h29 q29 => ?_)
      obtain ⟨eh29, z29, ez29, lz29, uz29⟩ := q29
      subst eh29
      subst ez29
      refine pw_goto d291_32 rfl ?_
      exact pw_ireturn d291_37 tt291 ⟨rfl, z29, rfl, (by omega), (by omega)⟩

abbrev Q295 (τ : Nat → Option Nat) (ρ : Nat → Nat → Nat) (h : pv_H) (a0 : Nat) (x1 : Int) (x2 : Int) : Option Value → pv_H → Prop := fun r h' => h = h' ∧ ∃ z : Int, r = some (.long (pv_J z)) ∧ (-9223372036854775808) ≤ z ∧ z ≤ 9223372036854775807
set_option maxHeartbeats 4000000 in
set_option maxRecDepth 20000 in
/-- AngleNetModel.give(II)J -/
theorem ct295 {τ : Nat → Option Nat} {ρ : Nat → Nat → Nat} {K : Nat → Nat} {h : pv_H} {a0 : Nat} {x1 : Int} {x2 : Int} (hT : pv_Ty τ ρ h) (hA0 : τ a0 = some 7) (hX1 : (-2147483648) ≤ x1 ∧ x1 ≤ 2147483647) (hX2 : (-2147483648) ≤ x2 ∧ x2 ≤ 2147483647) : pv_C K 295 [.ref a0, .int (pv_I x1), .int (pv_I x2)] h (Q295 τ ρ h a0 x1 x2) := by
  refine pw_entry 3 ?_
  show pv_T K 295 0 (pv_fl [some (.ref a0), some (.int (pv_I x1)), some (.int (pv_I x2)), none, none, none]) [] h (Q295 τ ρ h a0 x1 x2)
  have J45 : ∀ (xL3_45 : Int) (o4_45 o5_45 : Option Value), ((-2147483648) ≤ x1 ∧ x1 ≤ 2147483647) → ((-2147483648) ≤ x2 ∧ x2 ≤ 2147483647) → ((-9223372036854775808) ≤ xL3_45 ∧ xL3_45 ≤ 9223372036854775807) → pv_T K 295 45 (pv_fl [some (.ref a0), some (.int (pv_I x1)), some (.int (pv_I x2)), some (.long (pv_J xL3_45)), o4_45, o5_45]) [] h (Q295 τ ρ h a0 x1 x2) := by
    intro xL3_45 o4_45 o5_45 rL1_45 rL2_45 rL3_45
    refine pw_iload_n d295_45 rfl ?_
    refine pw_iload_n d295_46 rfl ?_
    refine pw_icmp_ne d295_47 rfl (by omega) (by omega) (fun c47 => ?_) (fun c47 => ?_)
    · refine pw_aload_n d295_54 rfl ?_
      refine pw_iload_n d295_55 rfl ?_
      refine pw_iload_n d295_56 rfl ?_
      refine pw_callV2 d295_57 k295_221 hT hA0 rfl rfl rfl (ct217 (τ := τ) (ρ := ρ) hT hA0 (by omega) (by omega)) (fun r57 h57 q57 => ?_)
      obtain ⟨eh57, z57, ez57, lz57, uz57⟩ := q57
      subst eh57
      subst ez57
      refine pw_if_eq d295_60 rfl (by omega) (fun c60 => ?_) (fun c60 => ?_)
      · refine pw_lconst (z := 0) d295_69 (by decide) ?_
        exact pw_lreturn d295_70 tt295 ⟨rfl, 0, rfl, (by omega), (by omega)⟩
      · refine pw_ldc2 (v := pv_J (-1)) d295_63 n295_63 ?_
        refine pw_goto d295_66 rfl ?_
        exact pw_lreturn d295_70 tt295 ⟨rfl, (-1), rfl, (by omega), (by omega)⟩
    · refine pw_lload_n d295_50 rfl ?_
      refine pw_goto d295_51 rfl ?_
      exact pw_lreturn d295_70 tt295 ⟨rfl, xL3_45, rfl, (by omega), (by omega)⟩
  have L5 : ∀ (nn : Nat) (xL3_5 xL5_5 : Int) (o4_5 : Option Value), ((-2147483648) ≤ x1 ∧ x1 ≤ 2147483647) → ((-2147483648) ≤ x2 ∧ x2 ≤ 2147483647) → ((-9223372036854775808) ≤ xL3_5 ∧ xL3_5 ≤ 9223372036854775807) → (0 ≤ xL5_5 ∧ xL5_5 ≤ 10) → 10 - xL5_5 < nn → pv_T K 295 5 (pv_fl [some (.ref a0), some (.int (pv_I x1)), some (.int (pv_I x2)), some (.long (pv_J xL3_5)), o4_5, some (.int (pv_I xL5_5))]) [] h (Q295 τ ρ h a0 x1 x2) := by
    intro nn
    induction nn with
    | zero => intro xL3_5 xL5_5 o4_5 rL1_5 rL2_5 rL3_5 rL5_5 hm; exfalso; omega
    | succ nn ih5 =>
      intro xL3_5 xL5_5 o4_5 rL1_5 rL2_5 rL3_5 rL5_5 hm5
      have J37 : ∀ (xS0_37 : Int) (o3_37 o4_37 : Option Value), ((-2147483648) ≤ x1 ∧ x1 ≤ 2147483647) → ((-2147483648) ≤ x2 ∧ x2 ≤ 2147483647) → (0 ≤ xL5_5 ∧ xL5_5 ≤ 9) → (0 ≤ xS0_37 ∧ xS0_37 ≤ 1) → ((-9223372036854775808) ≤ xL3_5 ∧ xL3_5 ≤ 9223372036854775807) → pv_T K 295 37 (pv_fl [some (.ref a0), some (.int (pv_I x1)), some (.int (pv_I x2)), o3_37, o4_37, some (.int (pv_I xL5_5))]) [.long (pv_J xS0_37), .long (pv_J xL3_5)] h (Q295 τ ρ h a0 x1 x2) := by
        intro xS0_37 o3_37 o4_37 rL1_37 rL2_37 rL5_37 rS0_37 rS1_37
        refine pw_ladd d295_37 ?_
        refine pw_anyl (fun z38 hz38 ez38 => ?_)
        refine pw_lstore_n d295_38 m295 rfl rfl ?_
        refine pw_iinc d295_39 m295 rfl rfl rfl ?_
        refine pw_goto d295_42 rfl ?_
        exact ih5 (z38) ((xL5_5 + 1)) _ (by omega) (by omega) (by omega) (by omega) (by omega)
      refine pw_iload d295_5 rfl ?_
      refine pw_aload_n d295_7 rfl ?_
      refine pw_getR d295_8 g295_9 hT hA0 rfl rfl (fun t8 => ?_)
      have t8 : τ (ρ a0 1) = some 40 := t8
      refine pw_iconst d295_11 ?_
      refine pw_ialdB d295_12 hT t8 rfl rfl (by omega) (by omega) (fun u12 => ?_)
      have u12 : pv_wok ((0 : Int)) (pv_aI h (ρ a0 1) ((0 : Int)).toNat) := u12
      have vu12 := u12.2.1 (by omega)
      refine pw_icmp_ge d295_13 rfl (by omega) (by omega) (fun c13 => ?_) (fun c13 => ?_)
      · exact J45 (xL3_5) _ _ (by omega) (by omega) (by omega)
      · refine pw_iload_n d295_16 rfl ?_
        refine pw_iload_n d295_17 rfl ?_
        refine pw_icmp_ne d295_18 rfl (by omega) (by omega) (fun c18 => ?_) (fun c18 => ?_)
        · exact J45 (xL3_5) _ _ (by omega) (by omega) (by omega)
        · refine pw_lload_n d295_21 rfl ?_
          refine pw_aload_n d295_22 rfl ?_
          refine pw_iload_n d295_23 rfl ?_
          refine pw_iload d295_24 rfl ?_
          refine pw_callV2 d295_26 k295_221 hT hA0 rfl rfl rfl (ct217 (τ := τ) (ρ := ρ) hT hA0 (by omega) (by omega)) (fun r26 h26 q26 => ?_)
          obtain ⟨eh26, z26, ez26, lz26, uz26⟩ := q26
          subst eh26
          subst ez26
          refine pw_if_eq d295_29 rfl (by omega) (fun c29 => ?_) (fun c29 => ?_)
          · refine pw_lconst (z := 0) d295_36 (by decide) ?_
            exact J37 (0) _ _ (by omega) (by omega) (by omega) (by omega) (by omega)
          · refine pw_lconst (z := 1) d295_32 (by decide) ?_
            refine pw_goto d295_33 rfl ?_
            exact J37 (1) _ _ (by omega) (by omega) (by omega) (by omega) (by omega)
  refine pw_lconst (z := 0) d295_0 (by decide) ?_
  refine pw_lstore_n d295_1 m295 rfl rfl ?_
  refine pw_iconst d295_2 ?_
  refine pw_istore d295_3 m295 rfl rfl ?_
  exact L5 _ (0) (0) _ (by omega) (by omega) (by omega) (by omega) (pv_mu _)

abbrev Q297 (τ : Nat → Option Nat) (ρ : Nat → Nat → Nat) (h : pv_H) (a0 : Nat) (x1 : Int) (x2 : Int) (x3 : Int) : Option Value → pv_H → Prop := fun r h' => pv_Ty τ ρ h' ∧ pv_Fr τ [3199] h h' ∧ r = none
set_option maxHeartbeats 4000000 in
set_option maxRecDepth 20000 in
/-- AngleNetModel.trades(III)V -/
theorem ct297 {τ : Nat → Option Nat} {ρ : Nat → Nat → Nat} {K : Nat → Nat} {h : pv_H} {a0 : Nat} {x1 : Int} {x2 : Int} {x3 : Int} (hT : pv_Ty τ ρ h) (hA0 : τ a0 = some 7) (hX1 : 0 ≤ x1 ∧ x1 ≤ 9) (hX2 : 0 ≤ x2 ∧ x2 ≤ 9) (hX3 : 0 ≤ x3 ∧ x3 ≤ 10) : pv_C K 297 [.ref a0, .int (pv_I x1), .int (pv_I x2), .int (pv_I x3)] h (Q297 τ ρ h a0 x1 x2 x3) := by
  refine pw_entry 3 ?_
  show pv_T K 297 0 (pv_fl [some (.ref a0), some (.int (pv_I x1)), some (.int (pv_I x2)), some (.int (pv_I x3)), none, none, none]) [] h (Q297 τ ρ h a0 x1 x2 x3)
  have hF0 : pv_Fr τ [3199] h h := pv_Fr.rf
  have L3 : ∀ (nn : Nat) (h_3 : pv_H) (xL4_3 : Int) (o5_3 o6_3 : Option Value), (pv_Ty τ ρ h_3) → (pv_Fr τ [3199] h h_3) → (0 ≤ x1 ∧ x1 ≤ 9) → (0 ≤ x2 ∧ x2 ≤ 9) → (0 ≤ x3 ∧ x3 ≤ 10) → (0 ≤ xL4_3 ∧ xL4_3 ≤ 10) → 10 - xL4_3 < nn → pv_T K 297 3 (pv_fl [some (.ref a0), some (.int (pv_I x1)), some (.int (pv_I x2)), some (.int (pv_I x3)), some (.int (pv_I xL4_3)), o5_3, o6_3]) [] h_3 (Q297 τ ρ h a0 x1 x2 x3) := by
    intro nn
    induction nn with
    | zero => intro h_3 xL4_3 o5_3 o6_3 hT_3 hF_3 rL1_3 rL2_3 rL3_3 rL4_3 hm; exfalso; omega
    | succ nn ih3 =>
      intro h_3 xL4_3 o5_3 o6_3 hT_3 hF_3 rL1_3 rL2_3 rL3_3 rL4_3 hm3
      refine pw_iload d297_3 rfl ?_
      refine pw_iload_n d297_5 rfl ?_
      refine pw_icmp_ge d297_6 rfl (by omega) (by omega) (fun c6 => ?_) (fun c6 => ?_)
      · exact pw_return d297_67 tt297 ⟨hT_3, hF_3, rfl⟩
      · refine pw_aload_n d297_9 rfl ?_
        refine pw_getR d297_10 g297_43 hT_3 hA0 rfl rfl (fun t10 => ?_)
        have t10 : τ (ρ a0 19) = some 49 := t10
        refine pw_bipush d297_13 (by decide) ?_
        refine pw_iload_n d297_15 rfl ?_
        refine pw_imul d297_16 ?_
        refine pw_iload d297_17 rfl ?_
        refine pw_iadd d297_19 ?_
        refine pw_lald d297_20 hT_3 t10 rfl rfl (by omega) (by omega) (fun u20 => ?_)
        refine pw_lstore d297_21 m297 rfl rfl ?_
        refine pw_aload_n d297_23 rfl ?_
        refine pw_getR d297_24 g297_43 hT_3 hA0 rfl rfl (fun t24 => ?_)
        have t24 : τ (ρ a0 19) = some 49 := t24
        refine pw_bipush d297_27 (by decide) ?_
        refine pw_iload_n d297_29 rfl ?_
        refine pw_imul d297_30 ?_
        refine pw_iload d297_31 rfl ?_
        refine pw_iadd d297_33 ?_
        refine pw_aload_n d297_34 rfl ?_
        refine pw_getR d297_35 g297_43 hT_3 hA0 rfl rfl (fun t35 => ?_)
        have t35 : τ (ρ a0 19) = some 49 := t35
        refine pw_bipush d297_38 (by decide) ?_
        refine pw_iload_n d297_40 rfl ?_
        refine pw_imul d297_41 ?_
        refine pw_iload d297_42 rfl ?_
        refine pw_iadd d297_44 ?_
        refine pw_lald d297_45 hT_3 t35 rfl rfl (by omega) (by omega) (fun u45 => ?_)
        refine pw_last d297_46 hT_3 t35 rfl rfl rfl (by omega) (by omega) (by omega) (fun h46 T46 F46 E46 => ?_)
        have f46 := hF_3.tr (F46.up (by decide))
        refine pw_aload_n d297_47 rfl ?_
        refine pw_getR d297_48 g297_43 T46 hA0 rfl rfl (fun t48 => ?_)
        have t48 : τ (ρ a0 19) = some 49 := t48
        refine pw_bipush d297_51 (by decide) ?_
        refine pw_iload_n d297_53 rfl ?_
        refine pw_imul d297_54 ?_
        refine pw_iload d297_55 rfl ?_
        refine pw_iadd d297_57 ?_
        refine pw_lload d297_58 rfl ?_
        refine pw_last d297_60 T46 t48 rfl rfl rfl (by omega) (by omega) (by omega) (fun h60 T60 F60 E60 => ?_)
        have f60 := f46.tr (F60.up (by decide))
        refine pw_iinc d297_61 m297 rfl rfl rfl ?_
        refine pw_goto d297_64 rfl ?_
        exact ih3 h60 ((xL4_3 + 1)) _ _ T60 f60 (by omega) (by omega) (by omega) (by omega) (by omega)
  refine pw_iconst d297_0 ?_
  refine pw_istore d297_1 m297 rfl rfl ?_
  exact L3 _ h (0) _ _ hT hF0 (by omega) (by omega) (by omega) (by omega) (pv_mu _)

abbrev Q299 (τ : Nat → Option Nat) (ρ : Nat → Nat → Nat) (h : pv_H) (a0 : Nat) (x1 : Int) (x2 : Int) : Option Value → pv_H → Prop := fun r h' => h = h' ∧ ∃ z : Int, r = some (.int (pv_I z)) ∧ 0 ≤ z ∧ z ≤ 1
set_option maxHeartbeats 4000000 in
set_option maxRecDepth 20000 in
/-- AngleNetModel.isFlow(II)Z -/
theorem ct299 {τ : Nat → Option Nat} {ρ : Nat → Nat → Nat} {K : Nat → Nat} {h : pv_H} {a0 : Nat} {x1 : Int} {x2 : Int} (hT : pv_Ty τ ρ h) (hA0 : τ a0 = some 7) (hX1 : (-2147483648) ≤ x1 ∧ x1 ≤ 2147483647) (hX2 : (-2147483648) ≤ x2 ∧ x2 ≤ 2147483647) : pv_C K 299 [.ref a0, .int (pv_I x1), .int (pv_I x2)] h (Q299 τ ρ h a0 x1 x2) := by
  refine pw_entry 1 ?_
  show pv_T K 299 0 (pv_fl [some (.ref a0), some (.int (pv_I x1)), some (.int (pv_I x2)), none]) [] h (Q299 τ ρ h a0 x1 x2)
  refine pw_aload_n d299_0 rfl ?_
  refine pw_callV0 d299_1 k299_259 hT hA0 rfl rfl rfl (ct226 (τ := τ) (ρ := ρ) hT hA0) (fun r1 h1 q1 => ?_)
  obtain ⟨eh1, z1, ez1, lz1, uz1⟩ := q1
  subst eh1
  subst ez1
  refine pw_istore_n d299_4 m299 rfl rfl ?_
  refine pw_aload_n d299_5 rfl ?_
  refine pw_iload_n d299_6 rfl ?_
  refine pw_iload_n d299_7 rfl ?_
  refine pw_callV2 d299_8 k299_235 hT hA0 rfl rfl rfl (ct220 (τ := τ) (ρ := ρ) hT hA0 (by omega) (by omega)) (fun r8 h8 q8 => ?_)
  obtain ⟨eh8, z8, ez8, lz8, uz8, pz8_0⟩ := q8
  subst eh8
  subst ez8
  refine pw_if_eq d299_11 rfl (by omega) (fun c11 => ?_) (fun c11 => ?_)
  · refine pw_iconst d299_46 ?_
    exact pw_zreturn d299_47 tt299 (by omega) ⟨rfl, 0, rfl, (by omega), (by omega)⟩
  · refine pw_iload_n d299_14 rfl ?_
    refine pw_iload_n d299_15 rfl ?_
    refine pw_ishr d299_16 (fun z16 hz16 ez16 => ?_)
    refine pw_iconst d299_17 ?_
    refine pw_iand d299_18 (fun z18 hz18 ez18 => ?_)
    have bz18 := pv_and1_b hz18 ez18
    refine pw_iconst d299_19 ?_
    refine pw_icmp_ne d299_20 rfl (by omega) (by omega) (fun c20 => ?_) (fun c20 => ?_)
    · refine pw_iconst d299_46 ?_
      exact pw_zreturn d299_47 tt299 (by omega) ⟨rfl, 0, rfl, (by omega), (by omega)⟩
    · refine pw_iload_n d299_23 rfl ?_
      refine pw_iload_n d299_24 rfl ?_
      refine pw_ishr d299_25 (fun z25 hz25 ez25 => ?_)
      refine pw_iconst d299_26 ?_
      refine pw_iand d299_27 (fun z27 hz27 ez27 => ?_)
      have bz27 := pv_and1_b hz27 ez27
      refine pw_iconst d299_28 ?_
      refine pw_icmp_ne d299_29 rfl (by omega) (by omega) (fun c29 => ?_) (fun c29 => ?_)
      · refine pw_iconst d299_46 ?_
        exact pw_zreturn d299_47 tt299 (by omega) ⟨rfl, 0, rfl, (by omega), (by omega)⟩
      · refine pw_aload_n d299_32 rfl ?_
        refine pw_iload_n d299_33 rfl ?_
        refine pw_iconst d299_34 ?_
        refine pw_callV2 d299_35 k299_274 hT hA0 rfl rfl rfl (ct232 (τ := τ) (ρ := ρ) hT hA0 (by omega) (by omega)) (fun r35 h35 q35 => ?_)
        obtain ⟨eh35, z35, ez35, lz35, uz35⟩ := q35
        subst eh35
        subst ez35
        refine pw_iconst d299_38 ?_
        refine pw_icmp_ne d299_39 rfl (by omega) (by omega) (fun c39 => ?_) (fun c39 => ?_)
        · refine pw_iconst d299_46 ?_
          exact pw_zreturn d299_47 tt299 (by omega) ⟨rfl, 0, rfl, (by omega), (by omega)⟩
        · refine pw_iconst d299_42 ?_
          refine pw_goto d299_43 rfl ?_
          exact pw_zreturn d299_47 tt299 (by omega) ⟨rfl, 1, rfl, (by omega), (by omega)⟩

abbrev Q307 (τ : Nat → Option Nat) (ρ : Nat → Nat → Nat) (h : pv_H) (a0 : Nat) (x1 : Int) : Option Value → pv_H → Prop := fun r h' => h = h' ∧ ∃ z : Int, r = some (.int (pv_I z)) ∧ (-1) ≤ z ∧ z ≤ 20000
set_option maxHeartbeats 4000000 in
set_option maxRecDepth 20000 in
/-- AngleNetModel.rootOf(I)I -/
theorem ct307 {τ : Nat → Option Nat} {ρ : Nat → Nat → Nat} {K : Nat → Nat} {h : pv_H} {a0 : Nat} {x1 : Int} (hT : pv_Ty τ ρ h) (hA0 : τ a0 = some 7) (hX1 : 0 ≤ x1 ∧ x1 ≤ 17) : pv_C K 307 [.ref a0, .int (pv_I x1)] h (Q307 τ ρ h a0 x1) := by
  refine pw_entry 14 ?_
  show pv_T K 307 0 (pv_fl [some (.ref a0), some (.int (pv_I x1)), none, none, none, none, none, none, none, none, none, none, none, none, none, none]) [] h (Q307 τ ρ h a0 x1)
  have L88 : ∀ (nn : Nat) (xL8_88 xL10_88 xL12_88 : Int) (o0_88 o1_88 o2_88 o3_88 o4_88 o5_88 o6_88 o7_88 o9_88 o11_88 o13_88 o14_88 o15_88 : Option Value), ((-9223372036854775808) ≤ xL8_88 ∧ xL8_88 ≤ 9223372036854775807) → (0 ≤ xL10_88 ∧ xL10_88 ≤ 20000) → (0 ≤ xL12_88 ∧ xL12_88 ≤ 20000) → (xL10_88 ≤ xL12_88) → xL12_88 - xL10_88 < nn → pv_T K 307 88 (pv_fl [o0_88, o1_88, o2_88, o3_88, o4_88, o5_88, o6_88, o7_88, some (.long (pv_J xL8_88)), o9_88, some (.long (pv_J xL10_88)), o11_88, some (.long (pv_J xL12_88)), o13_88, o14_88, o15_88]) [] h (Q307 τ ρ h a0 x1) := by
    intro nn
    induction nn with
    | zero => intro xL8_88 xL10_88 xL12_88 o0_88 o1_88 o2_88 o3_88 o4_88 o5_88 o6_88 o7_88 o9_88 o11_88 o13_88 o14_88 o15_88 rL8_88 rL10_88 rL12_88 i0_88 hm; exfalso; omega
    | succ nn ih88 =>
      intro xL8_88 xL10_88 xL12_88 o0_88 o1_88 o2_88 o3_88 o4_88 o5_88 o6_88 o7_88 o9_88 o11_88 o13_88 o14_88 o15_88 rL8_88 rL10_88 rL12_88 i0_88 hm88
      have J133 : ∀ (xL10_133 xL12_133 : Int) (o0_133 o1_133 o2_133 o3_133 o4_133 o5_133 o6_133 o7_133 o9_133 o11_133 o13_133 o14_133 o15_133 : Option Value), ((-9223372036854775808) ≤ xL8_88 ∧ xL8_88 ≤ 9223372036854775807) → (0 ≤ xL10_133 ∧ xL10_133 ≤ 20000) → (0 ≤ xL12_133 ∧ xL12_133 ≤ 20000) → (xL12_133 - xL10_133 < xL12_88 - xL10_88) → (xL10_133 ≤ xL12_133) → pv_T K 307 133 (pv_fl [o0_133, o1_133, o2_133, o3_133, o4_133, o5_133, o6_133, o7_133, some (.long (pv_J xL8_88)), o9_133, some (.long (pv_J xL10_133)), o11_133, some (.long (pv_J xL12_133)), o13_133, o14_133, o15_133]) [] h (Q307 τ ρ h a0 x1) := by
        intro xL10_133 xL12_133 o0_133 o1_133 o2_133 o3_133 o4_133 o5_133 o6_133 o7_133 o9_133 o11_133 o13_133 o14_133 o15_133 rL8_133 rL10_133 rL12_133 i0_133 i1_133
        refine pw_goto d307_133 rfl ?_
        exact ih88 (xL8_88) (xL10_133) (xL12_133) _ _ _ _ _ _ _ _ _ _ _ _ _ (by omega) (by omega) (by omega) (by omega) (by omega)
      refine pw_lload d307_88 rfl ?_
      refine pw_lload d307_90 rfl ?_
      refine pw_lcmp d307_92 (by omega) (by omega) (fun z92 ez92 => ?_)
      refine pw_if_ge d307_93 rfl (by omega) (fun c93 => ?_) (fun c93 => ?_)
      · refine pw_lload d307_136 rfl ?_
        refine pw_lload d307_138 rfl ?_
        refine pw_lmul d307_140 ?_
        refine pw_anyl (fun z140 hz140 ez140 => ?_)
        refine pw_lload d307_141 rfl ?_
        refine pw_lcmp d307_143 (by omega) (by omega) (fun z143 ez143 => ?_)
        refine pw_if_ne d307_144 rfl (by omega) (fun c144 => ?_) (fun c144 => ?_)
        · refine pw_iconst d307_153 ?_
          exact pw_ireturn d307_154 tt307 ⟨rfl, (-1), rfl, (by omega), (by omega)⟩
        · refine pw_lload d307_147 rfl ?_
          refine pw_l2i d307_149 ?_
          refine pw_goto d307_150 rfl ?_
          exact pw_ireturn d307_154 tt307 ⟨rfl, xL10_88, rfl, (by omega), (by omega)⟩
      · refine pw_lload d307_96 rfl ?_
        refine pw_lload d307_98 rfl ?_
        refine pw_ladd d307_100 ?_
        refine pw_lconst (z := 1) d307_101 (by decide) ?_
        refine pw_ladd d307_102 ?_
        refine pw_ldc2 (v := pv_J 2) d307_103 n307_103 ?_
        refine pw_ldiv d307_106 (by omega) (by omega) (by omega) (by omega) ?_
        refine pw_lstore d307_107 m307 rfl rfl ?_
        refine pw_lload d307_109 rfl ?_
        refine pw_lload d307_111 rfl ?_
        refine pw_lmul d307_113 ?_
        refine pw_anyl (fun z113 hz113 ez113 => ?_)
        refine pw_lload d307_114 rfl ?_
        refine pw_lcmp d307_116 (by omega) (by omega) (fun z116 ez116 => ?_)
        refine pw_if_gt d307_117 rfl (by omega) (fun c117 => ?_) (fun c117 => ?_)
        · refine pw_lload d307_127 rfl ?_
          refine pw_lconst (z := 1) d307_129 (by decide) ?_
          refine pw_lsub d307_130 ?_
          refine pw_lstore d307_131 m307 rfl rfl ?_
          exact J133 (xL10_88) (((((xL10_88 + xL12_88) + 1) / 2) - 1)) _ _ _ _ _ _ _ _ _ _ _ _ _ (by omega) (by omega) (by omega) (by omega) (by omega)
        · refine pw_lload d307_120 rfl ?_
          refine pw_lstore d307_122 m307 rfl rfl ?_
          refine pw_goto d307_124 rfl ?_
          exact J133 ((((xL10_88 + xL12_88) + 1) / 2)) (xL12_88) _ _ _ _ _ _ _ _ _ _ _ _ _ (by omega) (by omega) (by omega) (by omega) (by omega)
  refine pw_aload_n d307_0 rfl ?_
  refine pw_aload_n d307_1 rfl ?_
  refine pw_iload_n d307_2 rfl ?_
  refine pw_iconst d307_3 ?_
  refine pw_callV2 d307_4 k307_219 hT hA0 rfl rfl rfl (ct212 (τ := τ) (ρ := ρ) hT hA0 (by omega) (by omega)) (fun r4 h4 q4 => ?_)
  obtain ⟨eh4, z4, ez4, lz4, uz4, pz4_0, pz4_1⟩ := q4
  subst eh4
  subst ez4
  refine pw_iconst d307_7 ?_
  refine pw_callV2 d307_8 k307_232 hT hA0 rfl rfl rfl (ct215 (τ := τ) (ρ := ρ) hT hA0 (by omega) (by omega)) (fun r8 h8 q8 => ?_)
  obtain ⟨eh8, z8, ez8, lz8, uz8, pz8_0⟩ := q8
  subst eh8
  subst ez8
  refine pw_i2l d307_11 (by omega) ?_
  refine pw_lstore_n d307_12 m307 rfl rfl ?_
  refine pw_aload_n d307_13 rfl ?_
  refine pw_aload_n d307_14 rfl ?_
  refine pw_iload_n d307_15 rfl ?_
  refine pw_iconst d307_16 ?_
  refine pw_callV2 d307_17 k307_219 hT hA0 rfl rfl rfl (ct212 (τ := τ) (ρ := ρ) hT hA0 (by omega) (by omega)) (fun r17 h17 q17 => ?_)
  obtain ⟨eh17, z17, ez17, lz17, uz17, pz17_0, pz17_1⟩ := q17
  subst eh17
  subst ez17
  refine pw_iconst d307_20 ?_
  refine pw_callV2 d307_21 k307_232 hT hA0 rfl rfl rfl (ct215 (τ := τ) (ρ := ρ) hT hA0 (by omega) (by omega)) (fun r21 h21 q21 => ?_)
  obtain ⟨eh21, z21, ez21, lz21, uz21, pz21_0⟩ := q21
  subst eh21
  subst ez21
  refine pw_i2l d307_24 (by omega) ?_
  refine pw_lstore d307_25 m307 rfl rfl ?_
  refine pw_aload_n d307_27 rfl ?_
  refine pw_aload_n d307_28 rfl ?_
  refine pw_iload_n d307_29 rfl ?_
  refine pw_iconst d307_30 ?_
  refine pw_callV2 d307_31 k307_219 hT hA0 rfl rfl rfl (ct212 (τ := τ) (ρ := ρ) hT hA0 (by omega) (by omega)) (fun r31 h31 q31 => ?_)
  obtain ⟨eh31, z31, ez31, lz31, uz31, pz31_0, pz31_1⟩ := q31
  subst eh31
  subst ez31
  refine pw_iconst d307_34 ?_
  refine pw_callV2 d307_35 k307_232 hT hA0 rfl rfl rfl (ct215 (τ := τ) (ρ := ρ) hT hA0 (by omega) (by omega)) (fun r35 h35 q35 => ?_)
  obtain ⟨eh35, z35, ez35, lz35, uz35, pz35_0⟩ := q35
  subst eh35
  subst ez35
  refine pw_i2l d307_38 (by omega) ?_
  refine pw_lstore d307_39 m307 rfl rfl ?_
  refine pw_lload_n d307_41 rfl ?_
  refine pw_lconst (z := 0) d307_42 (by decide) ?_
  refine pw_lcmp d307_43 (by omega) (by omega) (fun z43 ez43 => ?_)
  refine pw_if_lt d307_44 rfl (by omega) (fun c44 => ?_) (fun c44 => ?_)
  · refine pw_iconst d307_61 ?_
    exact pw_ireturn d307_62 tt307 ⟨rfl, (-1), rfl, (by omega), (by omega)⟩
  · refine pw_lload d307_47 rfl ?_
    refine pw_lconst (z := 0) d307_49 (by decide) ?_
    refine pw_lcmp d307_50 (by omega) (by omega) (fun z50 ez50 => ?_)
    refine pw_if_lt d307_51 rfl (by omega) (fun c51 => ?_) (fun c51 => ?_)
    · refine pw_iconst d307_61 ?_
      exact pw_ireturn d307_62 tt307 ⟨rfl, (-1), rfl, (by omega), (by omega)⟩
    · refine pw_lload d307_54 rfl ?_
      refine pw_lconst (z := 0) d307_56 (by decide) ?_
      refine pw_lcmp d307_57 (by omega) (by omega) (fun z57 ez57 => ?_)
      refine pw_if_ge d307_58 rfl (by omega) (fun c58 => ?_) (fun c58 => ?_)
      · refine pw_lload_n d307_63 rfl ?_
        refine pw_lload d307_64 rfl ?_
        refine pw_lmul d307_66 ?_
        refine pw_anyl (fun z66 hz66 ez66 => ?_)
        refine pw_lload d307_67 rfl ?_
        refine pw_lload d307_69 rfl ?_
        refine pw_lmul d307_71 ?_
        refine pw_anyl (fun z71 hz71 ez71 => ?_)
        refine pw_ladd d307_72 ?_
        refine pw_lload d307_73 rfl ?_
        refine pw_lload_n d307_75 rfl ?_
        refine pw_lmul d307_76 ?_
        refine pw_anyl (fun z76 hz76 ez76 => ?_)
        refine pw_ladd d307_77 ?_
        refine pw_anyl (fun z78 hz78 ez78 => ?_)
        refine pw_lstore d307_78 m307 rfl rfl ?_
        refine pw_lconst (z := 0) d307_80 (by decide) ?_
        refine pw_lstore d307_81 m307 rfl rfl ?_
        refine pw_ldc2 (v := pv_J 20000) d307_83 n307_83 ?_
        refine pw_lstore d307_86 m307 rfl rfl ?_
        exact L88 _ (z78) (0) (20000) _ _ _ _ _ _ _ _ _ _ _ _ _ (by omega) (by omega) (by omega) (by omega) (pv_mu _)
      · refine pw_iconst d307_61 ?_
        exact pw_ireturn d307_62 tt307 ⟨rfl, (-1), rfl, (by omega), (by omega)⟩

abbrev Q306 (τ : Nat → Option Nat) (ρ : Nat → Nat → Nat) (h : pv_H) (a0 : Nat) (x1 : Int) (x2 : Int) : Option Value → pv_H → Prop := fun r h' => h = h' ∧ ∃ z : Int, r = some (.int (pv_I z)) ∧ (-1000000) ≤ z ∧ z ≤ 69997
set_option maxHeartbeats 4000000 in
set_option maxRecDepth 20000 in
/-- AngleNetModel.fourth(II)I -/
theorem ct306 {τ : Nat → Option Nat} {ρ : Nat → Nat → Nat} {K : Nat → Nat} {h : pv_H} {a0 : Nat} {x1 : Int} {x2 : Int} (hT : pv_Ty τ ρ h) (hA0 : τ a0 = some 7) (hX1 : (-2147483648) ≤ x1 ∧ x1 ≤ 2147483647) (hX2 : (-2147483648) ≤ x2 ∧ x2 ≤ 2147483647) : pv_C K 306 [.ref a0, .int (pv_I x1), .int (pv_I x2)] h (Q306 τ ρ h a0 x1 x2) := by
  refine pw_entry 2 ?_
  show pv_T K 306 0 (pv_fl [some (.ref a0), some (.int (pv_I x1)), some (.int (pv_I x2)), none, none]) [] h (Q306 τ ρ h a0 x1 x2)
  refine pw_aload_n d306_0 rfl ?_
  refine pw_iload_n d306_1 rfl ?_
  refine pw_callV1 d306_2 k306_225 hT hA0 rfl rfl rfl (ct211 (τ := τ) (ρ := ρ) hT hA0 (by omega)) (fun r2 h2 q2 => ?_)
  obtain ⟨eh2, z2, ez2, lz2, uz2, pz2_0⟩ := q2
  subst eh2
  subst ez2
  refine pw_if_eq d306_5 rfl (by omega) (fun c5 => ?_) (fun c5 => ?_)
  · refine pw_ldcw (v := pv_I (-1000000)) d306_18 n306_18 ?_
    exact pw_ireturn d306_21 tt306 ⟨rfl, (-1000000), rfl, (by omega), (by omega)⟩
  · refine pw_iload_n d306_8 rfl ?_
    refine pw_i2l d306_9 (by omega) ?_
    refine pw_lconst (z := 0) d306_10 (by decide) ?_
    refine pw_lconst (z := 1) d306_11 (by decide) ?_
    refine pw_callS3 d306_12 k306_73 rfl rfl (ct184 (τ := τ) (ρ := ρ) (by omega) (by omega) (by omega)) (fun r12 h12 q12 => ?_)
    obtain ⟨eh12, z12, ez12, lz12, uz12, pz12_0⟩ := q12
    subst eh12
    subst ez12
    refine pw_if_ne d306_15 rfl (by omega) (fun c15 => ?_) (fun c15 => ?_)
    · refine pw_aload_n d306_22 rfl ?_
      refine pw_iload_n d306_23 rfl ?_
      refine pw_callV1 d306_24 k306_475 hT hA0 rfl rfl rfl (ct307 (τ := τ) (ρ := ρ) hT hA0 (by omega)) (fun r24 h24 q24 => ?_)
      obtain ⟨eh24, z24, ez24, lz24, uz24⟩ := q24
      subst eh24
      subst ez24
      refine pw_istore_n d306_27 m306 rfl rfl ?_
      refine pw_iload_n d306_28 rfl ?_
      refine pw_iconst d306_29 ?_
      refine pw_icmp_ne d306_30 rfl (by omega) (by omega) (fun c30 => ?_) (fun c30 => ?_)
      · refine pw_aload_n d306_37 rfl ?_
        refine pw_aload_n d306_38 rfl ?_
        refine pw_iload_n d306_39 rfl ?_
        refine pw_iconst d306_40 ?_
        refine pw_callV2 d306_41 k306_219 hT hA0 rfl rfl rfl (ct212 (τ := τ) (ρ := ρ) hT hA0 (by omega) (by omega)) (fun r41 h41 q41 => ?_)
        obtain ⟨eh41, z41, ez41, lz41, uz41, pz41_0, pz41_1⟩ := q41
        subst eh41
        subst ez41
        refine pw_iconst d306_44 ?_
        refine pw_callV2 d306_45 k306_232 hT hA0 rfl rfl rfl (ct215 (τ := τ) (ρ := ρ) hT hA0 (by omega) (by omega)) (fun r45 h45 q45 => ?_)
        obtain ⟨eh45, z45, ez45, lz45, uz45, pz45_0⟩ := q45
        subst eh45
        subst ez45
        refine pw_aload_n d306_48 rfl ?_
        refine pw_aload_n d306_49 rfl ?_
        refine pw_iload_n d306_50 rfl ?_
        refine pw_iconst d306_51 ?_
        refine pw_callV2 d306_52 k306_219 hT hA0 rfl rfl rfl (ct212 (τ := τ) (ρ := ρ) hT hA0 (by omega) (by omega)) (fun r52 h52 q52 => ?_)
        obtain ⟨eh52, z52, ez52, lz52, uz52, pz52_0, pz52_1⟩ := q52
        subst eh52
        subst ez52
        refine pw_iconst d306_55 ?_
        refine pw_callV2 d306_56 k306_232 hT hA0 rfl rfl rfl (ct215 (τ := τ) (ρ := ρ) hT hA0 (by omega) (by omega)) (fun r56 h56 q56 => ?_)
        obtain ⟨eh56, z56, ez56, lz56, uz56, pz56_0⟩ := q56
        subst eh56
        subst ez56
        refine pw_iadd d306_59 ?_
        refine pw_aload_n d306_60 rfl ?_
        refine pw_aload_n d306_61 rfl ?_
        refine pw_iload_n d306_62 rfl ?_
        refine pw_iconst d306_63 ?_
        refine pw_callV2 d306_64 k306_219 hT hA0 rfl rfl rfl (ct212 (τ := τ) (ρ := ρ) hT hA0 (by omega) (by omega)) (fun r64 h64 q64 => ?_)
        obtain ⟨eh64, z64, ez64, lz64, uz64, pz64_0, pz64_1⟩ := q64
        subst eh64
        subst ez64
        refine pw_iconst d306_67 ?_
        refine pw_callV2 d306_68 k306_232 hT hA0 rfl rfl rfl (ct215 (τ := τ) (ρ := ρ) hT hA0 (by omega) (by omega)) (fun r68 h68 q68 => ?_)
        obtain ⟨eh68, z68, ez68, lz68, uz68, pz68_0⟩ := q68
        subst eh68
        subst ez68
        refine pw_iadd d306_71 ?_
        refine pw_istore d306_72 m306 rfl rfl ?_
        refine pw_iload_n d306_74 rfl ?_
        refine pw_if_ne d306_75 rfl (by omega) (fun c75 => ?_) (fun c75 => ?_)
        · refine pw_iload d306_87 rfl ?_
          refine pw_iconst d306_89 ?_
          refine pw_iload_n d306_90 rfl ?_
          refine pw_imul d306_91 ?_
          refine pw_isub d306_92 ?_
          exact pw_ireturn d306_93 tt306 ⟨rfl, (((z45 + z56) + z68) - (2 * z24)), rfl, (by omega), (by omega)⟩
        · refine pw_iload d306_78 rfl ?_
          refine pw_iconst d306_80 ?_
          refine pw_iload_n d306_81 rfl ?_
          refine pw_imul d306_82 ?_
          refine pw_iadd d306_83 ?_
          refine pw_goto d306_84 rfl ?_
          exact pw_ireturn d306_93 tt306 ⟨rfl, (((z45 + z56) + z68) + (2 * z24)), rfl, (by omega), (by omega)⟩
      · refine pw_ldcw (v := pv_I (-1000000)) d306_33 n306_33 ?_
        exact pw_ireturn d306_36 tt306 ⟨rfl, (-1000000), rfl, (by omega), (by omega)⟩
    · refine pw_ldcw (v := pv_I (-1000000)) d306_18 n306_18 ?_
      exact pw_ireturn d306_21 tt306 ⟨rfl, (-1000000), rfl, (by omega), (by omega)⟩

abbrev Q308 (τ : Nat → Option Nat) (ρ : Nat → Nat → Nat) (h : pv_H) (a0 : Nat) : Option Value → pv_H → Prop := fun r h' => h = h' ∧ ∃ z : Int, r = some (.int (pv_I z)) ∧ (-2147483648) ≤ z ∧ z ≤ 2147483647
set_option maxHeartbeats 4000000 in
set_option maxRecDepth 20000 in
/-- AngleNetModel.whole()I -/
theorem ct308 {τ : Nat → Option Nat} {ρ : Nat → Nat → Nat} {K : Nat → Nat} {h : pv_H} {a0 : Nat} (hT : pv_Ty τ ρ h) (hA0 : τ a0 = some 7) : pv_C K 308 [.ref a0] h (Q308 τ ρ h a0) := by
  refine pw_entry 2 ?_
  show pv_T K 308 0 (pv_fl [some (.ref a0), none, none]) [] h (Q308 τ ρ h a0)
  have L14 : ∀ (nn : Nat) (xL1_14 xL2_14 : Int), ((-2147483648) ≤ xL1_14 ∧ xL1_14 ≤ 2147483647) → (0 ≤ xL2_14 ∧ xL2_14 ≤ 18) → 18 - xL2_14 < nn → pv_T K 308 14 (pv_fl [some (.ref a0), some (.int (pv_I xL1_14)), some (.int (pv_I xL2_14))]) [] h (Q308 τ ρ h a0) := by
    intro nn
    induction nn with
    | zero => intro xL1_14 xL2_14 rL1_14 rL2_14 hm; exfalso; omega
    | succ nn ih14 =>
      intro xL1_14 xL2_14 rL1_14 rL2_14 hm14
      have J39 : ∀ (xS0_39 : Int) (o1_39 : Option Value), (0 ≤ xL2_14 ∧ xL2_14 ≤ 17) → (0 ≤ xS0_39 ∧ xS0_39 ≤ 1000000) → ((-2147483648) ≤ xL1_14 ∧ xL1_14 ≤ 2147483647) → pv_T K 308 39 (pv_fl [some (.ref a0), o1_39, some (.int (pv_I xL2_14))]) [.int (pv_I xS0_39), .int (pv_I xL1_14)] h (Q308 τ ρ h a0) := by
        intro xS0_39 o1_39 rL2_39 rS0_39 rS1_39
        refine pw_ior d308_39 (fun z39 hz39 ez39 => ?_)
        refine pw_istore_n d308_40 m308 rfl rfl ?_
        refine pw_iinc d308_41 m308 rfl rfl rfl ?_
        refine pw_goto d308_44 rfl ?_
        exact ih14 (z39) ((xL2_14 + 1)) (by omega) (by omega) (by omega)
      refine pw_iload_n d308_14 rfl ?_
      refine pw_aload_n d308_15 rfl ?_
      refine pw_callV0 d308_16 k308_216 hT hA0 rfl rfl rfl (ct216 (τ := τ) (ρ := ρ) hT hA0) (fun r16 h16 q16 => ?_)
      obtain ⟨eh16, z16, ez16, lz16, uz16, pz16_0⟩ := q16
      subst eh16
      subst ez16
      refine pw_icmp_ge d308_19 rfl (by omega) (by omega) (fun c19 => ?_) (fun c19 => ?_)
      · refine pw_iload_n d308_47 rfl ?_
        exact pw_ireturn d308_48 tt308 ⟨rfl, xL1_14, rfl, (by omega), (by omega)⟩
      · refine pw_iload_n d308_22 rfl ?_
        refine pw_aload_n d308_23 rfl ?_
        refine pw_iload_n d308_24 rfl ?_
        refine pw_callV1 d308_25 k308_475 hT hA0 rfl rfl rfl (ct307 (τ := τ) (ρ := ρ) hT hA0 (by omega)) (fun r25 h25 q25 => ?_)
        obtain ⟨eh25, z25, ez25, lz25, uz25⟩ := q25
        subst eh25
        subst ez25
        refine pw_iconst d308_28 ?_
        refine pw_icmp_ne d308_29 rfl (by omega) (by omega) (fun c29 => ?_) (fun c29 => ?_)
        · refine pw_iconst d308_36 ?_
          refine pw_iload_n d308_37 rfl ?_
          refine pw_ishl d308_38 (fun z38 hz38 ez38 => ?_)
          have bz38 := pv_shl1_b (n := 17) (m := 131072) (y := xL2_14) (by omega) (by omega) (by decide) (by decide) hz38 ez38
          exact J39 (z38) _ (by omega) (by omega) (by omega)
        · refine pw_iconst d308_32 ?_
          refine pw_goto d308_33 rfl ?_
          exact J39 (0) _ (by omega) (by omega) (by omega)
  refine pw_aload_n d308_0 rfl ?_
  refine pw_callV0 d308_1 k308_283 hT hA0 rfl rfl rfl (ct224 (τ := τ) (ρ := ρ) hT hA0) (fun r1 h1 q1 => ?_)
  obtain ⟨eh1, z1, ez1, lz1, uz1⟩ := q1
  subst eh1
  subst ez1
  refine pw_if_ne d308_4 rfl (by omega) (fun c4 => ?_) (fun c4 => ?_)
  · refine pw_iconst d308_10 ?_
    refine pw_istore_n d308_11 m308 rfl rfl ?_
    refine pw_iconst d308_12 ?_
    refine pw_istore_n d308_13 m308 rfl rfl ?_
    exact L14 _ (0) (0) (by omega) (by omega) (pv_mu _)
  · refine pw_bipush d308_7 (by decide) ?_
    exact pw_ireturn d308_9 tt308 ⟨rfl, (-2), rfl, (by omega), (by omega)⟩

abbrev Q313 (τ : Nat → Option Nat) (ρ : Nat → Nat → Nat) (h : pv_H) (a0 : Nat) (x1 : Int) (x2 : Int) : Option Value → pv_H → Prop := fun r h' => h = h' ∧ ∃ z : Int, r = some (.long (pv_J z)) ∧ (-9223372036854775808) ≤ z ∧ z ≤ 9223372036854775807
set_option maxHeartbeats 4000000 in
set_option maxRecDepth 20000 in
/-- AngleNetModel.cornerOf(II)J -/
theorem ct313 {τ : Nat → Option Nat} {ρ : Nat → Nat → Nat} {K : Nat → Nat} {h : pv_H} {a0 : Nat} {x1 : Int} {x2 : Int} (hT : pv_Ty τ ρ h) (hA0 : τ a0 = some 7) (hX1 : 0 ≤ x1 ∧ x1 ≤ 3) (hX2 : 0 ≤ x2 ∧ x2 ≤ 59) : pv_C K 313 [.ref a0, .int (pv_I x1), .int (pv_I x2)] h (Q313 τ ρ h a0 x1 x2) := by
  refine pw_entry 0 ?_
  show pv_T K 313 0 (pv_fl [some (.ref a0), some (.int (pv_I x1)), some (.int (pv_I x2))]) [] h (Q313 τ ρ h a0 x1 x2)
  refine pw_aload_n d313_0 rfl ?_
  refine pw_getR d313_1 g313_62 hT hA0 rfl rfl (fun t1 => ?_)
  have t1 : τ (ρ a0 26) = some 55 := t1
  refine pw_bipush d313_4 (by decide) ?_
  refine pw_iload_n d313_6 rfl ?_
  refine pw_imul d313_7 ?_
  refine pw_iload_n d313_8 rfl ?_
  refine pw_iadd d313_9 ?_
  refine pw_lald d313_10 hT t1 rfl rfl (by omega) (by omega) (fun u10 => ?_)
  exact pw_lreturn d313_11 tt313 ⟨rfl, (pv_aJ h (ρ a0 26) (((60 * x1) + x2)).toNat), rfl, (by omega), (by omega)⟩

abbrev Q312 (τ : Nat → Option Nat) (ρ : Nat → Nat → Nat) (h : pv_H) (a0 : Nat) (x1 : Int) : Option Value → pv_H → Prop := fun r h' => h = h' ∧ ∃ z : Int, r = some (.int (pv_I z)) ∧ 0 ≤ z ∧ z ≤ 353
set_option maxHeartbeats 4000000 in
set_option maxRecDepth 20000 in
/-- AngleNetModel.failsAt(I)I -/
theorem ct312 {τ : Nat → Option Nat} {ρ : Nat → Nat → Nat} {K : Nat → Nat} {h : pv_H} {a0 : Nat} {x1 : Int} (hT : pv_Ty τ ρ h) (hA0 : τ a0 = some 7) (hX1 : 0 ≤ x1 ∧ x1 ≤ 3) : pv_C K 312 [.ref a0, .int (pv_I x1)] h (Q312 τ ρ h a0 x1) := by
  refine pw_entry 7 ?_
  show pv_T K 312 0 (pv_fl [some (.ref a0), some (.int (pv_I x1)), none, none, none, none, none, none, none]) [] h (Q312 τ ρ h a0 x1)
  have L211 : ∀ (nn : Nat) (xL2_211 : Int) (o3_211 o4_211 o5_211 o6_211 o7_211 o8_211 : Option Value), (0 ≤ x1 ∧ x1 ≤ 3) → (0 ≤ xL2_211 ∧ xL2_211 ≤ 54) → 54 - xL2_211 < nn → pv_T K 312 211 (pv_fl [some (.ref a0), some (.int (pv_I x1)), some (.int (pv_I xL2_211)), o3_211, o4_211, o5_211, o6_211, o7_211, o8_211]) [] h (Q312 τ ρ h a0 x1) := by
    intro nn
    induction nn with
    | zero => intro xL2_211 o3_211 o4_211 o5_211 o6_211 o7_211 o8_211 rL1_211 rL2_211 hm; exfalso; omega
    | succ nn ih211 =>
      intro xL2_211 o3_211 o4_211 o5_211 o6_211 o7_211 o8_211 rL1_211 rL2_211 hm211
      refine pw_iload_n d312_211 rfl ?_
      refine pw_iconst d312_212 ?_
      refine pw_aload_n d312_213 rfl ?_
      refine pw_callV0 d312_214 k312_216 hT hA0 rfl rfl rfl (ct216 (τ := τ) (ρ := ρ) hT hA0) (fun r214 h214 q214 => ?_)
      obtain ⟨eh214, z214, ez214, lz214, uz214, pz214_0⟩ := q214
      subst eh214
      subst ez214
      refine pw_imul d312_217 ?_
      refine pw_icmp_ge d312_218 rfl (by omega) (by omega) (fun c218 => ?_) (fun c218 => ?_)
      · refine pw_iconst d312_259 ?_
        exact pw_ireturn d312_260 tt312 ⟨rfl, 0, rfl, (by omega), (by omega)⟩
      · refine pw_aload_n d312_221 rfl ?_
        refine pw_iload_n d312_222 rfl ?_
        refine pw_iload_n d312_223 rfl ?_
        refine pw_callV2 d312_224 k312_481 hT hA0 rfl rfl rfl (ct313 (τ := τ) (ρ := ρ) hT hA0 (by omega) (by omega)) (fun r224 h224 q224 => ?_)
        obtain ⟨eh224, z224, ez224, lz224, uz224⟩ := q224
        subst eh224
        subst ez224
        refine pw_aload_n d312_227 rfl ?_
        refine pw_getR d312_228 g312_9 hT hA0 rfl rfl (fun t228 => ?_)
        have t228 : τ (ρ a0 1) = some 40 := t228
        refine pw_iconst d312_231 ?_
        refine pw_ialdB d312_232 hT t228 rfl rfl (by omega) (by omega) (fun u232 => ?_)
        have u232 : pv_wok ((3 : Int)) (pv_aI h (ρ a0 1) ((3 : Int)).toNat) := u232
        have vu232 := u232.2.2.2.1 (by omega)
        refine pw_i2l d312_233 (by omega) ?_
        refine pw_aload_n d312_234 rfl ?_
        refine pw_getR d312_235 g312_9 hT hA0 rfl rfl (fun t235 => ?_)
        have t235 : τ (ρ a0 1) = some 40 := t235
        refine pw_iconst d312_238 ?_
        refine pw_ialdB d312_239 hT t235 rfl rfl (by omega) (by omega) (fun u239 => ?_)
        have u239 : pv_wok ((4 : Int)) (pv_aI h (ρ a0 1) ((4 : Int)).toNat) := u239
        have vu239 := u239.2.2.2.2.1 (by omega)
        refine pw_i2l d312_240 (by omega) ?_
        refine pw_callS3 d312_241 k312_73 rfl rfl (ct184 (τ := τ) (ρ := ρ) (by omega) (by omega) (by omega)) (fun r241 h241 q241 => ?_)
        obtain ⟨eh241, z241, ez241, lz241, uz241, pz241_0⟩ := q241
        subst eh241
        subst ez241
        refine pw_if_ne d312_244 rfl (by omega) (fun c244 => ?_) (fun c244 => ?_)
        · refine pw_iinc d312_253 m312 rfl rfl rfl ?_
          refine pw_goto d312_256 rfl ?_
          exact ih211 ((xL2_211 + 1)) _ _ _ _ _ _ (by omega) (by omega) (by omega)
        · refine pw_sipush d312_247 (by decide) ?_
          refine pw_iload_n d312_250 rfl ?_
          refine pw_iadd d312_251 ?_
          exact pw_ireturn d312_252 tt312 ⟨rfl, (300 + xL2_211), rfl, (by omega), (by omega)⟩
  have L113 : ∀ (nn : Nat) (xL2_113 : Int) (o3_113 o4_113 o5_113 o6_113 o7_113 o8_113 : Option Value), (0 ≤ x1 ∧ x1 ≤ 3) → (0 ≤ xL2_113 ∧ xL2_113 ≤ 10) → 10 - xL2_113 < nn → pv_T K 312 113 (pv_fl [some (.ref a0), some (.int (pv_I x1)), some (.int (pv_I xL2_113)), o3_113, o4_113, o5_113, o6_113, o7_113, o8_113]) [] h (Q312 τ ρ h a0 x1) := by
    intro nn
    induction nn with
    | zero => intro xL2_113 o3_113 o4_113 o5_113 o6_113 o7_113 o8_113 rL1_113 rL2_113 hm; exfalso; omega
    | succ nn ih113 =>
      intro xL2_113 o3_113 o4_113 o5_113 o6_113 o7_113 o8_113 rL1_113 rL2_113 hm113
      have J203 : ∀ (o3_203 o4_203 o5_203 o6_203 o7_203 o8_203 : Option Value), (0 ≤ x1 ∧ x1 ≤ 3) → (0 ≤ xL2_113 ∧ xL2_113 ≤ 9) → pv_T K 312 203 (pv_fl [some (.ref a0), some (.int (pv_I x1)), some (.int (pv_I xL2_113)), o3_203, o4_203, o5_203, o6_203, o7_203, o8_203]) [] h (Q312 τ ρ h a0 x1) := by
        intro o3_203 o4_203 o5_203 o6_203 o7_203 o8_203 rL1_203 rL2_203
        refine pw_iinc d312_203 m312 rfl rfl rfl ?_
        refine pw_goto d312_206 rfl ?_
        exact ih113 ((xL2_113 + 1)) _ _ _ _ _ _ (by omega) (by omega) (by omega)
      have L134 : ∀ (nn : Nat) (xL3_134 xL5_134 : Int) (o4_134 o6_134 o7_134 o8_134 : Option Value), (0 ≤ x1 ∧ x1 ≤ 3) → (0 ≤ xL2_113 ∧ xL2_113 ≤ 9) → ((-9223372036854775808) ≤ xL3_134 ∧ xL3_134 ≤ 9223372036854775807) → (0 ≤ xL5_134 ∧ xL5_134 ≤ 54) → 54 - xL5_134 < nn → pv_T K 312 134 (pv_fl [some (.ref a0), some (.int (pv_I x1)), some (.int (pv_I xL2_113)), some (.long (pv_J xL3_134)), o4_134, some (.int (pv_I xL5_134)), o6_134, o7_134, o8_134]) [] h (Q312 τ ρ h a0 x1) := by
        intro nn
        induction nn with
        | zero => intro xL3_134 xL5_134 o4_134 o6_134 o7_134 o8_134 rL1_134 rL2_134 rL3_134 rL5_134 hm; exfalso; omega
        | succ nn ih134 =>
          intro xL3_134 xL5_134 o4_134 o6_134 o7_134 o8_134 rL1_134 rL2_134 rL3_134 rL5_134 hm134
          have J173 : ∀ (xS0_173 : Int) (o3_173 o4_173 o6_173 o7_173 o8_173 : Option Value), (0 ≤ x1 ∧ x1 ≤ 3) → (0 ≤ xL2_113 ∧ xL2_113 ≤ 9) → (0 ≤ xL5_134 ∧ xL5_134 ≤ 53) → ((-9223372036854775808) ≤ xS0_173 ∧ xS0_173 ≤ 9223372036854775807) → ((-9223372036854775808) ≤ xL3_134 ∧ xL3_134 ≤ 9223372036854775807) → pv_T K 312 173 (pv_fl [some (.ref a0), some (.int (pv_I x1)), some (.int (pv_I xL2_113)), o3_173, o4_173, some (.int (pv_I xL5_134)), o6_173, o7_173, o8_173]) [.long (pv_J xS0_173), .long (pv_J xL3_134)] h (Q312 τ ρ h a0 x1) := by
            intro xS0_173 o3_173 o4_173 o6_173 o7_173 o8_173 rL1_173 rL2_173 rL5_173 rS0_173 rS1_173
            refine pw_lsub d312_173 ?_
            refine pw_anyl (fun z174 hz174 ez174 => ?_)
            refine pw_lstore_n d312_174 m312 rfl rfl ?_
            refine pw_iinc d312_175 m312 rfl rfl rfl ?_
            refine pw_goto d312_178 rfl ?_
            exact ih134 (z174) ((xL5_134 + 1)) _ _ _ _ (by omega) (by omega) (by omega) (by omega) (by omega)
          refine pw_iload d312_134 rfl ?_
          refine pw_iconst d312_136 ?_
          refine pw_aload_n d312_137 rfl ?_
          refine pw_callV0 d312_138 k312_216 hT hA0 rfl rfl rfl (ct216 (τ := τ) (ρ := ρ) hT hA0) (fun r138 h138 q138 => ?_)
          obtain ⟨eh138, z138, ez138, lz138, uz138, pz138_0⟩ := q138
          subst eh138
          subst ez138
          refine pw_imul d312_141 ?_
          refine pw_icmp_ge d312_142 rfl (by omega) (by omega) (fun c142 => ?_) (fun c142 => ?_)
          · refine pw_aload_n d312_181 rfl ?_
            refine pw_iload_n d312_182 rfl ?_
            refine pw_iconst d312_183 ?_
            refine pw_callV2 d312_184 k312_232 hT hA0 rfl rfl rfl (ct215 (τ := τ) (ρ := ρ) hT hA0 (by omega) (by omega)) (fun r184 h184 q184 => ?_)
            obtain ⟨eh184, z184, ez184, lz184, uz184, pz184_0⟩ := q184
            subst eh184
            subst ez184
            refine pw_iconst d312_187 ?_
            refine pw_icmp_eq d312_188 rfl (by omega) (by omega) (fun c188 => ?_) (fun c188 => ?_)
            · exact J203 _ _ _ _ _ _ (by omega) (by omega)
            · refine pw_lload_n d312_191 rfl ?_
              refine pw_lconst (z := 0) d312_192 (by decide) ?_
              refine pw_lcmp d312_193 (by omega) (by omega) (fun z193 ez193 => ?_)
              refine pw_if_eq d312_194 rfl (by omega) (fun c194 => ?_) (fun c194 => ?_)
              · exact J203 _ _ _ _ _ _ (by omega) (by omega)
              · refine pw_sipush d312_197 (by decide) ?_
                refine pw_iload_n d312_200 rfl ?_
                refine pw_iadd d312_201 ?_
                exact pw_ireturn d312_202 tt312 ⟨rfl, (200 + xL2_113), rfl, (by omega), (by omega)⟩
          · refine pw_lload_n d312_145 rfl ?_
            refine pw_aload_n d312_146 rfl ?_
            refine pw_iload d312_147 rfl ?_
            refine pw_iconst d312_149 ?_
            refine pw_idiv d312_150 (by omega) (by omega) (by omega) (by omega) ?_
            refine pw_iload d312_151 rfl ?_
            refine pw_iconst d312_153 ?_
            refine pw_irem d312_154 (by omega) (by omega) (by omega) (by omega) ?_
            refine pw_callV2 d312_155 k312_219 hT hA0 rfl rfl rfl (ct212 (τ := τ) (ρ := ρ) hT hA0 (by omega) (by omega)) (fun r155 h155 q155 => ?_)
            obtain ⟨eh155, z155, ez155, lz155, uz155, pz155_0, pz155_1⟩ := q155
            subst eh155
            subst ez155
            refine pw_iload_n d312_158 rfl ?_
            refine pw_icmp_ne d312_159 rfl (by omega) (by omega) (fun c159 => ?_) (fun c159 => ?_)
            · refine pw_lconst (z := 0) d312_172 (by decide) ?_
              exact J173 (0) _ _ _ _ _ (by omega) (by omega) (by omega) (by omega) (by omega)
            · refine pw_aload_n d312_162 rfl ?_
              refine pw_iload_n d312_163 rfl ?_
              refine pw_iload d312_164 rfl ?_
              refine pw_callV2 d312_166 k312_481 hT hA0 rfl rfl rfl (ct313 (τ := τ) (ρ := ρ) hT hA0 (by omega) (by omega)) (fun r166 h166 q166 => ?_)
              obtain ⟨eh166, z166, ez166, lz166, uz166⟩ := q166
              subst eh166
              subst ez166
              refine pw_goto d312_169 rfl ?_
              exact J173 (z166) _ _ _ _ _ (by omega) (by omega) (by omega) (by omega) (by omega)
      refine pw_iload_n d312_113 rfl ?_
      refine pw_aload_n d312_114 rfl ?_
      refine pw_getR d312_115 g312_9 hT hA0 rfl rfl (fun t115 => ?_)
      have t115 : τ (ρ a0 1) = some 40 := t115
      refine pw_iconst d312_118 ?_
      refine pw_ialdB d312_119 hT t115 rfl rfl (by omega) (by omega) (fun u119 => ?_)
      have u119 : pv_wok ((0 : Int)) (pv_aI h (ρ a0 1) ((0 : Int)).toNat) := u119
      have vu119 := u119.2.1 (by omega)
      refine pw_icmp_ge d312_120 rfl (by omega) (by omega) (fun c120 => ?_) (fun c120 => ?_)
      · refine pw_iconst d312_209 ?_
        refine pw_istore_n d312_210 m312 rfl rfl ?_
        exact L211 _ (0) _ _ _ _ _ _ (by omega) (by omega) (pv_mu _)
      · refine pw_aload_n d312_123 rfl ?_
        refine pw_iload_n d312_124 rfl ?_
        refine pw_iconst d312_125 ?_
        refine pw_callV2 d312_126 k312_232 hT hA0 rfl rfl rfl (ct215 (τ := τ) (ρ := ρ) hT hA0 (by omega) (by omega)) (fun r126 h126 q126 => ?_)
        obtain ⟨eh126, z126, ez126, lz126, uz126, pz126_0⟩ := q126
        subst eh126
        subst ez126
        refine pw_i2l d312_129 (by omega) ?_
        refine pw_lstore_n d312_130 m312 rfl rfl ?_
        refine pw_iconst d312_131 ?_
        refine pw_istore d312_132 m312 rfl rfl ?_
        exact L134 _ (z126) (0) _ _ _ _ (by omega) (by omega) (by omega) (by omega) (pv_mu _)
  have L2 : ∀ (nn : Nat) (xL2_2 : Int) (o3_2 o4_2 o5_2 o6_2 o7_2 o8_2 : Option Value), (0 ≤ x1 ∧ x1 ≤ 3) → (0 ≤ xL2_2 ∧ xL2_2 ≤ 18) → 18 - xL2_2 < nn → pv_T K 312 2 (pv_fl [some (.ref a0), some (.int (pv_I x1)), some (.int (pv_I xL2_2)), o3_2, o4_2, o5_2, o6_2, o7_2, o8_2]) [] h (Q312 τ ρ h a0 x1) := by
    intro nn
    induction nn with
    | zero => intro xL2_2 o3_2 o4_2 o5_2 o6_2 o7_2 o8_2 rL1_2 rL2_2 hm; exfalso; omega
    | succ nn ih2 =>
      intro xL2_2 o3_2 o4_2 o5_2 o6_2 o7_2 o8_2 rL1_2 rL2_2 hm2
      have J100 : ∀ (o0_100 o1_100 o3_100 o4_100 o5_100 o6_100 o7_100 o8_100 : Option Value), (0 ≤ xL2_2 ∧ xL2_2 ≤ 17) → pv_T K 312 100 (pv_fl [o0_100, o1_100, some (.int (pv_I xL2_2)), o3_100, o4_100, o5_100, o6_100, o7_100, o8_100]) [] h (Q312 τ ρ h a0 x1) := by
        intro o0_100 o1_100 o3_100 o4_100 o5_100 o6_100 o7_100 o8_100 rL2_100
        refine pw_bipush d312_100 (by decide) ?_
        refine pw_iload_n d312_102 rfl ?_
        refine pw_iadd d312_103 ?_
        exact pw_ireturn d312_104 tt312 ⟨rfl, (100 + xL2_2), rfl, (by omega), (by omega)⟩
      have L24 : ∀ (nn : Nat) (xL3_24 xL5_24 xL6_24 : Int) (o4_24 o7_24 o8_24 : Option Value), (0 ≤ x1 ∧ x1 ≤ 3) → (0 ≤ xL2_2 ∧ xL2_2 ≤ 17) → ((-9223372036854775808) ≤ xL3_24 ∧ xL3_24 ≤ 9223372036854775807) → (0 ≤ xL5_24 ∧ xL5_24 ≤ 1) → (0 ≤ xL6_24 ∧ xL6_24 ≤ 3) → 3 - xL6_24 < nn → pv_T K 312 24 (pv_fl [some (.ref a0), some (.int (pv_I x1)), some (.int (pv_I xL2_2)), some (.long (pv_J xL3_24)), o4_24, some (.int (pv_I xL5_24)), some (.int (pv_I xL6_24)), o7_24, o8_24]) [] h (Q312 τ ρ h a0 x1) := by
        intro nn
        induction nn with
        | zero => intro xL3_24 xL5_24 xL6_24 o4_24 o7_24 o8_24 rL1_24 rL2_24 rL3_24 rL5_24 rL6_24 hm; exfalso; omega
        | succ nn ih24 =>
          intro xL3_24 xL5_24 xL6_24 o4_24 o7_24 o8_24 rL1_24 rL2_24 rL3_24 rL5_24 rL6_24 hm24
          have J81 : ∀ (xL5_81 xS0_81 : Int) (o3_81 o4_81 o7_81 o8_81 : Option Value), (0 ≤ x1 ∧ x1 ≤ 3) → (0 ≤ xL2_2 ∧ xL2_2 ≤ 17) → (0 ≤ xL5_81 ∧ xL5_81 ≤ 1) → (0 ≤ xL6_24 ∧ xL6_24 ≤ 2) → ((-9223372036854775808) ≤ xS0_81 ∧ xS0_81 ≤ 9223372036854775807) → ((-9223372036854775808) ≤ xL3_24 ∧ xL3_24 ≤ 9223372036854775807) → pv_T K 312 81 (pv_fl [some (.ref a0), some (.int (pv_I x1)), some (.int (pv_I xL2_2)), o3_81, o4_81, some (.int (pv_I xL5_81)), some (.int (pv_I xL6_24)), o7_81, o8_81]) [.long (pv_J xS0_81), .long (pv_J xL3_24)] h (Q312 τ ρ h a0 x1) := by
            intro xL5_81 xS0_81 o3_81 o4_81 o7_81 o8_81 rL1_81 rL2_81 rL5_81 rL6_81 rS0_81 rS1_81
            refine pw_lsub d312_81 ?_
            refine pw_anyl (fun z82 hz82 ez82 => ?_)
            refine pw_lstore_n d312_82 m312 rfl rfl ?_
            refine pw_iinc d312_83 m312 rfl rfl rfl ?_
            refine pw_goto d312_86 rfl ?_
            exact ih24 (z82) (xL5_81) ((xL6_24 + 1)) _ _ _ (by omega) (by omega) (by omega) (by omega) (by omega) (by omega)
          have J67 : ∀ (xL7_67 xS0_67 : Int) (o4_67 o5_67 o8_67 : Option Value), (0 ≤ x1 ∧ x1 ≤ 3) → (0 ≤ xL2_2 ∧ xL2_2 ≤ 17) → ((-9223372036854775808) ≤ xL3_24 ∧ xL3_24 ≤ 9223372036854775807) → (0 ≤ xL6_24 ∧ xL6_24 ≤ 2) → ((-9223372036854775808) ≤ xL7_67 ∧ xL7_67 ≤ 9223372036854775807) → (0 ≤ xS0_67 ∧ xS0_67 ≤ 1) → pv_T K 312 67 (pv_fl [some (.ref a0), some (.int (pv_I x1)), some (.int (pv_I xL2_2)), some (.long (pv_J xL3_24)), o4_67, o5_67, some (.int (pv_I xL6_24)), some (.long (pv_J xL7_67)), o8_67]) [.int (pv_I xS0_67)] h (Q312 τ ρ h a0 x1) := by
            intro xL7_67 xS0_67 o4_67 o5_67 o8_67 rL1_67 rL2_67 rL3_67 rL6_67 rL7_67 rS0_67
            refine pw_istore d312_67 m312 rfl rfl ?_
            refine pw_lload_n d312_69 rfl ?_
            refine pw_iload d312_70 rfl ?_
            refine pw_if_eq d312_72 rfl (by omega) (fun c72 => ?_) (fun c72 => ?_)
            · refine pw_lconst (z := 0) d312_80 (by decide) ?_
              exact J81 (xS0_67) (0) _ _ _ _ (by omega) (by omega) (by omega) (by omega) (by omega) (by omega)
            · refine pw_lload d312_75 rfl ?_
              refine pw_goto d312_77 rfl ?_
              exact J81 (xS0_67) (xL7_67) _ _ _ _ (by omega) (by omega) (by omega) (by omega) (by omega) (by omega)
          have J66 : ∀ (xL7_66 : Int) (o4_66 o5_66 o8_66 : Option Value), (0 ≤ x1 ∧ x1 ≤ 3) → (0 ≤ xL2_2 ∧ xL2_2 ≤ 17) → ((-9223372036854775808) ≤ xL3_24 ∧ xL3_24 ≤ 9223372036854775807) → (0 ≤ xL6_24 ∧ xL6_24 ≤ 2) → ((-9223372036854775808) ≤ xL7_66 ∧ xL7_66 ≤ 9223372036854775807) → pv_T K 312 66 (pv_fl [some (.ref a0), some (.int (pv_I x1)), some (.int (pv_I xL2_2)), some (.long (pv_J xL3_24)), o4_66, o5_66, some (.int (pv_I xL6_24)), some (.long (pv_J xL7_66)), o8_66]) [] h (Q312 τ ρ h a0 x1) := by
            intro xL7_66 o4_66 o5_66 o8_66 rL1_66 rL2_66 rL3_66 rL6_66 rL7_66
            refine pw_iconst d312_66 ?_
            exact J67 (xL7_66) (0) _ _ _ (by omega) (by omega) (by omega) (by omega) (by omega) (by omega)
          refine pw_iload d312_24 rfl ?_
          refine pw_iconst d312_26 ?_
          refine pw_icmp_ge d312_27 rfl (by omega) (by omega) (fun c27 => ?_) (fun c27 => ?_)
          · refine pw_iload d312_89 rfl ?_
            refine pw_if_eq d312_91 rfl (by omega) (fun c91 => ?_) (fun c91 => ?_)
            · exact J100 _ _ _ _ _ _ _ _ (by omega)
            · refine pw_lload_n d312_94 rfl ?_
              refine pw_lconst (z := 0) d312_95 (by decide) ?_
              refine pw_lcmp d312_96 (by omega) (by omega) (fun z96 ez96 => ?_)
              refine pw_if_eq d312_97 rfl (by omega) (fun c97 => ?_) (fun c97 => ?_)
              · refine pw_iinc d312_105 m312 rfl rfl rfl ?_
                refine pw_goto d312_108 rfl ?_
                exact ih2 ((xL2_2 + 1)) _ _ _ _ _ _ (by omega) (by omega) (by omega)
              · exact J100 _ _ _ _ _ _ _ _ (by omega)
          · refine pw_aload_n d312_30 rfl ?_
            refine pw_iload_n d312_31 rfl ?_
            refine pw_iconst d312_32 ?_
            refine pw_iload_n d312_33 rfl ?_
            refine pw_imul d312_34 ?_
            refine pw_iload d312_35 rfl ?_
            refine pw_iadd d312_37 ?_
            refine pw_callV2 d312_38 k312_481 hT hA0 rfl rfl rfl (ct313 (τ := τ) (ρ := ρ) hT hA0 (by omega) (by omega)) (fun r38 h38 q38 => ?_)
            obtain ⟨eh38, z38, ez38, lz38, uz38⟩ := q38
            subst eh38
            subst ez38
            refine pw_lstore d312_41 m312 rfl rfl ?_
            refine pw_iload d312_43 rfl ?_
            refine pw_if_eq d312_45 rfl (by omega) (fun c45 => ?_) (fun c45 => ?_)
            · exact J66 (z38) _ _ _ (by omega) (by omega) (by omega) (by omega) (by omega)
            · refine pw_lload d312_48 rfl ?_
              refine pw_ldc2 (v := pv_J (-1000000000000)) d312_50 n312_50 ?_
              refine pw_ldc2 (v := pv_J 1000000000000) d312_53 n312_53 ?_
              refine pw_callS3 d312_56 k312_73 rfl rfl (ct184 (τ := τ) (ρ := ρ) (by omega) (by omega) (by omega)) (fun r56 h56 q56 => ?_)
              obtain ⟨eh56, z56, ez56, lz56, uz56, pz56_0⟩ := q56
              subst eh56
              subst ez56
              refine pw_if_eq d312_59 rfl (by omega) (fun c59 => ?_) (fun c59 => ?_)
              · exact J66 (z38) _ _ _ (by omega) (by omega) (by omega) (by omega) (by omega)
              · refine pw_iconst d312_62 ?_
                refine pw_goto d312_63 rfl ?_
                exact J67 (z38) (1) _ _ _ (by omega) (by omega) (by omega) (by omega) (by omega) (by omega)
      refine pw_iload_n d312_2 rfl ?_
      refine pw_aload_n d312_3 rfl ?_
      refine pw_callV0 d312_4 k312_216 hT hA0 rfl rfl rfl (ct216 (τ := τ) (ρ := ρ) hT hA0) (fun r4 h4 q4 => ?_)
      obtain ⟨eh4, z4, ez4, lz4, uz4, pz4_0⟩ := q4
      subst eh4
      subst ez4
      refine pw_icmp_ge d312_7 rfl (by omega) (by omega) (fun c7 => ?_) (fun c7 => ?_)
      · refine pw_iconst d312_111 ?_
        refine pw_istore_n d312_112 m312 rfl rfl ?_
        exact L113 _ (0) _ _ _ _ _ _ (by omega) (by omega) (pv_mu _)
      · refine pw_aload_n d312_10 rfl ?_
        refine pw_iload_n d312_11 rfl ?_
        refine pw_iconst d312_12 ?_
        refine pw_callV2 d312_13 k312_219 hT hA0 rfl rfl rfl (ct212 (τ := τ) (ρ := ρ) hT hA0 (by omega) (by omega)) (fun r13 h13 q13 => ?_)
        obtain ⟨eh13, z13, ez13, lz13, uz13, pz13_0, pz13_1⟩ := q13
        subst eh13
        subst ez13
        refine pw_i2l d312_16 (by omega) ?_
        refine pw_lstore_n d312_17 m312 rfl rfl ?_
        refine pw_iconst d312_18 ?_
        refine pw_istore d312_19 m312 rfl rfl ?_
        refine pw_iconst d312_21 ?_
        refine pw_istore d312_22 m312 rfl rfl ?_
        exact L24 _ (z13) (1) (0) _ _ _ (by omega) (by omega) (by omega) (by omega) (by omega) (pv_mu _)
  refine pw_iconst d312_0 ?_
  refine pw_istore_n d312_1 m312 rfl rfl ?_
  exact L2 _ (0) _ _ _ _ _ _ (by omega) (by omega) (pv_mu _)

abbrev Q310 (τ : Nat → Option Nat) (ρ : Nat → Nat → Nat) (h : pv_H) (x0 : Int) : Option Value → pv_H → Prop := fun r h' => h = h' ∧ ∃ z : Int, r = some (.int (pv_I z)) ∧ 0 ≤ z ∧ z ≤ 1 ∧ ((z = 1 ∧ 0 ≤ x0 ∧ x0 ≤ 3) ∨ (z = 0 ∧ (x0 < 0 ∨ 3 < x0)))
set_option maxHeartbeats 4000000 in
set_option maxRecDepth 20000 in
/-- AngleNetModel.isSlot(I)Z -/
theorem ct310 {τ : Nat → Option Nat} {ρ : Nat → Nat → Nat} {K : Nat → Nat} {h : pv_H} {x0 : Int} (hX0 : (-2147483648) ≤ x0 ∧ x0 ≤ 2147483647) : pv_C K 310 [.int (pv_I x0)] h (Q310 τ ρ h x0) := by
  refine pw_entry 0 ?_
  show pv_T K 310 0 (pv_fl [some (.int (pv_I x0))]) [] h (Q310 τ ρ h x0)
  refine pw_iload_n d310_0 rfl ?_
  refine pw_i2l d310_1 (by omega) ?_
  refine pw_lconst (z := 0) d310_2 (by decide) ?_
  refine pw_ldc2 (v := pv_J 3) d310_3 n310_3 ?_
  refine pw_callS3 d310_6 k310_73 rfl rfl (ct184 (τ := τ) (ρ := ρ) (by omega) (by omega) (by omega)) (fun r6 h6 q6 => ?_)
  obtain ⟨eh6, z6, ez6, lz6, uz6, pz6_0⟩ := q6
  subst eh6
  subst ez6
  exact pw_zreturn d310_9 tt310 (by omega) ⟨rfl, z6, rfl, (by omega), (by omega), (by omega)⟩

abbrev Q311 (τ : Nat → Option Nat) (ρ : Nat → Nat → Nat) (h : pv_H) (a0 : Nat) (x1 : Int) : Option Value → pv_H → Prop := fun r h' => h = h' ∧ ∃ z : Int, r = some (.int (pv_I z)) ∧ (-7) ≤ z ∧ z ≤ 353
set_option maxHeartbeats 4000000 in
set_option maxRecDepth 20000 in
/-- AngleNetModel.laid(I)I -/
theorem ct311 {τ : Nat → Option Nat} {ρ : Nat → Nat → Nat} {K : Nat → Nat} {h : pv_H} {a0 : Nat} {x1 : Int} (hT : pv_Ty τ ρ h) (hA0 : τ a0 = some 7) (hX1 : (-2147483648) ≤ x1 ∧ x1 ≤ 2147483647) : pv_C K 311 [.ref a0, .int (pv_I x1)] h (Q311 τ ρ h a0 x1) := by
  refine pw_entry 0 ?_
  show pv_T K 311 0 (pv_fl [some (.ref a0), some (.int (pv_I x1))]) [] h (Q311 τ ρ h a0 x1)
  refine pw_iload_n d311_0 rfl ?_
  refine pw_callS1 d311_1 k311_478 rfl rfl (ct310 (τ := τ) (ρ := ρ) (by omega)) (fun r1 h1 q1 => ?_)
  obtain ⟨eh1, z1, ez1, lz1, uz1, pz1_0⟩ := q1
  subst eh1
  subst ez1
  refine pw_if_eq d311_4 rfl (by omega) (fun c4 => ?_) (fun c4 => ?_)
  · refine pw_bipush d311_14 (by decide) ?_
    exact pw_ireturn d311_16 tt311 ⟨rfl, (-2), rfl, (by omega), (by omega)⟩
  · refine pw_aload_n d311_7 rfl ?_
    refine pw_callV0 d311_8 k311_283 hT hA0 rfl rfl rfl (ct224 (τ := τ) (ρ := ρ) hT hA0) (fun r8 h8 q8 => ?_)
    obtain ⟨eh8, z8, ez8, lz8, uz8⟩ := q8
    subst eh8
    subst ez8
    refine pw_if_ne d311_11 rfl (by omega) (fun c11 => ?_) (fun c11 => ?_)
    · refine pw_aload_n d311_17 rfl ?_
      refine pw_getR d311_18 g311_56 hT hA0 rfl rfl (fun t18 => ?_)
      have t18 : τ (ρ a0 24) = some 53 := t18
      refine pw_iload_n d311_21 rfl ?_
      refine pw_iald d311_22 hT t18 rfl rfl (by omega) (by omega) (fun u22 vu22 => ?_)
      refine pw_iconst d311_23 ?_
      refine pw_icmp_ne d311_24 rfl (by omega) (by omega) (fun c24 => ?_) (fun c24 => ?_)
      · refine pw_aload_n d311_30 rfl ?_
        refine pw_getR d311_31 g311_56 hT hA0 rfl rfl (fun t31 => ?_)
        have t31 : τ (ρ a0 24) = some 53 := t31
        refine pw_iload_n d311_34 rfl ?_
        refine pw_iald d311_35 hT t31 rfl rfl (by omega) (by omega) (fun u35 vu35 => ?_)
        refine pw_iconst d311_36 ?_
        refine pw_aload_n d311_37 rfl ?_
        refine pw_callV0 d311_38 k311_216 hT hA0 rfl rfl rfl (ct216 (τ := τ) (ρ := ρ) hT hA0) (fun r38 h38 q38 => ?_)
        obtain ⟨eh38, z38, ez38, lz38, uz38, pz38_0⟩ := q38
        subst eh38
        subst ez38
        refine pw_imul d311_41 ?_
        refine pw_icmp_eq d311_42 rfl (by omega) (by omega) (fun c42 => ?_) (fun c42 => ?_)
        · refine pw_aload_n d311_50 rfl ?_
          refine pw_iload_n d311_51 rfl ?_
          refine pw_callV1 d311_52 k311_488 hT hA0 rfl rfl rfl (ct312 (τ := τ) (ρ := ρ) hT hA0 (by omega)) (fun r52 h52 q52 => ?_)
          obtain ⟨eh52, z52, ez52, lz52, uz52⟩ := q52
          subst eh52
          subst ez52
          exact pw_ireturn d311_55 tt311 ⟨rfl, z52, rfl, (by omega), (by omega)⟩
        · refine pw_bipush d311_45 (by decide) ?_
          refine pw_goto d311_47 rfl ?_
          exact pw_ireturn d311_55 tt311 ⟨rfl, (-7), rfl, (by omega), (by omega)⟩
      · refine pw_bipush d311_27 (by decide) ?_
        exact pw_ireturn d311_29 tt311 ⟨rfl, (-6), rfl, (by omega), (by omega)⟩
    · refine pw_bipush d311_14 (by decide) ?_
      exact pw_ireturn d311_16 tt311 ⟨rfl, (-2), rfl, (by omega), (by omega)⟩

abbrev Q315 (τ : Nat → Option Nat) (ρ : Nat → Nat → Nat) (h : pv_H) (a0 : Nat) : Option Value → pv_H → Prop := fun r h' => h = h' ∧ ∃ z : Int, r = some (.int (pv_I z)) ∧ 0 ≤ z ∧ z ≤ 1023
set_option maxHeartbeats 4000000 in
set_option maxRecDepth 20000 in
/-- AngleNetModel.placed()I -/
theorem ct315 {τ : Nat → Option Nat} {ρ : Nat → Nat → Nat} {K : Nat → Nat} {h : pv_H} {a0 : Nat} (hT : pv_Ty τ ρ h) (hA0 : τ a0 = some 7) : pv_C K 315 [.ref a0] h (Q315 τ ρ h a0) := by
  refine pw_entry 2 ?_
  show pv_T K 315 0 (pv_fl [some (.ref a0), none, none]) [] h (Q315 τ ρ h a0)
  have L4 : ∀ (nn : Nat) (xL1_4 xL2_4 : Int), (0 ≤ xL1_4 ∧ xL1_4 ≤ 1023) → (0 ≤ xL2_4 ∧ xL2_4 ≤ 10) → 10 - xL2_4 < nn → pv_T K 315 4 (pv_fl [some (.ref a0), some (.int (pv_I xL1_4)), some (.int (pv_I xL2_4))]) [] h (Q315 τ ρ h a0) := by
    intro nn
    induction nn with
    | zero => intro xL1_4 xL2_4 rL1_4 rL2_4 hm; exfalso; omega
    | succ nn ih4 =>
      intro xL1_4 xL2_4 rL1_4 rL2_4 hm4
      have J30 : ∀ (xS0_30 : Int) (o1_30 : Option Value), (0 ≤ xL2_4 ∧ xL2_4 ≤ 9) → (0 ≤ xS0_30 ∧ xS0_30 ≤ 540) → (0 ≤ xL1_4 ∧ xL1_4 ≤ 1023) → pv_T K 315 30 (pv_fl [some (.ref a0), o1_30, some (.int (pv_I xL2_4))]) [.int (pv_I xS0_30), .int (pv_I xL1_4)] h (Q315 τ ρ h a0) := by
        intro xS0_30 o1_30 rL2_30 rS0_30 rS1_30
        refine pw_ior d315_30 (fun z30 hz30 ez30 => ?_)
        have bz30 := pv_or_b (n := 10) (m := 1024) (x := xL1_4) (y := xS0_30) (by omega) (by omega) (by omega) (by omega) (by decide) (by decide) hz30 ez30
        refine pw_istore_n d315_31 m315 rfl rfl ?_
        refine pw_iinc d315_32 m315 rfl rfl rfl ?_
        refine pw_goto d315_35 rfl ?_
        exact ih4 (z30) ((xL2_4 + 1)) (by omega) (by omega) (by omega)
      refine pw_iload_n d315_4 rfl ?_
      refine pw_aload_n d315_5 rfl ?_
      refine pw_getR d315_6 g315_9 hT hA0 rfl rfl (fun t6 => ?_)
      have t6 : τ (ρ a0 1) = some 40 := t6
      refine pw_iconst d315_9 ?_
      refine pw_ialdB d315_10 hT t6 rfl rfl (by omega) (by omega) (fun u10 => ?_)
      have u10 : pv_wok ((0 : Int)) (pv_aI h (ρ a0 1) ((0 : Int)).toNat) := u10
      have vu10 := u10.2.1 (by omega)
      refine pw_icmp_ge d315_11 rfl (by omega) (by omega) (fun c11 => ?_) (fun c11 => ?_)
      · refine pw_iload_n d315_38 rfl ?_
        exact pw_ireturn d315_39 tt315 ⟨rfl, xL1_4, rfl, (by omega), (by omega)⟩
      · refine pw_iload_n d315_14 rfl ?_
        refine pw_aload_n d315_15 rfl ?_
        refine pw_iload_n d315_16 rfl ?_
        refine pw_callV1 d315_17 k315_334 hT hA0 rfl rfl rfl (ct261 (τ := τ) (ρ := ρ) hT hA0 (by omega)) (fun r17 h17 q17 => ?_)
        obtain ⟨eh17, z17, ez17, lz17, uz17, pz17_0⟩ := q17
        subst eh17
        subst ez17
        refine pw_if_eq d315_20 rfl (by omega) (fun c20 => ?_) (fun c20 => ?_)
        · refine pw_iconst d315_29 ?_
          exact J30 (0) _ (by omega) (by omega) (by omega)
        · refine pw_iconst d315_23 ?_
          refine pw_iload_n d315_24 rfl ?_
          refine pw_ishl d315_25 (fun z25 hz25 ez25 => ?_)
          have bz25 := pv_shl1_b (n := 9) (m := 512) (y := xL2_4) (by omega) (by omega) (by decide) (by decide) hz25 ez25
          refine pw_goto d315_26 rfl ?_
          exact J30 (z25) _ (by omega) (by omega) (by omega)
  refine pw_iconst d315_0 ?_
  refine pw_istore_n d315_1 m315 rfl rfl ?_
  refine pw_iconst d315_2 ?_
  refine pw_istore_n d315_3 m315 rfl rfl ?_
  exact L4 _ (0) (0) (by omega) (by omega) (pv_mu _)

abbrev Q314 (τ : Nat → Option Nat) (ρ : Nat → Nat → Nat) (h : pv_H) (a0 : Nat) (x1 : Int) : Option Value → pv_H → Prop := fun r h' => h = h' ∧ ∃ z : Int, r = some (.int (pv_I z)) ∧ (-2147483648) ≤ z ∧ z ≤ 2147483647
set_option maxHeartbeats 4000000 in
set_option maxRecDepth 20000 in
/-- AngleNetModel.count(I)I -/
theorem ct314 {τ : Nat → Option Nat} {ρ : Nat → Nat → Nat} {K : Nat → Nat} {h : pv_H} {a0 : Nat} {x1 : Int} (hT : pv_Ty τ ρ h) (hA0 : τ a0 = some 7) (hX1 : (-2147483648) ≤ x1 ∧ x1 ≤ 2147483647) : pv_C K 314 [.ref a0, .int (pv_I x1)] h (Q314 τ ρ h a0 x1) := by
  refine pw_entry 2 ?_
  show pv_T K 314 0 (pv_fl [some (.ref a0), some (.int (pv_I x1)), none, none]) [] h (Q314 τ ρ h a0 x1)
  have L126 : ∀ (nn : Nat) (xL2_126 xL3_126 : Int) (o1_126 : Option Value), ((-2147483648) ≤ xL2_126 ∧ xL2_126 ≤ 2147483647) → (0 ≤ xL3_126 ∧ xL3_126 ≤ 4) → 4 - xL3_126 < nn → pv_T K 314 126 (pv_fl [some (.ref a0), o1_126, some (.int (pv_I xL2_126)), some (.int (pv_I xL3_126))]) [] h (Q314 τ ρ h a0 x1) := by
    intro nn
    induction nn with
    | zero => intro xL2_126 xL3_126 o1_126 rL2_126 rL3_126 hm; exfalso; omega
    | succ nn ih126 =>
      intro xL2_126 xL3_126 o1_126 rL2_126 rL3_126 hm126
      have J147 : ∀ (xS0_147 : Int) (o1_147 o2_147 : Option Value), (0 ≤ xL3_126 ∧ xL3_126 ≤ 3) → (0 ≤ xS0_147 ∧ xS0_147 ≤ 1) → ((-2147483648) ≤ xL2_126 ∧ xL2_126 ≤ 2147483647) → pv_T K 314 147 (pv_fl [some (.ref a0), o1_147, o2_147, some (.int (pv_I xL3_126))]) [.int (pv_I xS0_147), .int (pv_I xL2_126)] h (Q314 τ ρ h a0 x1) := by
        intro xS0_147 o1_147 o2_147 rL3_147 rS0_147 rS1_147
        refine pw_iadd d314_147 ?_
        refine pw_any (fun z148 hz148 ez148 => ?_)
        refine pw_istore_n d314_148 m314 rfl rfl ?_
        refine pw_iinc d314_149 m314 rfl rfl rfl ?_
        refine pw_goto d314_152 rfl ?_
        exact ih126 (z148) ((xL3_126 + 1)) _ (by omega) (by omega) (by omega)
      refine pw_iload_n d314_126 rfl ?_
      refine pw_iconst d314_127 ?_
      refine pw_icmp_ge d314_128 rfl (by omega) (by omega) (fun c128 => ?_) (fun c128 => ?_)
      · refine pw_iload_n d314_155 rfl ?_
        exact pw_ireturn d314_156 tt314 ⟨rfl, xL2_126, rfl, (by omega), (by omega)⟩
      · refine pw_iload_n d314_131 rfl ?_
        refine pw_aload_n d314_132 rfl ?_
        refine pw_getR d314_133 g314_56 hT hA0 rfl rfl (fun t133 => ?_)
        have t133 : τ (ρ a0 24) = some 53 := t133
        refine pw_iload_n d314_136 rfl ?_
        refine pw_iald d314_137 hT t133 rfl rfl (by omega) (by omega) (fun u137 vu137 => ?_)
        refine pw_iconst d314_138 ?_
        refine pw_icmp_ne d314_139 rfl (by omega) (by omega) (fun c139 => ?_) (fun c139 => ?_)
        · refine pw_iconst d314_146 ?_
          exact J147 (1) _ _ (by omega) (by omega) (by omega)
        · refine pw_iconst d314_142 ?_
          refine pw_goto d314_143 rfl ?_
          exact J147 (0) _ _ (by omega) (by omega) (by omega)
  refine pw_iconst d314_0 ?_
  refine pw_istore_n d314_1 m314 rfl rfl ?_
  refine pw_iload_n d314_2 rfl ?_
  by_cases c3 : x1 < 0 ∨ 10 < x1
  · refine pw_tabOut d314_3 (by omega) c3 rfl ?_
    refine pw_iconst d314_157 ?_
    exact pw_ireturn d314_158 tt314 ⟨rfl, (-1), rfl, (by omega), (by omega)⟩
  by_cases c3_0 : x1 = 0
  · refine pw_tabIn (x := x1) d314_3 (by omega) c3 (by rw [c3_0]; rfl) rfl ?_
    refine pw_aload_n d314_60 rfl ?_
    refine pw_getR d314_61 g314_9 hT hA0 rfl rfl (fun t61 => ?_)
    have t61 : τ (ρ a0 1) = some 40 := t61
    refine pw_iconst d314_64 ?_
    refine pw_ialdB d314_65 hT t61 rfl rfl (by omega) (by omega) (fun u65 => ?_)
    have u65 : pv_wok ((0 : Int)) (pv_aI h (ρ a0 1) ((0 : Int)).toNat) := u65
    have vu65 := u65.2.1 (by omega)
    exact pw_ireturn d314_66 tt314 ⟨rfl, (pv_aI h (ρ a0 1) ((0 : Int)).toNat), rfl, (by omega), (by omega)⟩
  by_cases c3_1 : x1 = 1
  · refine pw_tabIn (x := x1) d314_3 (by omega) c3 (by rw [c3_1]; rfl) rfl ?_
    refine pw_aload_n d314_67 rfl ?_
    refine pw_callV0 d314_68 k314_216 hT hA0 rfl rfl rfl (ct216 (τ := τ) (ρ := ρ) hT hA0) (fun r68 h68 q68 => ?_)
    obtain ⟨eh68, z68, ez68, lz68, uz68, pz68_0⟩ := q68
    subst eh68
    subst ez68
    exact pw_ireturn d314_71 tt314 ⟨rfl, z68, rfl, (by omega), (by omega)⟩
  by_cases c3_2 : x1 = 2
  · refine pw_tabIn (x := x1) d314_3 (by omega) c3 (by rw [c3_2]; rfl) rfl ?_
    refine pw_aload_n d314_72 rfl ?_
    refine pw_callV0 d314_73 k314_265 hT hA0 rfl rfl rfl (ct228 (τ := τ) (ρ := ρ) hT hA0) (fun r73 h73 q73 => ?_)
    obtain ⟨eh73, z73, ez73, lz73, uz73⟩ := q73
    subst eh73
    subst ez73
    exact pw_ireturn d314_76 tt314 ⟨rfl, z73, rfl, (by omega), (by omega)⟩
  by_cases c3_3 : x1 = 3
  · refine pw_tabIn (x := x1) d314_3 (by omega) c3 (by rw [c3_3]; rfl) rfl ?_
    refine pw_aload_n d314_77 rfl ?_
    refine pw_getR d314_78 g314_9 hT hA0 rfl rfl (fun t78 => ?_)
    have t78 : τ (ρ a0 1) = some 40 := t78
    refine pw_iconst d314_81 ?_
    refine pw_ialdB d314_82 hT t78 rfl rfl (by omega) (by omega) (fun u82 => ?_)
    have u82 : pv_wok ((2 : Int)) (pv_aI h (ρ a0 1) ((2 : Int)).toNat) := u82
    have vu82 := u82.1
    exact pw_ireturn d314_83 tt314 ⟨rfl, (pv_aI h (ρ a0 1) ((2 : Int)).toNat), rfl, (by omega), (by omega)⟩
  by_cases c3_4 : x1 = 4
  · refine pw_tabIn (x := x1) d314_3 (by omega) c3 (by rw [c3_4]; rfl) rfl ?_
    refine pw_aload_n d314_84 rfl ?_
    refine pw_getI d314_85 g314_81 hT hA0 rfl rfl (fun u85 vu85 => ?_)
    exact pw_ireturn d314_88 tt314 ⟨rfl, (pv_fI h a0 5), rfl, (by omega), (by omega)⟩
  by_cases c3_5 : x1 = 5
  · refine pw_tabIn (x := x1) d314_3 (by omega) c3 (by rw [c3_5]; rfl) rfl ?_
    refine pw_aload_n d314_89 rfl ?_
    refine pw_getR d314_90 g314_9 hT hA0 rfl rfl (fun t90 => ?_)
    have t90 : τ (ρ a0 1) = some 40 := t90
    refine pw_bipush d314_93 (by decide) ?_
    refine pw_ialdB d314_95 hT t90 rfl rfl (by omega) (by omega) (fun u95 => ?_)
    have u95 : pv_wok ((6 : Int)) (pv_aI h (ρ a0 1) ((6 : Int)).toNat) := u95
    have vu95 := u95.2.2.2.2.2.2.1 (by omega)
    exact pw_ireturn d314_96 tt314 ⟨rfl, (pv_aI h (ρ a0 1) ((6 : Int)).toNat), rfl, (by omega), (by omega)⟩
  by_cases c3_6 : x1 = 6
  · refine pw_tabIn (x := x1) d314_3 (by omega) c3 (by rw [c3_6]; rfl) rfl ?_
    refine pw_aload_n d314_97 rfl ?_
    refine pw_getR d314_98 g314_9 hT hA0 rfl rfl (fun t98 => ?_)
    have t98 : τ (ρ a0 1) = some 40 := t98
    refine pw_bipush d314_101 (by decide) ?_
    refine pw_ialdB d314_103 hT t98 rfl rfl (by omega) (by omega) (fun u103 => ?_)
    have u103 : pv_wok ((7 : Int)) (pv_aI h (ρ a0 1) ((7 : Int)).toNat) := u103
    have vu103 := u103.2.2.2.2.2.2.2.1 (by omega)
    exact pw_ireturn d314_104 tt314 ⟨rfl, (pv_aI h (ρ a0 1) ((7 : Int)).toNat), rfl, (by omega), (by omega)⟩
  by_cases c3_7 : x1 = 7
  · refine pw_tabIn (x := x1) d314_3 (by omega) c3 (by rw [c3_7]; rfl) rfl ?_
    refine pw_aload_n d314_105 rfl ?_
    refine pw_getR d314_106 g314_9 hT hA0 rfl rfl (fun t106 => ?_)
    have t106 : τ (ρ a0 1) = some 40 := t106
    refine pw_iconst d314_109 ?_
    refine pw_ialdB d314_110 hT t106 rfl rfl (by omega) (by omega) (fun u110 => ?_)
    have u110 : pv_wok ((3 : Int)) (pv_aI h (ρ a0 1) ((3 : Int)).toNat) := u110
    have vu110 := u110.2.2.2.1 (by omega)
    exact pw_ireturn d314_111 tt314 ⟨rfl, (pv_aI h (ρ a0 1) ((3 : Int)).toNat), rfl, (by omega), (by omega)⟩
  by_cases c3_8 : x1 = 8
  · refine pw_tabIn (x := x1) d314_3 (by omega) c3 (by rw [c3_8]; rfl) rfl ?_
    refine pw_aload_n d314_112 rfl ?_
    refine pw_getR d314_113 g314_9 hT hA0 rfl rfl (fun t113 => ?_)
    have t113 : τ (ρ a0 1) = some 40 := t113
    refine pw_iconst d314_116 ?_
    refine pw_ialdB d314_117 hT t113 rfl rfl (by omega) (by omega) (fun u117 => ?_)
    have u117 : pv_wok ((4 : Int)) (pv_aI h (ρ a0 1) ((4 : Int)).toNat) := u117
    have vu117 := u117.2.2.2.2.1 (by omega)
    exact pw_ireturn d314_118 tt314 ⟨rfl, (pv_aI h (ρ a0 1) ((4 : Int)).toNat), rfl, (by omega), (by omega)⟩
  by_cases c3_9 : x1 = 9
  · refine pw_tabIn (x := x1) d314_3 (by omega) c3 (by rw [c3_9]; rfl) rfl ?_
    refine pw_aload_n d314_119 rfl ?_
    refine pw_callV0 d314_120 k314_491 hT hA0 rfl rfl rfl (ct315 (τ := τ) (ρ := ρ) hT hA0) (fun r120 h120 q120 => ?_)
    obtain ⟨eh120, z120, ez120, lz120, uz120⟩ := q120
    subst eh120
    subst ez120
    exact pw_ireturn d314_123 tt314 ⟨rfl, z120, rfl, (by omega), (by omega)⟩
  by_cases c3_10 : x1 = 10
  · refine pw_tabIn (x := x1) d314_3 (by omega) c3 (by rw [c3_10]; rfl) rfl ?_
    refine pw_iconst d314_124 ?_
    refine pw_istore_n d314_125 m314 rfl rfl ?_
    exact L126 _ (0) (0) _ (by omega) (by omega) (pv_mu _)
  exfalso; omega

abbrev Q318 (τ : Nat → Option Nat) (ρ : Nat → Nat → Nat) (h : pv_H) (x0 : Int) (x1 : Int) : Option Value → pv_H → Prop := fun r h' => h = h' ∧ ∃ z : Int, r = some (.long (pv_J z)) ∧ (-9223372036854775808) ≤ z ∧ z ≤ 9223372036854775807
set_option maxHeartbeats 4000000 in
set_option maxRecDepth 20000 in
/-- AngleNetModel.cut(JI)J -/
theorem ct318 {τ : Nat → Option Nat} {ρ : Nat → Nat → Nat} {K : Nat → Nat} {h : pv_H} {x0 : Int} {x1 : Int} (hX0 : (-9223372036854775808) ≤ x0 ∧ x0 ≤ 9223372036854775807) (hX1 : 0 ≤ x1 ∧ x1 ≤ 3) : pv_C K 318 [.long (pv_J x0), .int (pv_I x1)] h (Q318 τ ρ h x0 x1) := by
  refine pw_entry 1 ?_
  show pv_T K 318 0 (pv_fl [some (.long (pv_J x0)), none, some (.int (pv_I x1)), none]) [] h (Q318 τ ρ h x0 x1)
  refine pw_bipush d318_0 (by decide) ?_
  refine pw_bipush d318_2 (by decide) ?_
  refine pw_iload_n d318_4 rfl ?_
  refine pw_ishl d318_5 (fun z5 hz5 ez5 => ?_)
  refine pw_isub d318_6 ?_
  refine pw_any (fun z7 hz7 ez7 => ?_)
  refine pw_istore_n d318_7 m318 rfl rfl ?_
  refine pw_lload_n d318_8 rfl ?_
  refine pw_iload_n d318_9 rfl ?_
  refine pw_lshl d318_10 (fun z10 hz10 ez10 => ?_)
  refine pw_iload_n d318_11 rfl ?_
  refine pw_lshr d318_12 (fun z12 hz12 ez12 => ?_)
  exact pw_lreturn d318_13 tt318 ⟨rfl, z12, rfl, (by omega), (by omega)⟩

abbrev Q316 (τ : Nat → Option Nat) (ρ : Nat → Nat → Nat) (h : pv_H) (a0 : Nat) (x1 : Int) (x2 : Int) (x3 : Int) : Option Value → pv_H → Prop := fun r h' => pv_Ty τ ρ h' ∧ pv_Fr τ [3455, 3519, 3583] h h' ∧ ∃ z : Int, r = some (.int (pv_I z)) ∧ (-3) ≤ z ∧ z ≤ 0 ∧ (z = if 0 ≤ x1 ∧ x1 ≤ 3 ∧ 0 ≤ x2 ∧ x2 ≤ 3 ∧ x3 ≤ 60 then (if x3 < 0 then -3 else 0) else -2)
set_option maxHeartbeats 4000000 in
set_option maxRecDepth 20000 in
/-- AngleNetModel.row(III)I -/
theorem ct316 {τ : Nat → Option Nat} {ρ : Nat → Nat → Nat} {K : Nat → Nat} {h : pv_H} {a0 : Nat} {x1 : Int} {x2 : Int} {x3 : Int} (hT : pv_Ty τ ρ h) (hA0 : τ a0 = some 7) (hX1 : (-2147483648) ≤ x1 ∧ x1 ≤ 2147483647) (hX2 : (-2147483648) ≤ x2 ∧ x2 ≤ 2147483647) (hX3 : (-2147483648) ≤ x3 ∧ x3 ≤ 2147483647) : pv_C K 316 [.ref a0, .int (pv_I x1), .int (pv_I x2), .int (pv_I x3)] h (Q316 τ ρ h a0 x1 x2 x3) := by
  refine pw_entry 1 ?_
  show pv_T K 316 0 (pv_fl [some (.ref a0), some (.int (pv_I x1)), some (.int (pv_I x2)), some (.int (pv_I x3)), none]) [] h (Q316 τ ρ h a0 x1 x2 x3)
  have hF0 : pv_Fr τ [3455, 3519, 3583] h h := pv_Fr.rf
  have L52 : ∀ (nn : Nat) (h_52 : pv_H) (xL4_52 : Int) (o2_52 o3_52 : Option Value), (pv_Ty τ ρ h_52) → (pv_Fr τ [3455, 3519, 3583] h h_52) → (0 ≤ x1 ∧ x1 ≤ 3) → (0 ≤ xL4_52 ∧ xL4_52 ≤ 60) → (0 ≤ x1 ∧ x1 ≤ 3 ∧ 0 ≤ x2 ∧ x2 ≤ 3 ∧ 0 ≤ x3 ∧ x3 ≤ 60) → 60 - xL4_52 < nn → pv_T K 316 52 (pv_fl [some (.ref a0), some (.int (pv_I x1)), o2_52, o3_52, some (.int (pv_I xL4_52))]) [] h_52 (Q316 τ ρ h a0 x1 x2 x3) := by
    intro nn
    induction nn with
    | zero => intro h_52 xL4_52 o2_52 o3_52 hT_52 hF_52 rL1_52 rL4_52 i0_52 hm; exfalso; omega
    | succ nn ih52 =>
      intro h_52 xL4_52 o2_52 o3_52 hT_52 hF_52 rL1_52 rL4_52 i0_52 hm52
      refine pw_iload d316_52 rfl ?_
      refine pw_bipush d316_54 (by decide) ?_
      refine pw_icmp_ge d316_56 rfl (by omega) (by omega) (fun c56 => ?_) (fun c56 => ?_)
      · refine pw_iconst d316_78 ?_
        exact pw_ireturn d316_79 tt316 ⟨hT_52, hF_52, 0, rfl, (by omega), (by omega), (by omega)⟩
      · refine pw_aload_n d316_59 rfl ?_
        refine pw_getR d316_60 g316_62 hT_52 hA0 rfl rfl (fun t60 => ?_)
        have t60 : τ (ρ a0 26) = some 55 := t60
        refine pw_bipush d316_63 (by decide) ?_
        refine pw_iload_n d316_65 rfl ?_
        refine pw_imul d316_66 ?_
        refine pw_iload d316_67 rfl ?_
        refine pw_iadd d316_69 ?_
        refine pw_lconst (z := 0) d316_70 (by decide) ?_
        refine pw_last d316_71 hT_52 t60 rfl rfl rfl (by omega) (by omega) (by omega) (fun h71 T71 F71 E71 => ?_)
        have f71 := hF_52.tr (F71.up (by decide))
        refine pw_iinc d316_72 m316 rfl rfl rfl ?_
        refine pw_goto d316_75 rfl ?_
        exact ih52 h71 ((xL4_52 + 1)) _ _ T71 f71 (by omega) (by omega) (by omega) (by omega)
  refine pw_iload_n d316_0 rfl ?_
  refine pw_callS1 d316_1 k316_478 rfl rfl (ct310 (τ := τ) (ρ := ρ) (by omega)) (fun r1 h1 q1 => ?_)
  obtain ⟨eh1, z1, ez1, lz1, uz1, pz1_0⟩ := q1
  subst eh1
  subst ez1
  refine pw_if_eq d316_4 rfl (by omega) (fun c4 => ?_) (fun c4 => ?_)
  · refine pw_bipush d316_25 (by decide) ?_
    exact pw_ireturn d316_27 tt316 ⟨hT, hF0, (-2), rfl, (by omega), (by omega), (by omega)⟩
  · refine pw_iload_n d316_7 rfl ?_
    refine pw_i2l d316_8 (by omega) ?_
    refine pw_lconst (z := 0) d316_9 (by decide) ?_
    refine pw_ldc2 (v := pv_J 3) d316_10 n316_10 ?_
    refine pw_callS3 d316_13 k316_73 rfl rfl (ct184 (τ := τ) (ρ := ρ) (by omega) (by omega) (by omega)) (fun r13 h13 q13 => ?_)
    obtain ⟨eh13, z13, ez13, lz13, uz13, pz13_0⟩ := q13
    subst eh13
    subst ez13
    refine pw_if_eq d316_16 rfl (by omega) (fun c16 => ?_) (fun c16 => ?_)
    · refine pw_bipush d316_25 (by decide) ?_
      exact pw_ireturn d316_27 tt316 ⟨hT, hF0, (-2), rfl, (by omega), (by omega), (by omega)⟩
    · refine pw_iload_n d316_19 rfl ?_
      refine pw_bipush d316_20 (by decide) ?_
      refine pw_icmp_le d316_22 rfl (by omega) (by omega) (fun c22 => ?_) (fun c22 => ?_)
      · refine pw_iload_n d316_28 rfl ?_
        refine pw_if_ge d316_29 rfl (by omega) (fun c29 => ?_) (fun c29 => ?_)
        · refine pw_aload_n d316_35 rfl ?_
          refine pw_getR d316_36 g316_56 hT hA0 rfl rfl (fun t36 => ?_)
          have t36 : τ (ρ a0 24) = some 53 := t36
          refine pw_iload_n d316_39 rfl ?_
          refine pw_iload_n d316_40 rfl ?_
          refine pw_iast d316_41 hT t36 rfl rfl rfl (by omega) (by omega) (by omega) (by omega) (fun h41 T41 F41 E41 => ?_)
          have f41 := hF0.tr (F41.up (by decide))
          refine pw_aload_n d316_42 rfl ?_
          refine pw_getR d316_43 g316_59 T41 hA0 rfl rfl (fun t43 => ?_)
          have t43 : τ (ρ a0 25) = some 54 := t43
          refine pw_iload_n d316_46 rfl ?_
          refine pw_iload_n d316_47 rfl ?_
          refine pw_iast d316_48 T41 t43 rfl rfl rfl (by omega) (by omega) (by omega) (by omega) (fun h48 T48 F48 E48 => ?_)
          have f48 := f41.tr (F48.up (by decide))
          refine pw_iconst d316_49 ?_
          refine pw_istore d316_50 m316 rfl rfl ?_
          exact L52 _ h48 (0) _ _ T48 f48 (by omega) (by omega) (by omega) (pv_mu _)
        · refine pw_bipush d316_32 (by decide) ?_
          exact pw_ireturn d316_34 tt316 ⟨hT, hF0, (-3), rfl, (by omega), (by omega), (by omega)⟩
      · refine pw_bipush d316_25 (by decide) ?_
        exact pw_ireturn d316_27 tt316 ⟨hT, hF0, (-2), rfl, (by omega), (by omega), (by omega)⟩

abbrev Q317 (τ : Nat → Option Nat) (ρ : Nat → Nat → Nat) (h : pv_H) (a0 : Nat) (x1 : Int) (x2 : Int) (x3 : Int) : Option Value → pv_H → Prop := fun r h' => pv_Ty τ ρ h' ∧ pv_Fr τ [3583] h h' ∧ ∃ z : Int, r = some (.int (pv_I z)) ∧ (-7) ≤ z ∧ z ≤ 0
set_option maxHeartbeats 4000000 in
set_option maxRecDepth 20000 in
/-- AngleNetModel.write(IIJ)I -/
theorem ct317 {τ : Nat → Option Nat} {ρ : Nat → Nat → Nat} {K : Nat → Nat} {h : pv_H} {a0 : Nat} {x1 : Int} {x2 : Int} {x3 : Int} (hT : pv_Ty τ ρ h) (hA0 : τ a0 = some 7) (hX1 : (-2147483648) ≤ x1 ∧ x1 ≤ 2147483647) (hX2 : (-2147483648) ≤ x2 ∧ x2 ≤ 2147483647) (hX3 : (-9223372036854775808) ≤ x3 ∧ x3 ≤ 9223372036854775807) : pv_C K 317 [.ref a0, .int (pv_I x1), .int (pv_I x2), .long (pv_J x3)] h (Q317 τ ρ h a0 x1 x2 x3) := by
  refine pw_entry 0 ?_
  show pv_T K 317 0 (pv_fl [some (.ref a0), some (.int (pv_I x1)), some (.int (pv_I x2)), some (.long (pv_J x3)), none]) [] h (Q317 τ ρ h a0 x1 x2 x3)
  have hF0 : pv_Fr τ [3583] h h := pv_Fr.rf
  refine pw_iload_n d317_0 rfl ?_
  refine pw_callS1 d317_1 k317_478 rfl rfl (ct310 (τ := τ) (ρ := ρ) (by omega)) (fun r1 h1 q1 => ?_)
  obtain ⟨eh1, z1, ez1, lz1, uz1, pz1_0⟩ := q1
  subst eh1
  subst ez1
  refine pw_if_ne d317_4 rfl (by omega) (fun c4 => ?_) (fun c4 => ?_)
  · refine pw_aload_n d317_10 rfl ?_
    refine pw_getR d317_11 g317_56 hT hA0 rfl rfl (fun t11 => ?_)
    have t11 : τ (ρ a0 24) = some 53 := t11
    refine pw_iload_n d317_14 rfl ?_
    refine pw_iald d317_15 hT t11 rfl rfl (by omega) (by omega) (fun u15 vu15 => ?_)
    refine pw_iconst d317_16 ?_
    refine pw_icmp_ne d317_17 rfl (by omega) (by omega) (fun c17 => ?_) (fun c17 => ?_)
    · refine pw_iload_n d317_23 rfl ?_
      refine pw_i2l d317_24 (by omega) ?_
      refine pw_lconst (z := 0) d317_25 (by decide) ?_
      refine pw_aload_n d317_26 rfl ?_
      refine pw_getR d317_27 g317_56 hT hA0 rfl rfl (fun t27 => ?_)
      have t27 : τ (ρ a0 24) = some 53 := t27
      refine pw_iload_n d317_30 rfl ?_
      refine pw_iald d317_31 hT t27 rfl rfl (by omega) (by omega) (fun u31 vu31 => ?_)
      refine pw_iconst d317_32 ?_
      refine pw_isub d317_33 ?_
      refine pw_i2l d317_34 (by omega) ?_
      refine pw_callS3 d317_35 k317_73 rfl rfl (ct184 (τ := τ) (ρ := ρ) (by omega) (by omega) (by omega)) (fun r35 h35 q35 => ?_)
      obtain ⟨eh35, z35, ez35, lz35, uz35, pz35_0⟩ := q35
      subst eh35
      subst ez35
      refine pw_if_ne d317_38 rfl (by omega) (fun c38 => ?_) (fun c38 => ?_)
      · refine pw_aload_n d317_44 rfl ?_
        refine pw_getR d317_45 g317_62 hT hA0 rfl rfl (fun t45 => ?_)
        have t45 : τ (ρ a0 26) = some 55 := t45
        refine pw_bipush d317_48 (by decide) ?_
        refine pw_iload_n d317_50 rfl ?_
        refine pw_imul d317_51 ?_
        refine pw_iload_n d317_52 rfl ?_
        refine pw_iadd d317_53 ?_
        refine pw_lload_n d317_54 rfl ?_
        refine pw_aload_n d317_55 rfl ?_
        refine pw_getR d317_56 g317_59 hT hA0 rfl rfl (fun t56 => ?_)
        have t56 : τ (ρ a0 25) = some 54 := t56
        refine pw_iload_n d317_59 rfl ?_
        refine pw_iald d317_60 hT t56 rfl rfl (by omega) (by omega) (fun u60 vu60 => ?_)
        refine pw_callS2 d317_61 k317_494 rfl rfl (ct318 (τ := τ) (ρ := ρ) (by omega) (by omega)) (fun r61 h61 q61 => ?_)
        obtain ⟨eh61, z61, ez61, lz61, uz61⟩ := q61
        subst eh61
        subst ez61
        refine pw_last d317_64 hT t45 rfl rfl rfl (by omega) (by omega) (by omega) (fun h64 T64 F64 E64 => ?_)
        have f64 := hF0.tr (F64.up (by decide))
        refine pw_iconst d317_65 ?_
        exact pw_ireturn d317_66 tt317 ⟨T64, f64, 0, rfl, (by omega), (by omega)⟩
      · refine pw_bipush d317_41 (by decide) ?_
        exact pw_ireturn d317_43 tt317 ⟨hT, hF0, (-7), rfl, (by omega), (by omega)⟩
    · refine pw_bipush d317_20 (by decide) ?_
      exact pw_ireturn d317_22 tt317 ⟨hT, hF0, (-6), rfl, (by omega), (by omega)⟩
  · refine pw_bipush d317_7 (by decide) ?_
    exact pw_ireturn d317_9 tt317 ⟨hT, hF0, (-2), rfl, (by omega), (by omega)⟩

abbrev Q319 (τ : Nat → Option Nat) (ρ : Nat → Nat → Nat) (h : pv_H) (a0 : Nat) (x1 : Int) (x2 : Int) (x3 : Int) (x4 : Int) (x5 : Int) : Option Value → pv_H → Prop := fun r h' => pv_Ty τ ρ h' ∧ pv_Fr τ [3583, 3647] h h' ∧ ∃ z : Int, r = some (.int (pv_I z)) ∧ (-8) ≤ z ∧ z ≤ 0
set_option maxHeartbeats 4000000 in
set_option maxRecDepth 20000 in
/-- AngleNetModel.paste(IIIII)I -/
theorem ct319 {τ : Nat → Option Nat} {ρ : Nat → Nat → Nat} {K : Nat → Nat} {h : pv_H} {a0 : Nat} {x1 : Int} {x2 : Int} {x3 : Int} {x4 : Int} {x5 : Int} (hT : pv_Ty τ ρ h) (hA0 : τ a0 = some 7) (hX1 : (-2147483648) ≤ x1 ∧ x1 ≤ 2147483647) (hX2 : (-2147483648) ≤ x2 ∧ x2 ≤ 2147483647) (hX3 : (-2147483648) ≤ x3 ∧ x3 ≤ 2147483647) (hX4 : (-2147483648) ≤ x4 ∧ x4 ≤ 2147483647) (hX5 : (-2147483648) ≤ x5 ∧ x5 ≤ 2147483647) : pv_C K 319 [.ref a0, .int (pv_I x1), .int (pv_I x2), .int (pv_I x3), .int (pv_I x4), .int (pv_I x5)] h (Q319 τ ρ h a0 x1 x2 x3 x4 x5) := by
  refine pw_entry 1 ?_
  show pv_T K 319 0 (pv_fl [some (.ref a0), some (.int (pv_I x1)), some (.int (pv_I x2)), some (.int (pv_I x3)), some (.int (pv_I x4)), some (.int (pv_I x5)), none]) [] h (Q319 τ ρ h a0 x1 x2 x3 x4 x5)
  have hF0 : pv_Fr τ [3583, 3647] h h := pv_Fr.rf
  have L150 : ∀ (nn : Nat) (h_150 : pv_H) (xL6_150 : Int) (o1_150 o2_150 : Option Value), (pv_Ty τ ρ h_150) → (pv_Fr τ [3583, 3647] h h_150) → (0 ≤ x3 ∧ x3 ≤ 3) → (0 ≤ x4 ∧ x4 ≤ 2147483647) → (0 ≤ x5 ∧ x5 ≤ 2147483647) → (0 ≤ xL6_150 ∧ xL6_150 ≤ 2147483647) → (0 ≤ x1 ∧ x1 ≤ 3 ∧ 0 ≤ x3 ∧ x3 ≤ 3 ∧ 0 ≤ x2 ∧ 0 ≤ x4 ∧ 0 ≤ x5 ∧ x2 + x5 ≤ 60 ∧ x4 + x5 ≤ 60) → 2147483647 - xL6_150 < nn → pv_T K 319 150 (pv_fl [some (.ref a0), o1_150, o2_150, some (.int (pv_I x3)), some (.int (pv_I x4)), some (.int (pv_I x5)), some (.int (pv_I xL6_150))]) [] h_150 (Q319 τ ρ h a0 x1 x2 x3 x4 x5) := by
    intro nn
    induction nn with
    | zero => intro h_150 xL6_150 o1_150 o2_150 hT_150 hF_150 rL3_150 rL4_150 rL5_150 rL6_150 i0_150 hm; exfalso; omega
    | succ nn ih150 =>
      intro h_150 xL6_150 o1_150 o2_150 hT_150 hF_150 rL3_150 rL4_150 rL5_150 rL6_150 i0_150 hm150
      refine pw_iload d319_150 rfl ?_
      refine pw_iload d319_152 rfl ?_
      refine pw_icmp_ge d319_154 rfl (by omega) (by omega) (fun c154 => ?_) (fun c154 => ?_)
      · refine pw_iconst d319_185 ?_
        exact pw_ireturn d319_186 tt319 ⟨hT_150, hF_150, 0, rfl, (by omega), (by omega)⟩
      · refine pw_aload_n d319_157 rfl ?_
        refine pw_getR d319_158 g319_62 hT_150 hA0 rfl rfl (fun t158 => ?_)
        have t158 : τ (ρ a0 26) = some 55 := t158
        refine pw_bipush d319_161 (by decide) ?_
        refine pw_iload_n d319_163 rfl ?_
        refine pw_imul d319_164 ?_
        refine pw_iload d319_165 rfl ?_
        refine pw_iadd d319_167 ?_
        refine pw_iload d319_168 rfl ?_
        refine pw_iadd d319_170 ?_
        refine pw_aload_n d319_171 rfl ?_
        refine pw_getR d319_172 g319_65 hT_150 hA0 rfl rfl (fun t172 => ?_)
        have t172 : τ (ρ a0 27) = some 56 := t172
        refine pw_iload d319_175 rfl ?_
        refine pw_lald d319_177 hT_150 t172 rfl rfl (by omega) (by omega) (fun u177 => ?_)
        refine pw_last d319_178 hT_150 t158 rfl rfl rfl (by omega) (by omega) (by omega) (fun h178 T178 F178 E178 => ?_)
        have f178 := hF_150.tr (F178.up (by decide))
        refine pw_iinc d319_179 m319 rfl rfl rfl ?_
        refine pw_goto d319_182 rfl ?_
        exact ih150 h178 ((xL6_150 + 1)) _ _ T178 f178 (by omega) (by omega) (by omega) (by omega) (by omega) (by omega)
  have L113 : ∀ (nn : Nat) (h_113 : pv_H) (xL6_113 : Int), (pv_Ty τ ρ h_113) → (pv_Fr τ [3583, 3647] h h_113) → (0 ≤ x1 ∧ x1 ≤ 3) → (0 ≤ x2 ∧ x2 ≤ 2147483647) → (0 ≤ x3 ∧ x3 ≤ 3) → (0 ≤ x4 ∧ x4 ≤ 2147483647) → (0 ≤ x5 ∧ x5 ≤ 2147483647) → (0 ≤ xL6_113 ∧ xL6_113 ≤ 2147483647) → (0 ≤ x1 ∧ x1 ≤ 3 ∧ 0 ≤ x3 ∧ x3 ≤ 3 ∧ 0 ≤ x2 ∧ 0 ≤ x4 ∧ 0 ≤ x5 ∧ x2 + x5 ≤ 60 ∧ x4 + x5 ≤ 60) → 2147483647 - xL6_113 < nn → pv_T K 319 113 (pv_fl [some (.ref a0), some (.int (pv_I x1)), some (.int (pv_I x2)), some (.int (pv_I x3)), some (.int (pv_I x4)), some (.int (pv_I x5)), some (.int (pv_I xL6_113))]) [] h_113 (Q319 τ ρ h a0 x1 x2 x3 x4 x5) := by
    intro nn
    induction nn with
    | zero => intro h_113 xL6_113 hT_113 hF_113 rL1_113 rL2_113 rL3_113 rL4_113 rL5_113 rL6_113 i0_113 hm; exfalso; omega
    | succ nn ih113 =>
      intro h_113 xL6_113 hT_113 hF_113 rL1_113 rL2_113 rL3_113 rL4_113 rL5_113 rL6_113 i0_113 hm113
      refine pw_iload d319_113 rfl ?_
      refine pw_iload d319_115 rfl ?_
      refine pw_icmp_ge d319_117 rfl (by omega) (by omega) (fun c117 => ?_) (fun c117 => ?_)
      · refine pw_iconst d319_147 ?_
        refine pw_istore d319_148 m319 rfl rfl ?_
        exact L150 _ h_113 (0) _ _ hT_113 hF_113 (by omega) (by omega) (by omega) (by omega) (by omega) (pv_mu _)
      · refine pw_aload_n d319_120 rfl ?_
        refine pw_getR d319_121 g319_65 hT_113 hA0 rfl rfl (fun t121 => ?_)
        have t121 : τ (ρ a0 27) = some 56 := t121
        refine pw_iload d319_124 rfl ?_
        refine pw_aload_n d319_126 rfl ?_
        refine pw_getR d319_127 g319_62 hT_113 hA0 rfl rfl (fun t127 => ?_)
        have t127 : τ (ρ a0 26) = some 55 := t127
        refine pw_bipush d319_130 (by decide) ?_
        refine pw_iload_n d319_132 rfl ?_
        refine pw_imul d319_133 ?_
        refine pw_iload_n d319_134 rfl ?_
        refine pw_iadd d319_135 ?_
        refine pw_iload d319_136 rfl ?_
        refine pw_iadd d319_138 ?_
        refine pw_lald d319_139 hT_113 t127 rfl rfl (by omega) (by omega) (fun u139 => ?_)
        refine pw_last d319_140 hT_113 t121 rfl rfl rfl (by omega) (by omega) (by omega) (fun h140 T140 F140 E140 => ?_)
        have f140 := hF_113.tr (F140.up (by decide))
        refine pw_iinc d319_141 m319 rfl rfl rfl ?_
        refine pw_goto d319_144 rfl ?_
        exact ih113 h140 ((xL6_113 + 1)) T140 f140 (by omega) (by omega) (by omega) (by omega) (by omega) (by omega) (by omega) (by omega)
  refine pw_iload_n d319_0 rfl ?_
  refine pw_callS1 d319_1 k319_478 rfl rfl (ct310 (τ := τ) (ρ := ρ) (by omega)) (fun r1 h1 q1 => ?_)
  obtain ⟨eh1, z1, ez1, lz1, uz1, pz1_0⟩ := q1
  subst eh1
  subst ez1
  refine pw_if_eq d319_4 rfl (by omega) (fun c4 => ?_) (fun c4 => ?_)
  · refine pw_bipush d319_14 (by decide) ?_
    exact pw_ireturn d319_16 tt319 ⟨hT, hF0, (-2), rfl, (by omega), (by omega)⟩
  · refine pw_iload_n d319_7 rfl ?_
    refine pw_callS1 d319_8 k319_478 rfl rfl (ct310 (τ := τ) (ρ := ρ) (by omega)) (fun r8 h8 q8 => ?_)
    obtain ⟨eh8, z8, ez8, lz8, uz8, pz8_0⟩ := q8
    subst eh8
    subst ez8
    refine pw_if_ne d319_11 rfl (by omega) (fun c11 => ?_) (fun c11 => ?_)
    · refine pw_aload_n d319_17 rfl ?_
      refine pw_getR d319_18 g319_56 hT hA0 rfl rfl (fun t18 => ?_)
      have t18 : τ (ρ a0 24) = some 53 := t18
      refine pw_iload_n d319_21 rfl ?_
      refine pw_iald d319_22 hT t18 rfl rfl (by omega) (by omega) (fun u22 vu22 => ?_)
      refine pw_iconst d319_23 ?_
      refine pw_icmp_eq d319_24 rfl (by omega) (by omega) (fun c24 => ?_) (fun c24 => ?_)
      · refine pw_bipush d319_37 (by decide) ?_
        exact pw_ireturn d319_39 tt319 ⟨hT, hF0, (-6), rfl, (by omega), (by omega)⟩
      · refine pw_aload_n d319_27 rfl ?_
        refine pw_getR d319_28 g319_56 hT hA0 rfl rfl (fun t28 => ?_)
        have t28 : τ (ρ a0 24) = some 53 := t28
        refine pw_iload_n d319_31 rfl ?_
        refine pw_iald d319_32 hT t28 rfl rfl (by omega) (by omega) (fun u32 vu32 => ?_)
        refine pw_iconst d319_33 ?_
        refine pw_icmp_ne d319_34 rfl (by omega) (by omega) (fun c34 => ?_) (fun c34 => ?_)
        · refine pw_aload_n d319_40 rfl ?_
          refine pw_getR d319_41 g319_59 hT hA0 rfl rfl (fun t41 => ?_)
          have t41 : τ (ρ a0 25) = some 54 := t41
          refine pw_iload_n d319_44 rfl ?_
          refine pw_iald d319_45 hT t41 rfl rfl (by omega) (by omega) (fun u45 vu45 => ?_)
          refine pw_aload_n d319_46 rfl ?_
          refine pw_getR d319_47 g319_59 hT hA0 rfl rfl (fun t47 => ?_)
          have t47 : τ (ρ a0 25) = some 54 := t47
          refine pw_iload_n d319_50 rfl ?_
          refine pw_iald d319_51 hT t47 rfl rfl (by omega) (by omega) (fun u51 vu51 => ?_)
          refine pw_icmp_eq d319_52 rfl (by omega) (by omega) (fun c52 => ?_) (fun c52 => ?_)
          · refine pw_iload_n d319_58 rfl ?_
            refine pw_if_lt d319_59 rfl (by omega) (fun c59 => ?_) (fun c59 => ?_)
            · refine pw_bipush d319_107 (by decide) ?_
              exact pw_ireturn d319_109 tt319 ⟨hT, hF0, (-7), rfl, (by omega), (by omega)⟩
            · refine pw_iload d319_62 rfl ?_
              refine pw_if_lt d319_64 rfl (by omega) (fun c64 => ?_) (fun c64 => ?_)
              · refine pw_bipush d319_107 (by decide) ?_
                exact pw_ireturn d319_109 tt319 ⟨hT, hF0, (-7), rfl, (by omega), (by omega)⟩
              · refine pw_iload d319_67 rfl ?_
                refine pw_if_lt d319_69 rfl (by omega) (fun c69 => ?_) (fun c69 => ?_)
                · refine pw_bipush d319_107 (by decide) ?_
                  exact pw_ireturn d319_109 tt319 ⟨hT, hF0, (-7), rfl, (by omega), (by omega)⟩
                · refine pw_iload_n d319_72 rfl ?_
                  refine pw_i2l d319_73 (by omega) ?_
                  refine pw_iload d319_74 rfl ?_
                  refine pw_i2l d319_76 (by omega) ?_
                  refine pw_ladd d319_77 ?_
                  refine pw_aload_n d319_78 rfl ?_
                  refine pw_getR d319_79 g319_56 hT hA0 rfl rfl (fun t79 => ?_)
                  have t79 : τ (ρ a0 24) = some 53 := t79
                  refine pw_iload_n d319_82 rfl ?_
                  refine pw_iald d319_83 hT t79 rfl rfl (by omega) (by omega) (fun u83 vu83 => ?_)
                  refine pw_i2l d319_84 (by omega) ?_
                  refine pw_lcmp d319_85 (by omega) (by omega) (fun z85 ez85 => ?_)
                  refine pw_if_gt d319_86 rfl (by omega) (fun c86 => ?_) (fun c86 => ?_)
                  · refine pw_bipush d319_107 (by decide) ?_
                    exact pw_ireturn d319_109 tt319 ⟨hT, hF0, (-7), rfl, (by omega), (by omega)⟩
                  · refine pw_iload d319_89 rfl ?_
                    refine pw_i2l d319_91 (by omega) ?_
                    refine pw_iload d319_92 rfl ?_
                    refine pw_i2l d319_94 (by omega) ?_
                    refine pw_ladd d319_95 ?_
                    refine pw_aload_n d319_96 rfl ?_
                    refine pw_getR d319_97 g319_56 hT hA0 rfl rfl (fun t97 => ?_)
                    have t97 : τ (ρ a0 24) = some 53 := t97
                    refine pw_iload_n d319_100 rfl ?_
                    refine pw_iald d319_101 hT t97 rfl rfl (by omega) (by omega) (fun u101 vu101 => ?_)
                    refine pw_i2l d319_102 (by omega) ?_
                    refine pw_lcmp d319_103 (by omega) (by omega) (fun z103 ez103 => ?_)
                    refine pw_if_le d319_104 rfl (by omega) (fun c104 => ?_) (fun c104 => ?_)
                    · refine pw_iconst d319_110 ?_
                      refine pw_istore d319_111 m319 rfl rfl ?_
                      exact L113 _ h (0) hT hF0 (by omega) (by omega) (by omega) (by omega) (by omega) (by omega) (by omega) (pv_mu _)
                    · refine pw_bipush d319_107 (by decide) ?_
                      exact pw_ireturn d319_109 tt319 ⟨hT, hF0, (-7), rfl, (by omega), (by omega)⟩
          · refine pw_bipush d319_55 (by decide) ?_
            exact pw_ireturn d319_57 tt319 ⟨hT, hF0, (-8), rfl, (by omega), (by omega)⟩
        · refine pw_bipush d319_37 (by decide) ?_
          exact pw_ireturn d319_39 tt319 ⟨hT, hF0, (-6), rfl, (by omega), (by omega)⟩
    · refine pw_bipush d319_14 (by decide) ?_
      exact pw_ireturn d319_16 tt319 ⟨hT, hF0, (-2), rfl, (by omega), (by omega)⟩

abbrev Q183 (τ : Nat → Option Nat) (ρ : Nat → Nat → Nat) (h : pv_H) (a0 : Nat) (x1 : Int) : Option Value → pv_H → Prop := fun r h' => pv_Ty τ ρ h' ∧ pv_Fr τ [2687, 2751] h h' ∧ ∃ z : Int, r = some (.int (pv_I z)) ∧ (-2) ≤ z ∧ z ≤ 0
set_option maxHeartbeats 4000000 in
set_option maxRecDepth 20000 in
/-- AngleNetModel.keep(I)I -/
theorem ct183 {τ : Nat → Option Nat} {ρ : Nat → Nat → Nat} {K : Nat → Nat} {h : pv_H} {a0 : Nat} {x1 : Int} (hT : pv_Ty τ ρ h) (hA0 : τ a0 = some 7) (hX1 : (-2147483648) ≤ x1 ∧ x1 ≤ 2147483647) : pv_C K 183 [.ref a0, .int (pv_I x1)] h (Q183 τ ρ h a0 x1) := by
  refine pw_entry 1 ?_
  show pv_T K 183 0 (pv_fl [some (.ref a0), some (.int (pv_I x1)), none]) [] h (Q183 τ ρ h a0 x1)
  have hF0 : pv_Fr τ [2687, 2751] h h := pv_Fr.rf
  have L17 : ∀ (nn : Nat) (h_17 : pv_H) (xL2_17 : Int), (pv_Ty τ ρ h_17) → (pv_Fr τ [2687, 2751] h h_17) → (0 ≤ x1 ∧ x1 ≤ 2) → (0 ≤ xL2_17 ∧ xL2_17 ≤ 1599) → (0 ≤ x1 ∧ x1 ≤ 2) → 1599 - xL2_17 < nn → pv_T K 183 17 (pv_fl [some (.ref a0), some (.int (pv_I x1)), some (.int (pv_I xL2_17))]) [] h_17 (Q183 τ ρ h a0 x1) := by
    intro nn
    induction nn with
    | zero => intro h_17 xL2_17 hT_17 hF_17 rL1_17 rL2_17 i0_17 hm; exfalso; omega
    | succ nn ih17 =>
      intro h_17 xL2_17 hT_17 hF_17 rL1_17 rL2_17 i0_17 hm17
      refine pw_iload_n d183_17 rfl ?_
      refine pw_sipush d183_18 (by decide) ?_
      refine pw_icmp_ge d183_21 rfl (by omega) (by omega) (fun c21 => ?_) (fun c21 => ?_)
      · refine pw_aload_n d183_48 rfl ?_
        refine pw_getR d183_49 g183_16 hT_17 hA0 rfl rfl (fun t49 => ?_)
        have t49 : τ (ρ a0 3) = some 42 := t49
        refine pw_iload_n d183_52 rfl ?_
        refine pw_iconst d183_53 ?_
        refine pw_bastZ d183_54 hT_17 t49 rfl rfl rfl (by omega) (by omega) (by omega) (fun h54 T54 F54 E54 => ?_)
        have f54 := hF_17.tr (F54.up (by decide))
        refine pw_iconst d183_55 ?_
        exact pw_ireturn d183_56 tt183 ⟨T54, f54, 0, rfl, (by omega), (by omega)⟩
      · refine pw_aload_n d183_24 rfl ?_
        refine pw_getR d183_25 g183_13 hT_17 hA0 rfl rfl (fun t25 => ?_)
        have t25 : τ (ρ a0 2) = some 41 := t25
        refine pw_sipush d183_28 (by decide) ?_
        refine pw_iload_n d183_31 rfl ?_
        refine pw_imul d183_32 ?_
        refine pw_iload_n d183_33 rfl ?_
        refine pw_iadd d183_34 ?_
        refine pw_aload_n d183_35 rfl ?_
        refine pw_getR d183_36 g183_9 hT_17 hA0 rfl rfl (fun t36 => ?_)
        have t36 : τ (ρ a0 1) = some 40 := t36
        refine pw_iload_n d183_39 rfl ?_
        refine pw_ialdB d183_40 hT_17 t36 rfl rfl (by omega) (by omega) (fun u40 => ?_)
        have u40 : pv_wok (xL2_17) (pv_aI h_17 (ρ a0 1) (xL2_17).toNat) := u40
        have vu40 := u40.1
        refine pw_iastB d183_41 hT_17 t25 rfl rfl rfl (by omega) (by omega) (by omega) (by show pv_wok (((1507 * x1) + xL2_17) % 1507) _; rw [show ((1507 * x1) + xL2_17) % 1507 = xL2_17 by omega]; exact u40) (fun h41 T41 F41 E41 => ?_)
        have f41 := hF_17.tr (F41.up (by decide))
        refine pw_iinc d183_42 m183 rfl rfl rfl ?_
        refine pw_goto d183_45 rfl ?_
        exact ih17 h41 ((xL2_17 + 1)) T41 f41 (by omega) (by omega) (by omega) (by omega)
  refine pw_iload_n d183_0 rfl ?_
  refine pw_i2l d183_1 (by omega) ?_
  refine pw_lconst (z := 0) d183_2 (by decide) ?_
  refine pw_ldc2 (v := pv_J 2) d183_3 n183_3 ?_
  refine pw_callS3 d183_6 k183_73 rfl rfl (ct184 (τ := τ) (ρ := ρ) (by omega) (by omega) (by omega)) (fun r6 h6 q6 => ?_)
  obtain ⟨eh6, z6, ez6, lz6, uz6, pz6_0⟩ := q6
  subst eh6
  subst ez6
  refine pw_if_ne d183_9 rfl (by omega) (fun c9 => ?_) (fun c9 => ?_)
  · refine pw_iconst d183_15 ?_
    refine pw_istore_n d183_16 m183 rfl rfl ?_
    exact L17 _ h (0) hT hF0 (by omega) (by omega) (by omega) (pv_mu _)
  · refine pw_bipush d183_12 (by decide) ?_
    exact pw_ireturn d183_14 tt183 ⟨hT, hF0, (-2), rfl, (by omega), (by omega)⟩

abbrev Q185 (τ : Nat → Option Nat) (ρ : Nat → Nat → Nat) (h : pv_H) (a0 : Nat) (x1 : Int) : Option Value → pv_H → Prop := fun r h' => pv_Ty τ ρ h' ∧ pv_Fr τ [2623] h h' ∧ ∃ z : Int, r = some (.int (pv_I z)) ∧ (-6) ≤ z ∧ z ≤ 0
set_option maxHeartbeats 4000000 in
set_option maxRecDepth 20000 in
/-- AngleNetModel.back(I)I -/
theorem ct185 {τ : Nat → Option Nat} {ρ : Nat → Nat → Nat} {K : Nat → Nat} {h : pv_H} {a0 : Nat} {x1 : Int} (hT : pv_Ty τ ρ h) (hA0 : τ a0 = some 7) (hX1 : (-2147483648) ≤ x1 ∧ x1 ≤ 2147483647) : pv_C K 185 [.ref a0, .int (pv_I x1)] h (Q185 τ ρ h a0 x1) := by
  refine pw_entry 1 ?_
  show pv_T K 185 0 (pv_fl [some (.ref a0), some (.int (pv_I x1)), none]) [] h (Q185 τ ρ h a0 x1)
  have hF0 : pv_Fr τ [2623] h h := pv_Fr.rf
  have L29 : ∀ (nn : Nat) (h_29 : pv_H) (xL2_29 : Int), (pv_Ty τ ρ h_29) → (pv_Fr τ [2623] h h_29) → (0 ≤ x1 ∧ x1 ≤ 2) → (0 ≤ xL2_29 ∧ xL2_29 ≤ 1599) → (0 ≤ x1 ∧ x1 ≤ 2) → 1599 - xL2_29 < nn → pv_T K 185 29 (pv_fl [some (.ref a0), some (.int (pv_I x1)), some (.int (pv_I xL2_29))]) [] h_29 (Q185 τ ρ h a0 x1) := by
    intro nn
    induction nn with
    | zero => intro h_29 xL2_29 hT_29 hF_29 rL1_29 rL2_29 i0_29 hm; exfalso; omega
    | succ nn ih29 =>
      intro h_29 xL2_29 hT_29 hF_29 rL1_29 rL2_29 i0_29 hm29
      refine pw_iload_n d185_29 rfl ?_
      refine pw_sipush d185_30 (by decide) ?_
      refine pw_icmp_ge d185_33 rfl (by omega) (by omega) (fun c33 => ?_) (fun c33 => ?_)
      · refine pw_iconst d185_60 ?_
        exact pw_ireturn d185_61 tt185 ⟨hT_29, hF_29, 0, rfl, (by omega), (by omega)⟩
      · refine pw_aload_n d185_36 rfl ?_
        refine pw_getR d185_37 g185_9 hT_29 hA0 rfl rfl (fun t37 => ?_)
        have t37 : τ (ρ a0 1) = some 40 := t37
        refine pw_iload_n d185_40 rfl ?_
        refine pw_aload_n d185_41 rfl ?_
        refine pw_getR d185_42 g185_13 hT_29 hA0 rfl rfl (fun t42 => ?_)
        have t42 : τ (ρ a0 2) = some 41 := t42
        refine pw_sipush d185_45 (by decide) ?_
        refine pw_iload_n d185_48 rfl ?_
        refine pw_imul d185_49 ?_
        refine pw_iload_n d185_50 rfl ?_
        refine pw_iadd d185_51 ?_
        refine pw_ialdB d185_52 hT_29 t42 rfl rfl (by omega) (by omega) (fun u52 => ?_)
        have u52 : pv_wok ((((1507 * x1) + xL2_29)) % 1507) (pv_aI h_29 (ρ a0 2) (((1507 * x1) + xL2_29)).toNat) := u52
        have vu52 := u52.1
        refine pw_iastB d185_53 hT_29 t37 rfl rfl rfl (by omega) (by omega) (by omega) (by show pv_wok xL2_29 _; rw [show ((1507 * x1) + xL2_29) % 1507 = xL2_29 by omega] at u52; exact u52) (fun h53 T53 F53 E53 => ?_)
        have f53 := hF_29.tr (F53.up (by decide))
        refine pw_iinc d185_54 m185 rfl rfl rfl ?_
        refine pw_goto d185_57 rfl ?_
        exact ih29 h53 ((xL2_29 + 1)) T53 f53 (by omega) (by omega) (by omega) (by omega)
  refine pw_iload_n d185_0 rfl ?_
  refine pw_i2l d185_1 (by omega) ?_
  refine pw_lconst (z := 0) d185_2 (by decide) ?_
  refine pw_ldc2 (v := pv_J 2) d185_3 n185_3 ?_
  refine pw_callS3 d185_6 k185_73 rfl rfl (ct184 (τ := τ) (ρ := ρ) (by omega) (by omega) (by omega)) (fun r6 h6 q6 => ?_)
  obtain ⟨eh6, z6, ez6, lz6, uz6, pz6_0⟩ := q6
  subst eh6
  subst ez6
  refine pw_if_ne d185_9 rfl (by omega) (fun c9 => ?_) (fun c9 => ?_)
  · refine pw_aload_n d185_15 rfl ?_
    refine pw_getR d185_16 g185_16 hT hA0 rfl rfl (fun t16 => ?_)
    have t16 : τ (ρ a0 3) = some 42 := t16
    refine pw_iload_n d185_19 rfl ?_
    refine pw_bald d185_20 hT t16 rfl (by decide) rfl (by omega) (by omega) (fun u20 vu20 => ?_)
    refine pw_if_ne d185_21 rfl (by omega) (fun c21 => ?_) (fun c21 => ?_)
    · refine pw_iconst d185_27 ?_
      refine pw_istore_n d185_28 m185 rfl rfl ?_
      exact L29 _ h (0) hT hF0 (by omega) (by omega) (by omega) (pv_mu _)
    · refine pw_bipush d185_24 (by decide) ?_
      exact pw_ireturn d185_26 tt185 ⟨hT, hF0, (-6), rfl, (by omega), (by omega)⟩
  · refine pw_bipush d185_12 (by decide) ?_
    exact pw_ireturn d185_14 tt185 ⟨hT, hF0, (-2), rfl, (by omega), (by omega)⟩
