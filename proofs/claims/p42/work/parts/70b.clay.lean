abbrev Q251F (τ : Nat → Option Nat) (ρ : Nat → Nat → Nat) (h : pv_H) (a0 : Nat) (x1 : Int) : Option Value → pv_H → Prop := fun r h' => h = h' ∧ ∃ z : Int, r = some (.int (pv_I z)) ∧ (-19440) ≤ z ∧ z ≤ 19440 ∧ (z = pd_sum (pr_n (pv_aI h (ρ a0 1))) (ph_m (pl_c (pv_aI h (ρ a0 1))) (pl_s (pv_aI h (ρ a0 1))) (pv_aI h (ρ a0 17)) (pv_aI h (ρ a0 16)) (x1).toNat))
set_option maxHeartbeats 4000000 in
set_option maxRecDepth 20000 in
/-- AngleNetModel.mostAt(I)I -/
theorem ct251F {τ : Nat → Option Nat} {ρ : Nat → Nat → Nat} {K : Nat → Nat} {h : pv_H} {a0 : Nat} {x1 : Int} (hT : pv_Ty τ ρ h) (hA0 : τ a0 = some 7) (hX1 : 0 ≤ x1 ∧ x1 ≤ 1023) (hP0 : pl_b (pv_aI h (ρ a0 1)) (pv_aI h (ρ a0 16)) (pv_aI h (ρ a0 17))) : pv_C K 251 [.ref a0, .int (pv_I x1)] h (Q251F τ ρ h a0 x1) := by
  refine pw_entry 5 ?_
  show pv_T K 251 0 (pv_fl [some (.ref a0), some (.int (pv_I x1)), none, none, none, none, none]) [] h (Q251F τ ρ h a0 x1)
  have hR0_1 : τ (ρ a0 1) = some 40 := hT.rf (t' := 40) hA0 rfl rfl
  have hR0_16 : τ (ρ a0 16) = some 47 := hT.rf (t' := 47) hA0 rfl rfl
  have hR0_17 : τ (ρ a0 17) = some 48 := hT.rf (t' := 48) hA0 rfl rfl
  have L4 : ∀ (nn : Nat) (xL2_4 xL3_4 : Int) (o4_4 o5_4 o6_4 : Option Value), (0 ≤ x1 ∧ x1 ≤ 1023) → ((-19440) ≤ xL2_4 ∧ xL2_4 ≤ 19440) → (0 ≤ xL3_4 ∧ xL3_4 ≤ 18) → (xL2_4 = pd_sum (xL3_4).toNat (ph_m (pl_c (pv_aI h (ρ a0 1))) (pl_s (pv_aI h (ρ a0 1))) (pv_aI h (ρ a0 17)) (pv_aI h (ρ a0 16)) (x1).toNat)) → (xL3_4 ≤ pv_aI h (ρ a0 1) (1 : Int).toNat) → (-1080 * xL3_4 ≤ xL2_4 ∧ xL2_4 ≤ 1080 * xL3_4) → 18 - xL3_4 < nn → pv_T K 251 4 (pv_fl [some (.ref a0), some (.int (pv_I x1)), some (.int (pv_I xL2_4)), some (.int (pv_I xL3_4)), o4_4, o5_4, o6_4]) [] h (Q251F τ ρ h a0 x1) := by
    intro nn
    induction nn with
    | zero => intro xL2_4 xL3_4 o4_4 o5_4 o6_4 rL1_4 rL2_4 rL3_4 i0_4 i1_4 i2_4 hm; exfalso; omega
    | succ nn ih4 =>
      intro xL2_4 xL3_4 o4_4 o5_4 o6_4 rL1_4 rL2_4 rL3_4 i0_4 i1_4 i2_4 hm4
      have L21 : ∀ (nn : Nat) (xL4_21 xL5_21 xL6_21 : Int), (0 ≤ x1 ∧ x1 ≤ 1023) → ((-1000000) ≤ xL2_4 ∧ xL2_4 ≤ 100000) → (0 ≤ xL3_4 ∧ xL3_4 ≤ 17) → (0 ≤ xL4_21 ∧ xL4_21 ≤ 1080) → (0 ≤ xL5_21 ∧ xL5_21 ≤ 1080) → (0 ≤ xL6_21 ∧ xL6_21 ≤ 3) → (xL4_21 = pd_sum (xL6_21).toNat (ph_i (x1).toNat (pl_c (pv_aI h (ρ a0 1))) (pv_aI h (ρ a0 17)) (xL3_4).toNat)) → (xL5_21 = pd_sum (xL6_21).toNat (ph_o (x1).toNat (pl_c (pv_aI h (ρ a0 1))) (pv_aI h (ρ a0 16)) (xL3_4).toNat)) → (0 ≤ xL4_21 ∧ xL4_21 ≤ 360 * xL6_21 ∧ 0 ≤ xL5_21 ∧ xL5_21 ≤ 360 * xL6_21) → (xL3_4 < pv_aI h (ρ a0 1) (1 : Int).toNat) → 3 - xL6_21 < nn → pv_T K 251 21 (pv_fl [some (.ref a0), some (.int (pv_I x1)), some (.int (pv_I xL2_4)), some (.int (pv_I xL3_4)), some (.int (pv_I xL4_21)), some (.int (pv_I xL5_21)), some (.int (pv_I xL6_21))]) [] h (Q251F τ ρ h a0 x1) := by
        intro nn
        induction nn with
        | zero => intro xL4_21 xL5_21 xL6_21 rL1_21 rL2_21 rL3_21 rL4_21 rL5_21 rL6_21 i0_21 i1_21 i2_21 i3_21 hm; exfalso; omega
        | succ nn ih21 =>
          intro xL4_21 xL5_21 xL6_21 rL1_21 rL2_21 rL3_21 rL4_21 rL5_21 rL6_21 i0_21 i1_21 i2_21 i3_21 hm21
          have J94 : ∀ (xL4_94 xS0_94 : Int) (o5_94 : Option Value), (0 ≤ x1 ∧ x1 ≤ 1023) → ((-1000000) ≤ xL2_4 ∧ xL2_4 ≤ 100000) → (0 ≤ xL3_4 ∧ xL3_4 ≤ 17) → (0 ≤ xL4_94 ∧ xL4_94 ≤ 1080) → (0 ≤ xL6_21 ∧ xL6_21 ≤ 2) → (0 ≤ xS0_94 ∧ xS0_94 ≤ 360) → (0 ≤ xL5_21 ∧ xL5_21 ≤ 1080) → (xS0_94 = ph_o (x1).toNat (pl_c (pv_aI h (ρ a0 1))) (pv_aI h (ρ a0 16)) (xL3_4).toNat (xL6_21).toNat) → (0 ≤ xS0_94 ∧ xS0_94 ≤ 360) → (xL5_21 = xL5_21) → (xL4_94 = pd_sum (xL6_21 + 1).toNat (ph_i (x1).toNat (pl_c (pv_aI h (ρ a0 1))) (pv_aI h (ρ a0 17)) (xL3_4).toNat)) → (0 ≤ xL4_94 ∧ xL4_94 ≤ 360 * (xL6_21 + 1)) → pv_T K 251 94 (pv_fl [some (.ref a0), some (.int (pv_I x1)), some (.int (pv_I xL2_4)), some (.int (pv_I xL3_4)), some (.int (pv_I xL4_94)), o5_94, some (.int (pv_I xL6_21))]) [.int (pv_I xS0_94), .int (pv_I xL5_21)] h (Q251F τ ρ h a0 x1) := by
            intro xL4_94 xS0_94 o5_94 rL1_94 rL2_94 rL3_94 rL4_94 rL6_94 rS0_94 rS1_94 i0_94 i1_94 i2_94 i3_94 i4_94
            refine pw_iadd d251_94 ?_
            refine pw_istore d251_95 m251 rfl rfl ?_
            refine pw_iinc d251_97 m251 rfl rfl rfl ?_
            refine pw_goto d251_100 rfl ?_
            exact ih21 (xL4_94) ((xL5_21 + xS0_94)) ((xL6_21 + 1)) (by omega) (by omega) (by omega) (by omega) (by omega) (by omega) (by first | rfl | exact i3_94) (by first | rfl | (rw [pd_sum_S (by omega)]; omega)) (by omega) (by omega) (by omega)
          have J59 : ∀ (xS0_59 : Int) (o4_59 : Option Value), (0 ≤ x1 ∧ x1 ≤ 1023) → ((-1000000) ≤ xL2_4 ∧ xL2_4 ≤ 100000) → (0 ≤ xL3_4 ∧ xL3_4 ≤ 17) → (0 ≤ xL5_21 ∧ xL5_21 ≤ 1080) → (0 ≤ xL6_21 ∧ xL6_21 ≤ 2) → (0 ≤ xS0_59 ∧ xS0_59 ≤ 360) → (0 ≤ xL4_21 ∧ xL4_21 ≤ 1080) → (xS0_59 = ph_i (x1).toNat (pl_c (pv_aI h (ρ a0 1))) (pv_aI h (ρ a0 17)) (xL3_4).toNat (xL6_21).toNat) → (0 ≤ xS0_59 ∧ xS0_59 ≤ 360) → (xL4_21 = xL4_21) → (xL5_21 = xL5_21) → pv_T K 251 59 (pv_fl [some (.ref a0), some (.int (pv_I x1)), some (.int (pv_I xL2_4)), some (.int (pv_I xL3_4)), o4_59, some (.int (pv_I xL5_21)), some (.int (pv_I xL6_21))]) [.int (pv_I xS0_59), .int (pv_I xL4_21)] h (Q251F τ ρ h a0 x1) := by
            intro xS0_59 o4_59 rL1_59 rL2_59 rL3_59 rL5_59 rL6_59 rS0_59 rS1_59 i0_59 i1_59 i2_59 i3_59
            refine pw_iadd d251_59 ?_
            refine pw_istore d251_60 m251 rfl rfl ?_
            refine pw_iload d251_62 rfl ?_
            refine pw_iload_n d251_64 rfl ?_
            refine pw_aload_n d251_65 rfl ?_
            refine pw_iload_n d251_66 rfl ?_
            refine pw_iload d251_67 rfl ?_
            refine pw_callV2 d251_69 k251_219 hT hA0 rfl rfl rfl (ct212 (τ := τ) (ρ := ρ) hT hA0 (by omega) (by omega)) (fun r69 h69 q69 => ?_)
            obtain ⟨eh69, z69, ez69, lz69, uz69, pz69_0, pz69_1⟩ := q69
            subst eh69
            subst ez69
            refine pw_ishr d251_72 (fun z72 hz72 ez72 => ?_)
            refine pw_iconst d251_73 ?_
            refine pw_iand d251_74 (fun z74 hz74 ez74 => ?_)
            have bz74 := pv_and1_b hz74 ez74
            have tt75 := ly_bit (by omega) (by omega) (by omega) pz69_0 (pb_tst (x := x1) (i := z69) (by omega) (by omega) hz74 ez72 ez74)
            refine pw_iconst d251_75 ?_
            refine pw_icmp_ne d251_76 rfl (by omega) (by omega) (fun c76 => ?_) (fun c76 => ?_)
            · refine pw_aload_n d251_83 rfl ?_
              refine pw_getR d251_84 g251_37 hT hA0 rfl rfl (fun t84 => ?_)
              have t84 : τ (ρ a0 16) = some 47 := t84
              refine pw_iconst d251_87 ?_
              refine pw_iload_n d251_88 rfl ?_
              refine pw_imul d251_89 ?_
              refine pw_iload d251_90 rfl ?_
              refine pw_iadd d251_92 ?_
              refine pw_iald d251_93 hT t84 rfl rfl (by omega) (by omega) (fun u93 vu93 => ?_)
              have b93 := (hP0 (3 * xL3_4 + xL6_21).toNat (by omega)).1
              exact J94 ((xL4_21 + xS0_59)) ((pv_aI h (ρ a0 16) (((3 * xL3_4) + xL6_21)).toNat)) _ (by omega) (by omega) (by omega) (by omega) (by omega) (by omega) (by omega) (by first | exact ly_o1 tt75 (by omega) | exact ly_o0 (by omega) (by omega) tt75 (by omega)) (by omega) (by first | rfl | omega) (by (rw [pd_sum_S (by omega)]; omega)) (by omega)
            · refine pw_iconst d251_79 ?_
              refine pw_goto d251_80 rfl ?_
              exact J94 ((xL4_21 + xS0_59)) (0) _ (by omega) (by omega) (by omega) (by omega) (by omega) (by omega) (by omega) (by first | exact ly_o1 tt75 (by omega) | exact ly_o0 (by omega) (by omega) tt75 (by omega)) (by omega) (by first | rfl | omega) (by (rw [pd_sum_S (by omega)]; omega)) (by omega)
          refine pw_iload d251_21 rfl ?_
          refine pw_iconst d251_23 ?_
          refine pw_icmp_ge d251_24 rfl (by omega) (by omega) (fun c24 => ?_) (fun c24 => ?_)
          · refine pw_iload_n d251_103 rfl ?_
            refine pw_iload d251_104 rfl ?_
            refine pw_aload_n d251_106 rfl ?_
            refine pw_iload_n d251_107 rfl ?_
            refine pw_iconst d251_108 ?_
            refine pw_callV2 d251_109 k251_219 hT hA0 rfl rfl rfl (ct212 (τ := τ) (ρ := ρ) hT hA0 (by omega) (by omega)) (fun r109 h109 q109 => ?_)
            obtain ⟨eh109, z109, ez109, lz109, uz109, pz109_0, pz109_1⟩ := q109
            subst eh109
            subst ez109
            refine pw_iload d251_112 rfl ?_
            refine pw_isub d251_114 ?_
            refine pw_mmin d251_115 k251_112 rfl (by omega) (by omega) (fun z115 pz115 hz115 => ?_)
            refine pw_iadd d251_118 ?_
            refine pw_istore_n d251_119 m251 rfl rfl ?_
            refine pw_iinc d251_120 m251 rfl rfl rfl ?_
            refine pw_goto d251_123 rfl ?_
            exact ih4 ((xL2_4 + z115)) ((xL3_4 + 1)) _ _ _ (by omega) (by omega) (by omega) (by first | rfl | exact ly_m i0_21 i1_21 (by omega) (by omega) pz109_0 pz115 hz115 i0_4) (by first | exact hw1 | omega) (by omega) (by omega)
          · refine pw_iload d251_27 rfl ?_
            refine pw_iload_n d251_29 rfl ?_
            refine pw_aload_n d251_30 rfl ?_
            refine pw_iload_n d251_31 rfl ?_
            refine pw_iload d251_32 rfl ?_
            refine pw_callV2 d251_34 k251_219 hT hA0 rfl rfl rfl (ct212 (τ := τ) (ρ := ρ) hT hA0 (by omega) (by omega)) (fun r34 h34 q34 => ?_)
            obtain ⟨eh34, z34, ez34, lz34, uz34, pz34_0, pz34_1⟩ := q34
            subst eh34
            subst ez34
            refine pw_ishr d251_37 (fun z37 hz37 ez37 => ?_)
            refine pw_iconst d251_38 ?_
            refine pw_iand d251_39 (fun z39 hz39 ez39 => ?_)
            have bz39 := pv_and1_b hz39 ez39
            have tt40 := ly_bit (by omega) (by omega) (by omega) pz34_0 (pb_tst (x := x1) (i := z34) (by omega) (by omega) hz39 ez37 ez39)
            refine pw_iconst d251_40 ?_
            refine pw_icmp_ne d251_41 rfl (by omega) (by omega) (fun c41 => ?_) (fun c41 => ?_)
            · refine pw_iconst d251_58 ?_
              exact J59 (0) _ (by omega) (by omega) (by omega) (by omega) (by omega) (by omega) (by omega) (by first | exact ly_i1 (by omega) (by omega) tt40 (by omega) | exact ly_i0 tt40 (by omega)) (by omega) (by first | rfl | omega) (by first | rfl | omega)
            · refine pw_aload_n d251_44 rfl ?_
              refine pw_getR d251_45 g251_40 hT hA0 rfl rfl (fun t45 => ?_)
              have t45 : τ (ρ a0 17) = some 48 := t45
              refine pw_iconst d251_48 ?_
              refine pw_iload_n d251_49 rfl ?_
              refine pw_imul d251_50 ?_
              refine pw_iload d251_51 rfl ?_
              refine pw_iadd d251_53 ?_
              refine pw_iald d251_54 hT t45 rfl rfl (by omega) (by omega) (fun u54 vu54 => ?_)
              have b54 := (hP0 (3 * xL3_4 + xL6_21).toNat (by omega)).2
              refine pw_goto d251_55 rfl ?_
              exact J59 ((pv_aI h (ρ a0 17) (((3 * xL3_4) + xL6_21)).toNat)) _ (by omega) (by omega) (by omega) (by omega) (by omega) (by omega) (by omega) (by first | exact ly_i1 (by omega) (by omega) tt40 (by omega) | exact ly_i0 tt40 (by omega)) (by omega) (by first | rfl | omega) (by first | rfl | omega)
      refine pw_iload_n d251_4 rfl ?_
      refine pw_aload_n d251_5 rfl ?_
      refine pw_callV0 d251_6 k251_216 hT hA0 rfl rfl rfl (ct216 (τ := τ) (ρ := ρ) hT hA0) (fun r6 h6 q6 => ?_)
      obtain ⟨eh6, z6, ez6, lz6, uz6, pz6_0⟩ := q6
      subst eh6
      subst ez6
      refine pw_icmp_ge d251_9 rfl (by omega) (by omega) (fun c9 => ?_) (fun c9 => ?_)
      · refine pw_iload_n d251_126 rfl ?_
        exact pw_ireturn d251_127 tt251 ⟨rfl, xL2_4, rfl, (by omega), (by omega), (by rw [show pr_n (pv_aI h (ρ a0 1)) = (xL3_4).toNat from (show (pv_aI h (ρ a0 1) (1 : Int).toNat).toNat = _ by omega)]; exact i0_4)⟩
      · refine pw_iconst d251_12 ?_
        refine pw_istore d251_13 m251 rfl rfl ?_
        refine pw_iconst d251_15 ?_
        refine pw_istore d251_16 m251 rfl rfl ?_
        refine pw_iconst d251_18 ?_
        refine pw_istore d251_19 m251 rfl rfl ?_
        exact L21 _ (0) (0) (0) (by omega) (by omega) (by omega) (by omega) (by omega) (by omega) (by first | rfl | exact i3_94) (by first | rfl | (rw [pd_sum_S (by omega)]; omega)) (by omega) (by omega) (pv_mu _)
  have hw1 : 0 ≤ pv_aI h (ρ a0 1) (1 : Int).toNat := (hT.wc hR0_1 (j := 1) rfl (by decide)).2.2.1 (by decide) |>.1
  refine pw_iconst d251_0 ?_
  refine pw_istore_n d251_1 m251 rfl rfl ?_
  refine pw_iconst d251_2 ?_
  refine pw_istore_n d251_3 m251 rfl rfl ?_
  exact L4 _ (0) (0) _ _ _ (by omega) (by omega) (by omega) (by first | rfl | exact ly_m i0_21 i1_21 (by omega) (by omega) pz109_0 pz115 hz115 i0_4) (by first | exact hw1 | omega) (by omega) (pv_mu _)

abbrev Q252F (τ : Nat → Option Nat) (ρ : Nat → Nat → Nat) (h : pv_H) (a0 : Nat) (x1 : Int) : Option Value → pv_H → Prop := fun r h' => h = h' ∧ ∃ z : Int, r = some (.int (pv_I z)) ∧ (-19440) ≤ z ∧ z ≤ 19440 ∧ (z = pd_sum (pr_n (pv_aI h (ρ a0 1))) (ph_l (pl_c (pv_aI h (ρ a0 1))) (pl_s (pv_aI h (ρ a0 1))) (pv_aI h (ρ a0 17)) (pv_aI h (ρ a0 16)) (x1).toNat))
set_option maxHeartbeats 4000000 in
set_option maxRecDepth 20000 in
/-- AngleNetModel.leastAt(I)I -/
theorem ct252F {τ : Nat → Option Nat} {ρ : Nat → Nat → Nat} {K : Nat → Nat} {h : pv_H} {a0 : Nat} {x1 : Int} (hT : pv_Ty τ ρ h) (hA0 : τ a0 = some 7) (hX1 : 0 ≤ x1 ∧ x1 ≤ 1023) (hP0 : pl_b (pv_aI h (ρ a0 1)) (pv_aI h (ρ a0 16)) (pv_aI h (ρ a0 17))) : pv_C K 252 [.ref a0, .int (pv_I x1)] h (Q252F τ ρ h a0 x1) := by
  refine pw_entry 5 ?_
  show pv_T K 252 0 (pv_fl [some (.ref a0), some (.int (pv_I x1)), none, none, none, none, none]) [] h (Q252F τ ρ h a0 x1)
  have hR0_1 : τ (ρ a0 1) = some 40 := hT.rf (t' := 40) hA0 rfl rfl
  have hR0_16 : τ (ρ a0 16) = some 47 := hT.rf (t' := 47) hA0 rfl rfl
  have hR0_17 : τ (ρ a0 17) = some 48 := hT.rf (t' := 48) hA0 rfl rfl
  have L4 : ∀ (nn : Nat) (xL2_4 xL3_4 : Int) (o4_4 o5_4 o6_4 : Option Value), (0 ≤ x1 ∧ x1 ≤ 1023) → ((-19440) ≤ xL2_4 ∧ xL2_4 ≤ 19440) → (0 ≤ xL3_4 ∧ xL3_4 ≤ 18) → (xL2_4 = pd_sum (xL3_4).toNat (ph_l (pl_c (pv_aI h (ρ a0 1))) (pl_s (pv_aI h (ρ a0 1))) (pv_aI h (ρ a0 17)) (pv_aI h (ρ a0 16)) (x1).toNat)) → (xL3_4 ≤ pv_aI h (ρ a0 1) (1 : Int).toNat) → (-1080 * xL3_4 ≤ xL2_4 ∧ xL2_4 ≤ 1080 * xL3_4) → 18 - xL3_4 < nn → pv_T K 252 4 (pv_fl [some (.ref a0), some (.int (pv_I x1)), some (.int (pv_I xL2_4)), some (.int (pv_I xL3_4)), o4_4, o5_4, o6_4]) [] h (Q252F τ ρ h a0 x1) := by
    intro nn
    induction nn with
    | zero => intro xL2_4 xL3_4 o4_4 o5_4 o6_4 rL1_4 rL2_4 rL3_4 i0_4 i1_4 i2_4 hm; exfalso; omega
    | succ nn ih4 =>
      intro xL2_4 xL3_4 o4_4 o5_4 o6_4 rL1_4 rL2_4 rL3_4 i0_4 i1_4 i2_4 hm4
      have L21 : ∀ (nn : Nat) (xL4_21 xL5_21 xL6_21 : Int), (0 ≤ x1 ∧ x1 ≤ 1023) → ((-1000000) ≤ xL2_4 ∧ xL2_4 ≤ 100000) → (0 ≤ xL3_4 ∧ xL3_4 ≤ 17) → (0 ≤ xL4_21 ∧ xL4_21 ≤ 1080) → (0 ≤ xL5_21 ∧ xL5_21 ≤ 1080) → (0 ≤ xL6_21 ∧ xL6_21 ≤ 3) → (xL4_21 = pd_sum (xL6_21).toNat (ph_i (x1).toNat (pl_c (pv_aI h (ρ a0 1))) (pv_aI h (ρ a0 16)) (xL3_4).toNat)) → (xL5_21 = pd_sum (xL6_21).toNat (ph_o (x1).toNat (pl_c (pv_aI h (ρ a0 1))) (pv_aI h (ρ a0 17)) (xL3_4).toNat)) → (0 ≤ xL4_21 ∧ xL4_21 ≤ 360 * xL6_21 ∧ 0 ≤ xL5_21 ∧ xL5_21 ≤ 360 * xL6_21) → (xL3_4 < pv_aI h (ρ a0 1) (1 : Int).toNat) → 3 - xL6_21 < nn → pv_T K 252 21 (pv_fl [some (.ref a0), some (.int (pv_I x1)), some (.int (pv_I xL2_4)), some (.int (pv_I xL3_4)), some (.int (pv_I xL4_21)), some (.int (pv_I xL5_21)), some (.int (pv_I xL6_21))]) [] h (Q252F τ ρ h a0 x1) := by
        intro nn
        induction nn with
        | zero => intro xL4_21 xL5_21 xL6_21 rL1_21 rL2_21 rL3_21 rL4_21 rL5_21 rL6_21 i0_21 i1_21 i2_21 i3_21 hm; exfalso; omega
        | succ nn ih21 =>
          intro xL4_21 xL5_21 xL6_21 rL1_21 rL2_21 rL3_21 rL4_21 rL5_21 rL6_21 i0_21 i1_21 i2_21 i3_21 hm21
          have J94 : ∀ (xL4_94 xS0_94 : Int) (o5_94 : Option Value), (0 ≤ x1 ∧ x1 ≤ 1023) → ((-1000000) ≤ xL2_4 ∧ xL2_4 ≤ 100000) → (0 ≤ xL3_4 ∧ xL3_4 ≤ 17) → (0 ≤ xL4_94 ∧ xL4_94 ≤ 1080) → (0 ≤ xL6_21 ∧ xL6_21 ≤ 2) → (0 ≤ xS0_94 ∧ xS0_94 ≤ 360) → (0 ≤ xL5_21 ∧ xL5_21 ≤ 1080) → (xS0_94 = ph_o (x1).toNat (pl_c (pv_aI h (ρ a0 1))) (pv_aI h (ρ a0 17)) (xL3_4).toNat (xL6_21).toNat) → (0 ≤ xS0_94 ∧ xS0_94 ≤ 360) → (xL5_21 = xL5_21) → (xL4_94 = pd_sum (xL6_21 + 1).toNat (ph_i (x1).toNat (pl_c (pv_aI h (ρ a0 1))) (pv_aI h (ρ a0 16)) (xL3_4).toNat)) → (0 ≤ xL4_94 ∧ xL4_94 ≤ 360 * (xL6_21 + 1)) → pv_T K 252 94 (pv_fl [some (.ref a0), some (.int (pv_I x1)), some (.int (pv_I xL2_4)), some (.int (pv_I xL3_4)), some (.int (pv_I xL4_94)), o5_94, some (.int (pv_I xL6_21))]) [.int (pv_I xS0_94), .int (pv_I xL5_21)] h (Q252F τ ρ h a0 x1) := by
            intro xL4_94 xS0_94 o5_94 rL1_94 rL2_94 rL3_94 rL4_94 rL6_94 rS0_94 rS1_94 i0_94 i1_94 i2_94 i3_94 i4_94
            refine pw_iadd d252_94 ?_
            refine pw_istore d252_95 m252 rfl rfl ?_
            refine pw_iinc d252_97 m252 rfl rfl rfl ?_
            refine pw_goto d252_100 rfl ?_
            exact ih21 (xL4_94) ((xL5_21 + xS0_94)) ((xL6_21 + 1)) (by omega) (by omega) (by omega) (by omega) (by omega) (by omega) (by first | rfl | exact i3_94) (by first | rfl | (rw [pd_sum_S (by omega)]; omega)) (by omega) (by omega) (by omega)
          have J59 : ∀ (xS0_59 : Int) (o4_59 : Option Value), (0 ≤ x1 ∧ x1 ≤ 1023) → ((-1000000) ≤ xL2_4 ∧ xL2_4 ≤ 100000) → (0 ≤ xL3_4 ∧ xL3_4 ≤ 17) → (0 ≤ xL5_21 ∧ xL5_21 ≤ 1080) → (0 ≤ xL6_21 ∧ xL6_21 ≤ 2) → (0 ≤ xS0_59 ∧ xS0_59 ≤ 360) → (0 ≤ xL4_21 ∧ xL4_21 ≤ 1080) → (xS0_59 = ph_i (x1).toNat (pl_c (pv_aI h (ρ a0 1))) (pv_aI h (ρ a0 16)) (xL3_4).toNat (xL6_21).toNat) → (0 ≤ xS0_59 ∧ xS0_59 ≤ 360) → (xL4_21 = xL4_21) → (xL5_21 = xL5_21) → pv_T K 252 59 (pv_fl [some (.ref a0), some (.int (pv_I x1)), some (.int (pv_I xL2_4)), some (.int (pv_I xL3_4)), o4_59, some (.int (pv_I xL5_21)), some (.int (pv_I xL6_21))]) [.int (pv_I xS0_59), .int (pv_I xL4_21)] h (Q252F τ ρ h a0 x1) := by
            intro xS0_59 o4_59 rL1_59 rL2_59 rL3_59 rL5_59 rL6_59 rS0_59 rS1_59 i0_59 i1_59 i2_59 i3_59
            refine pw_iadd d252_59 ?_
            refine pw_istore d252_60 m252 rfl rfl ?_
            refine pw_iload d252_62 rfl ?_
            refine pw_iload_n d252_64 rfl ?_
            refine pw_aload_n d252_65 rfl ?_
            refine pw_iload_n d252_66 rfl ?_
            refine pw_iload d252_67 rfl ?_
            refine pw_callV2 d252_69 k252_219 hT hA0 rfl rfl rfl (ct212 (τ := τ) (ρ := ρ) hT hA0 (by omega) (by omega)) (fun r69 h69 q69 => ?_)
            obtain ⟨eh69, z69, ez69, lz69, uz69, pz69_0, pz69_1⟩ := q69
            subst eh69
            subst ez69
            refine pw_ishr d252_72 (fun z72 hz72 ez72 => ?_)
            refine pw_iconst d252_73 ?_
            refine pw_iand d252_74 (fun z74 hz74 ez74 => ?_)
            have bz74 := pv_and1_b hz74 ez74
            have tt75 := ly_bit (by omega) (by omega) (by omega) pz69_0 (pb_tst (x := x1) (i := z69) (by omega) (by omega) hz74 ez72 ez74)
            refine pw_iconst d252_75 ?_
            refine pw_icmp_ne d252_76 rfl (by omega) (by omega) (fun c76 => ?_) (fun c76 => ?_)
            · refine pw_aload_n d252_83 rfl ?_
              refine pw_getR d252_84 g252_40 hT hA0 rfl rfl (fun t84 => ?_)
              have t84 : τ (ρ a0 17) = some 48 := t84
              refine pw_iconst d252_87 ?_
              refine pw_iload_n d252_88 rfl ?_
              refine pw_imul d252_89 ?_
              refine pw_iload d252_90 rfl ?_
              refine pw_iadd d252_92 ?_
              refine pw_iald d252_93 hT t84 rfl rfl (by omega) (by omega) (fun u93 vu93 => ?_)
              have b93 := (hP0 (3 * xL3_4 + xL6_21).toNat (by omega)).2
              exact J94 ((xL4_21 + xS0_59)) ((pv_aI h (ρ a0 17) (((3 * xL3_4) + xL6_21)).toNat)) _ (by omega) (by omega) (by omega) (by omega) (by omega) (by omega) (by omega) (by first | exact ly_o1 tt75 (by omega) | exact ly_o0 (by omega) (by omega) tt75 (by omega)) (by omega) (by first | rfl | omega) (by (rw [pd_sum_S (by omega)]; omega)) (by omega)
            · refine pw_iconst d252_79 ?_
              refine pw_goto d252_80 rfl ?_
              exact J94 ((xL4_21 + xS0_59)) (0) _ (by omega) (by omega) (by omega) (by omega) (by omega) (by omega) (by omega) (by first | exact ly_o1 tt75 (by omega) | exact ly_o0 (by omega) (by omega) tt75 (by omega)) (by omega) (by first | rfl | omega) (by (rw [pd_sum_S (by omega)]; omega)) (by omega)
          refine pw_iload d252_21 rfl ?_
          refine pw_iconst d252_23 ?_
          refine pw_icmp_ge d252_24 rfl (by omega) (by omega) (fun c24 => ?_) (fun c24 => ?_)
          · refine pw_iload_n d252_103 rfl ?_
            refine pw_iload d252_104 rfl ?_
            refine pw_aload_n d252_106 rfl ?_
            refine pw_iload_n d252_107 rfl ?_
            refine pw_iconst d252_108 ?_
            refine pw_callV2 d252_109 k252_219 hT hA0 rfl rfl rfl (ct212 (τ := τ) (ρ := ρ) hT hA0 (by omega) (by omega)) (fun r109 h109 q109 => ?_)
            obtain ⟨eh109, z109, ez109, lz109, uz109, pz109_0, pz109_1⟩ := q109
            subst eh109
            subst ez109
            refine pw_iload d252_112 rfl ?_
            refine pw_isub d252_114 ?_
            refine pw_mmax d252_115 k252_301 rfl (by omega) (by omega) (fun z115 pz115 hz115 => ?_)
            refine pw_iadd d252_118 ?_
            refine pw_istore_n d252_119 m252 rfl rfl ?_
            refine pw_iinc d252_120 m252 rfl rfl rfl ?_
            refine pw_goto d252_123 rfl ?_
            exact ih4 ((xL2_4 + z115)) ((xL3_4 + 1)) _ _ _ (by omega) (by omega) (by omega) (by first | rfl | exact ly_l i0_21 i1_21 (by omega) (by omega) pz109_0 pz115 hz115 i0_4) (by first | exact hw1 | omega) (by omega) (by omega)
          · refine pw_iload d252_27 rfl ?_
            refine pw_iload_n d252_29 rfl ?_
            refine pw_aload_n d252_30 rfl ?_
            refine pw_iload_n d252_31 rfl ?_
            refine pw_iload d252_32 rfl ?_
            refine pw_callV2 d252_34 k252_219 hT hA0 rfl rfl rfl (ct212 (τ := τ) (ρ := ρ) hT hA0 (by omega) (by omega)) (fun r34 h34 q34 => ?_)
            obtain ⟨eh34, z34, ez34, lz34, uz34, pz34_0, pz34_1⟩ := q34
            subst eh34
            subst ez34
            refine pw_ishr d252_37 (fun z37 hz37 ez37 => ?_)
            refine pw_iconst d252_38 ?_
            refine pw_iand d252_39 (fun z39 hz39 ez39 => ?_)
            have bz39 := pv_and1_b hz39 ez39
            have tt40 := ly_bit (by omega) (by omega) (by omega) pz34_0 (pb_tst (x := x1) (i := z34) (by omega) (by omega) hz39 ez37 ez39)
            refine pw_iconst d252_40 ?_
            refine pw_icmp_ne d252_41 rfl (by omega) (by omega) (fun c41 => ?_) (fun c41 => ?_)
            · refine pw_iconst d252_58 ?_
              exact J59 (0) _ (by omega) (by omega) (by omega) (by omega) (by omega) (by omega) (by omega) (by first | exact ly_i1 (by omega) (by omega) tt40 (by omega) | exact ly_i0 tt40 (by omega)) (by omega) (by first | rfl | omega) (by first | rfl | omega)
            · refine pw_aload_n d252_44 rfl ?_
              refine pw_getR d252_45 g252_37 hT hA0 rfl rfl (fun t45 => ?_)
              have t45 : τ (ρ a0 16) = some 47 := t45
              refine pw_iconst d252_48 ?_
              refine pw_iload_n d252_49 rfl ?_
              refine pw_imul d252_50 ?_
              refine pw_iload d252_51 rfl ?_
              refine pw_iadd d252_53 ?_
              refine pw_iald d252_54 hT t45 rfl rfl (by omega) (by omega) (fun u54 vu54 => ?_)
              have b54 := (hP0 (3 * xL3_4 + xL6_21).toNat (by omega)).1
              refine pw_goto d252_55 rfl ?_
              exact J59 ((pv_aI h (ρ a0 16) (((3 * xL3_4) + xL6_21)).toNat)) _ (by omega) (by omega) (by omega) (by omega) (by omega) (by omega) (by omega) (by first | exact ly_i1 (by omega) (by omega) tt40 (by omega) | exact ly_i0 tt40 (by omega)) (by omega) (by first | rfl | omega) (by first | rfl | omega)
      refine pw_iload_n d252_4 rfl ?_
      refine pw_aload_n d252_5 rfl ?_
      refine pw_callV0 d252_6 k252_216 hT hA0 rfl rfl rfl (ct216 (τ := τ) (ρ := ρ) hT hA0) (fun r6 h6 q6 => ?_)
      obtain ⟨eh6, z6, ez6, lz6, uz6, pz6_0⟩ := q6
      subst eh6
      subst ez6
      refine pw_icmp_ge d252_9 rfl (by omega) (by omega) (fun c9 => ?_) (fun c9 => ?_)
      · refine pw_iload_n d252_126 rfl ?_
        exact pw_ireturn d252_127 tt252 ⟨rfl, xL2_4, rfl, (by omega), (by omega), (by rw [show pr_n (pv_aI h (ρ a0 1)) = (xL3_4).toNat from (show (pv_aI h (ρ a0 1) (1 : Int).toNat).toNat = _ by omega)]; exact i0_4)⟩
      · refine pw_iconst d252_12 ?_
        refine pw_istore d252_13 m252 rfl rfl ?_
        refine pw_iconst d252_15 ?_
        refine pw_istore d252_16 m252 rfl rfl ?_
        refine pw_iconst d252_18 ?_
        refine pw_istore d252_19 m252 rfl rfl ?_
        exact L21 _ (0) (0) (0) (by omega) (by omega) (by omega) (by omega) (by omega) (by omega) (by first | rfl | exact i3_94) (by first | rfl | (rw [pd_sum_S (by omega)]; omega)) (by omega) (by omega) (pv_mu _)
  have hw1 : 0 ≤ pv_aI h (ρ a0 1) (1 : Int).toNat := (hT.wc hR0_1 (j := 1) rfl (by decide)).2.2.1 (by decide) |>.1
  refine pw_iconst d252_0 ?_
  refine pw_istore_n d252_1 m252 rfl rfl ?_
  refine pw_iconst d252_2 ?_
  refine pw_istore_n d252_3 m252 rfl rfl ?_
  exact L4 _ (0) (0) _ _ _ (by omega) (by omega) (by omega) (by first | rfl | exact ly_l i0_21 i1_21 (by omega) (by omega) pz109_0 pz115 hz115 i0_4) (by first | exact hw1 | omega) (by omega) (pv_mu _)
