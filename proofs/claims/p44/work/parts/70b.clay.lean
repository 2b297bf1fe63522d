abbrev Q251F (τ : Nat → Option Nat) (ρ : Nat → Nat → Nat) (h : pv_H) (a0 : Nat) (x1 : Int) : Option Value → pv_H → Prop := fun r h' => h = h' ∧ ∃ z : Int, r = some (.int (pv_I z)) ∧ (-19440) ≤ z ∧ z ≤ 19440 ∧ (z = pd_sum (pr_n (pv_aI h (ρ a0 1))) (ph_m (pl_c (pv_aI h (ρ a0 1))) (pl_s (pv_aI h (ρ a0 1))) (pv_aI h (ρ a0 17)) (pv_aI h (ρ a0 16)) (x1).toNat))
set_option maxHeartbeats 4000000 in
set_option maxRecDepth 20000 in
/-- AngleNetModel.mostAt(I)I -/
theorem ct251F {τ : Nat → Option Nat} {ρ : Nat → Nat → Nat} {K : Nat → Nat} {h : pv_H} {a0 : Nat} {x1 : Int} (hT : pv_Ty τ ρ h) (hA0 : τ a0 = some 7) (hX1 : 0 ≤ x1 ∧ x1 ≤ 1023) (hP0 : pl_b (pv_aI h (ρ a0 1)) (pv_aI h (ρ a0 16)) (pv_aI h (ρ a0 17))) : pv_C K 251 [.ref a0, .int (pv_I x1)] h (Q251F τ ρ h a0 x1) := by
  refine pw_entry 5 ?_
  show pv_T K 251 0 (pv_fl [some (.ref a0), some (.int (pv_I x1)), none, none, none, none, none]) [] h (Q251F τ ρ h a0 x1)
  have hR0_1 : τ (ρ a0 1) = some 40 := hT.rf (t' := 40) hA0 rfl rfl
  have hR0_16 : τ (ρ a0 16) = some 47 := hT.rf (t' := 47) hA0 rfl rfl
  have hR0_17 : τ (ρ a0 17) = some 48 := hT.rf (t' := 48) hA0 rfl rfl
  have L4 : ∀ (nn : Nat) (xL2_4 xL3_4 : Int) (o4_4 o5_4 o6_4 : Option Value), (0 ≤ x1 ∧ x1 ≤ 1023) → ((-19440) ≤ xL2_4 ∧ xL2_4 ≤ 19440) → (0 ≤ xL3_4 ∧ xL3_4 ≤ 18) → (xL2_4 = pd_sum (xL3_4).toNat (ph_m (pl_c (pv_aI h (ρ a0 1))) (pl_s (pv_aI h (ρ a0 1))) (pv_aI h (ρ a0 17)) (pv_aI h (ρ a0 16)) (x1).toNat)) → (xL3_4 ≤ pv_aI h (ρ a0 1) (1 : Int).toNat) → (-1080 * xL3_4 ≤ xL2_4 ∧ xL2_4 ≤ 1080 * xL3_4) → 18 - xL3_4 < nn → pv_T K 251 4 (pv_fl [some (.ref a0), some (.int (pv_I x1)), some (.int (pv_I xL2_4)), some (.int (pv_I xL3_4)), o4_4, o5_4, o6_4]) [] h (Q251F τ ρ h a0 x1) := by
    intro nn
    induction nn with
    | zero => intro xL2_4 xL3_4 o4_4 o5_4 o6_4 rL1_4 rL2_4 rL3_4 i0_4 i1_4 i2_4 hm; exfalso; omega
    | succ nn ih4 =>
      intro xL2_4 xL3_4 o4_4 o5_4 o6_4 rL1_4 rL2_4 rL3_4 i0_4 i1_4 i2_4 hm4
      have L21 : ∀ (nn : Nat) (xL4_21 xL5_21 xL6_21 : Int), (0 ≤ x1 ∧ x1 ≤ 1023) → ((-1000000) ≤ xL2_4 ∧ xL2_4 ≤ 100000) → (0 ≤ xL3_4 ∧ xL3_4 ≤ 17) → (0 ≤ xL4_21 ∧ xL4_21 ≤ 1080) → (0 ≤ xL5_21 ∧ xL5_21 ≤ 1080) → (0 ≤ xL6_21 ∧ xL6_21 ≤ 3) → (xL4_21 = pd_sum (xL6_21).toNat (ph_i (x1).toNat (pl_c (pv_aI h (ρ a0 1))) (pv_aI h (ρ a0 17)) (xL3_4).toNat)) → (xL5_21 = pd_sum (xL6_21).toNat (ph_o (x1).toNat (pl_c (pv_aI h (ρ a0 1))) (pv_aI h (ρ a0 16)) (xL3_4).toNat)) → (0 ≤ xL4_21 ∧ xL4_21 ≤ 360 * xL6_21 ∧ 0 ≤ xL5_21 ∧ xL5_21 ≤ 360 * xL6_21) → (xL3_4 < pv_aI h (ρ a0 1) (1 : Int).toNat) → 3 - xL6_21 < nn → pv_T K 251 21 (pv_fl [some (.ref a0), some (.int (pv_I x1)), some (.int (pv_I xL2_4)), some (.int (pv_I xL3_4)), some (.int (pv_I xL4_21)), some (.int (pv_I xL5_21)), some (.int (pv_I xL6_21))]) [] h (Q251F τ ρ h a0 x1) := by
        intro nn
        induction nn with
        | zero => intro xL4_21 xL5_21 xL6_21 rL1_21 rL2_21 rL3_21 rL4_21 rL5_21 rL6_21 i0_21 i1_21 i2_21 i3_21 hm; exfalso; omega
        | succ nn ih21 =>
          intro xL4_21 xL5_21 xL6_21 rL1_21 rL2_21 rL3_21 rL4_21 rL5_21 rL6_21 i0_21 i1_21 i2_21 i3_21 hm21
          have J94 : ∀ (xL4_94 xS0_94 : Int) (o5_94 : Option Value), (0 ≤ x1 ∧ x1 ≤ 1023) → ((-1000000) ≤ xL2_4 ∧ xL2_4 ≤ 100000) → (0 ≤ xL3_4 ∧ xL3_4 ≤ 17) → (0 ≤ xL4_94 ∧ xL4_94 ≤ 1080) → (0 ≤ xL6_21 ∧ xL6_21 ≤ 2) → (0 ≤ xS0_94 ∧ xS0_94 ≤ 360) → (0 ≤ xL5_21 ∧ xL5_21 ≤ 1080) → (xS0_94 = ph_o (x1).toNat (pl_c (pv_aI h (ρ a0 1))) (pv_aI h (ρ a0 16)) (xL3_4).toNat (xL6_21).toNat) → (0 ≤ xS0_94 ∧ xS0_94 ≤ 360) → (xL5_21 = xL5_21) → (xL4_94 = pd_sum (xL6_21 + 1).toNat (ph_i (x1).toNat (pl_c (pv_aI h (ρ a0 1))) (pv_aI h (ρ a0 17)) (xL3_4).toNat)) → (0 ≤ xL4_94 ∧ xL4_94 ≤ 360 * (xL6_21 + 1)) → pv_T K 251 94 (pv_fl [some (.ref a0), some (.int (pv_I x1)), some (.int (pv_I xL2_4)), some (.int (pv_I xL3_4)), some (.int (pv_I xL4_94)), o5_94, some (.int (pv_I xL6_21))]) [.int (pv_I xS0_94), .int (pv_I xL5_21)] h (Q251F τ ρ h a0 x1) := by
            intro xL4_94 xS0_94 o5_94 rL1_94 rL2_94 rL3_94 rL4_94 rL6_94 rS0_94 rS1_94 i0_94 i1_94 i2_94 i3_94 i4_94
            refine pw_iadd d251_94 ?_
            refine pw_istore d251_95 m251 rfl rfl ?_
            refine pw_iinc d251_97 m251 rfl rfl rfl ?_
            refine pw_goto d251_100 rfl ?_
            exact ih21 (xL4_94) ((xL5_21 + xS0_94)) ((xL6_21 + 1)) (by omega) (by omega) (by omega) (by omega) (by omega) (by omega) (by first | rfl | exact i3_94) (by first | rfl | (rw [pd_sum_S (by omega)]; omega)) (by omega) (by omega) (by omega)
          have J59 : ∀ (xS0_59 : Int) (o4_59 : Option Value), (0 ≤ x1 ∧ x1 ≤ 1023) → ((-1000000) ≤ xL2_4 ∧ xL2_4 ≤ 100000) → (0 ≤ xL3_4 ∧ xL3_4 ≤ 17) → (0 ≤ xL5_21 ∧ xL5_21 ≤ 1080) → (0 ≤ xL6_21 ∧ xL6_21 ≤ 2) → (0 ≤ xS0_59 ∧ xS0_59 ≤ 360) → (0 ≤ xL4_21 ∧ xL4_21 ≤ 1080) → (xS0_59 = ph_i (x1).toNat (pl_c (pv_aI h (ρ a0 1))) (pv_aI h (ρ a0 17)) (xL3_4).toNat (xL6_21).toNat) → (0 ≤ xS0_59 ∧ xS0_59 ≤ 360) → (xL4_21 = xL4_21) → (xL5_21 = xL5_21) → pv_T K 251 59 (pv_fl [some (.ref a0), some (.int (pv_I x1)), some (.int (pv_I xL2_4)), some (.int (pv_I xL3_4)), o4_59, some (.int (pv_I xL5_21)), some (.int (pv_I xL6_21))]) [.int (pv_I xS0_59), .int (pv_I xL4_21)] h (Q251F τ ρ h a0 x1) := by
            intro xS0_59 o4_59 rL1_59 rL2_59 rL3_59 rL5_59 rL6_59 rS0_59 rS1_59 i0_59 i1_59 i2_59 i3_59
            refine pw_iadd d251_59 ?_
            refine pw_istore d251_60 m251 rfl rfl ?_
            refine pw_iload d251_62 rfl ?_
            refine pw_iload_n d251_64 rfl ?_
            refine pw_aload_n d251_65 rfl ?_
            refine pw_iload_n d251_66 rfl ?_
            refine pw_iload d251_67 rfl ?_
            refine pw_callV2 d251_69 k251_219 hT hA0 rfl rfl rfl (ct212 (τ := τ) (ρ := ρ) hT hA0 (by omega) (by omega)) (fun r69 h69 q69 => ?_)
            obtain ⟨eh69, z69, ez69, lz69, uz69, pz69_0, pz69_1⟩ := q69
            subst eh69
            subst ez69
            refine pw_ishr d251_72 (fun z72 hz72 ez72 => ?_)
            refine pw_iconst d251_73 ?_
            refine pw_iand d251_74 (fun z74 hz74 ez74 => ?_)
            have bz74 := pv_and1_b hz74 ez74
            have tt75 := ly_bit (by omega) (by omega) (by omega) pz69_0 (pb_tst (x := x1) (i := z69) (by omega) (by omega) hz74 ez72 ez74)
            refine pw_iconst d251_75 ?_
            refine pw_icmp_ne d251_76 rfl (by omega) (by omega) (fun c76 => ?_) (fun c76 => ?_)
            · refine pw_aload_n d251_83 rfl ?_
              refine pw_getR d251_84 g251_37 hT hA0 rfl rfl (fun t84 => ?_)
              have t84 : τ (ρ a0 16) = some 47 := t84
              refine pw_iconst d251_87 ?_
              refine pw_iload_n d251_88 rfl ?_
              refine pw_imul d251_89 ?_
              refine pw_iload d251_90 rfl ?_
              refine pw_iadd d251_92 ?_
              refine pw_iald d251_93 hT t84 rfl rfl (by omega) (by omega) (fun u93 vu93 => ?_)
              have b93 := (hP0 (3 * xL3_4 + xL6_21).toNat (by omega)).1
              exact J94 ((xL4_21 + xS0_59)) ((pv_aI h (ρ a0 16) (((3 * xL3_4) + xL6_21)).toNat)) _ (by omega) (by omega) (by omega) (by omega) (by omega) (by omega) (by omega) (by first | exact ly_o1 tt75 (by omega) | exact ly_o0 (by omega) (by omega) tt75 (by omega)) (by omega) (by first | rfl | omega) (by (rw [pd_sum_S (by omega)]; omega)) (by omega)
            · refine pw_iconst d251_79 ?_
              refine pw_goto d251_80 rfl ?_
              exact J94 ((xL4_21 + xS0_59)) (0) _ (by omega) (by omega) (by omega) (by omega) (by omega) (by omega) (by omega) (by first | exact ly_o1 tt75 (by omega) | exact ly_o0 (by omega) (by omega) tt75 (by omega)) (by omega) (by first | rfl | omega) (by (rw [pd_sum_S (by omega)]; omega)) (by omega)
          refine pw_iload d251_21 rfl ?_
          refine pw_iconst d251_23 ?_
          refine pw_icmp_ge d251_24 rfl (by omega) (by omega) (fun c24 => ?_) (fun c24 => ?_)
          · refine pw_iload_n d251_103 rfl ?_
            refine pw_iload d251_104 rfl ?_
            refine pw_aload_n d251_106 rfl ?_
            refine pw_iload_n d251_107 rfl ?_
            refine pw_iconst d251_108 ?_
            refine pw_callV2 d251_109 k251_219 hT hA0 rfl rfl rfl (ct212 (τ := τ) (ρ := ρ) hT hA0 (by omega) (by omega)) (fun r109 h109 q109 => ?_)
            obtain ⟨eh109, z109, ez109, lz109, uz109, pz109_0, pz109_1⟩ := q109
            subst eh109
            subst ez109
            refine pw_iload d251_112 rfl ?_
            refine pw_isub d251_114 ?_
            refine pw_mmin d251_115 k251_112 rfl (by omega) (by omega) (fun z115 pz115 hz115 => ?_)
            refine pw_iadd d251_118 ?_
            refine pw_istore_n d251_119 m251 rfl rfl ?_
            refine pw_iinc d251_120 m251 rfl rfl rfl ?_
            refine pw_goto d251_123 rfl ?_
            exact ih4 ((xL2_4 + z115)) ((xL3_4 + 1)) _ _ _ (by omega) (by omega) (by omega) (by first | rfl | exact ly_m i0_21 i1_21 (by omega) (by omega) pz109_0 pz115 hz115 i0_4) (by first | exact hw1 | omega) (by omega) (by omega)
          · refine pw_iload d251_27 rfl ?_
            refine pw_iload_n d251_29 rfl ?_
            refine pw_aload_n d251_30 rfl ?_
            refine pw_iload_n d251_31 rfl ?_
            refine pw_iload d251_32 rfl ?_
            refine pw_callV2 d251_34 k251_219 hT hA0 rfl rfl rfl (ct212 (τ := τ) (ρ := ρ) hT hA0 (by omega) (by omega)) (fun r34 h34 q34 => ?_)
            obtain ⟨eh34, z34, ez34, lz34, uz34, pz34_0, pz34_1⟩ := q34
            subst eh34
            subst ez34
            refine pw_ishr d251_37 (fun z37 hz37 ez37 => ?_)
            refine pw_iconst d251_38 ?_
            refine pw_iand d251_39 (fun z39 hz39 ez39 => ?_)
            have bz39 := pv_and1_b hz39 ez39
            have tt40 := ly_bit (by omega) (by omega) (by omega) pz34_0 (pb_tst (x := x1) (i := z34) (by omega) (by omega) hz39 ez37 ez39)
            refine pw_iconst d251_40 ?_
            refine pw_icmp_ne d251_41 rfl (by omega) (by omega) (fun c41 => ?_) (fun c41 => ?_)
            · refine pw_iconst d251_58 ?_
              exact J59 (0) _ (by omega) (by omega) (by omega) (by omega) (by omega) (by omega) (by omega) (by first | exact ly_i1 (by omega) (by omega) tt40 (by omega) | exact ly_i0 tt40 (by omega)) (by omega) (by first | rfl | omega) (by first | rfl | omega)
            · refine pw_aload_n d251_44 rfl ?_
              refine pw_getR d251_45 g251_40 hT hA0 rfl rfl (fun t45 => ?_)
              have t45 : τ (ρ a0 17) = some 48 := t45
              refine pw_iconst d251_48 ?_
              refine pw_iload_n d251_49 rfl ?_
              refine pw_imul d251_50 ?_
              refine pw_iload d251_51 rfl ?_
              refine pw_iadd d251_53 ?_
              refine pw_iald d251_54 hT t45 rfl rfl (by omega) (by omega) (fun u54 vu54 => ?_)
              have b54 := (hP0 (3 * xL3_4 + xL6_21).toNat (by omega)).2
              refine pw_goto d251_55 rfl ?_
              exact J59 ((pv_aI h (ρ a0 17) (((3 * xL3_4) + xL6_21)).toNat)) _ (by omega) (by omega) (by omega) (by omega) (by omega) (by omega) (by omega) (by first | exact ly_i1 (by omega) (by omega) tt40 (by omega) | exact ly_i0 tt40 (by omega)) (by omega) (by first | rfl | omega) (by first | rfl | omega)
      refine pw_iload_n d251_4 rfl ?_
      refine pw_aload_n d251_5 rfl ?_
      refine pw_callV0 d251_6 k251_216 hT hA0 rfl rfl rfl (ct216 (τ := τ) (ρ := ρ) hT hA0) (fun r6 h6 q6 => ?_)
      obtain ⟨eh6, z6, ez6, lz6, uz6, pz6_0⟩ := q6
      subst eh6
      subst ez6
      refine pw_icmp_ge d251_9 rfl (by omega) (by omega) (fun c9 => ?_) (fun c9 => ?_)
      · refine pw_iload_n d251_126 rfl ?_
        exact pw_ireturn d251_127 tt251 ⟨rfl, xL2_4, rfl, (by omega), (by omega), (by rw [show pr_n (pv_aI h (ρ a0 1)) = (xL3_4).toNat from (show (pv_aI h (ρ a0 1) (1 : Int).toNat).toNat = _ by omega)]; exact i0_4)⟩
      · refine pw_iconst d251_12 ?_
        refine pw_istore d251_13 m251 rfl rfl ?_
        refine pw_iconst d251_15 ?_
        refine pw_istore d251_16 m251 rfl rfl ?_
        refine pw_iconst d251_18 ?_
        refine pw_istore d251_19 m251 rfl rfl ?_
        exact L21 _ (0) (0) (0) (by omega) (by omega) (by omega) (by omega) (by omega) (by omega) (by first | rfl | exact i3_94) (by first | rfl | (rw [pd_sum_S (by omega)]; omega)) (by omega) (by omega) (pv_mu _)
  have hw1 : 0 ≤ pv_aI h (ρ a0 1) (1 : Int).toNat := (hT.wc hR0_1 (j := 1) rfl (by decide)).2.2.1 (by decide) |>.1
  refine pw_iconst d251_0 ?_
  refine pw_istore_n d251_1 m251 rfl rfl ?_
  refine pw_iconst d251_2 ?_
  refine pw_istore_n d251_3 m251 rfl rfl ?_
  exact L4 _ (0) (0) _ _ _ (by omega) (by omega) (by omega) (by first | rfl | exact ly_m i0_21 i1_21 (by omega) (by omega) pz109_0 pz115 hz115 i0_4) (by first | exact hw1 | omega) (by omega) (pv_mu _)

abbrev Q252F (τ : Nat → Option Nat) (ρ : Nat → Nat → Nat) (h : pv_H) (a0 : Nat) (x1 : Int) : Option Value → pv_H → Prop := fun r h' => h = h' ∧ ∃ z : Int, r = some (.int (pv_I z)) ∧ (-19440) ≤ z ∧ z ≤ 19440 ∧ (z = pd_sum (pr_n (pv_aI h (ρ a0 1))) (ph_l (pl_c (pv_aI h (ρ a0 1))) (pl_s (pv_aI h (ρ a0 1))) (pv_aI h (ρ a0 17)) (pv_aI h (ρ a0 16)) (x1).toNat))
set_option maxHeartbeats 4000000 in
set_option maxRecDepth 20000 in
/-- AngleNetModel.leastAt(I)I -/
theorem ct252F {τ : Nat → Option Nat} {ρ : Nat → Nat → Nat} {K : Nat → Nat} {h : pv_H} {a0 : Nat} {x1 : Int} (hT : pv_Ty τ ρ h) (hA0 : τ a0 = some 7) (hX1 : 0 ≤ x1 ∧ x1 ≤ 1023) (hP0 : pl_b (pv_aI h (ρ a0 1)) (pv_aI h (ρ a0 16)) (pv_aI h (ρ a0 17))) : pv_C K 252 [.ref a0, .int (pv_I x1)] h (Q252F τ ρ h a0 x1) := by
  refine pw_entry 5 ?_
  show pv_T K 252 0 (pv_fl [some (.ref a0), some (.int (pv_I x1)), none, none, none, none, none]) [] h (Q252F τ ρ h a0 x1)
  have hR0_1 : τ (ρ a0 1) = some 40 := hT.rf (t' := 40) hA0 rfl rfl
  have hR0_16 : τ (ρ a0 16) = some 47 := hT.rf (t' := 47) hA0 rfl rfl
  have hR0_17 : τ (ρ a0 17) = some 48 := hT.rf (t' := 48) hA0 rfl rfl
  have L4 : ∀ (nn : Nat) (xL2_4 xL3_4 : Int) (o4_4 o5_4 o6_4 : Option Value), (0 ≤ x1 ∧ x1 ≤ 1023) → ((-19440) ≤ xL2_4 ∧ xL2_4 ≤ 19440) → (0 ≤ xL3_4 ∧ xL3_4 ≤ 18) → (xL2_4 = pd_sum (xL3_4).toNat (ph_l (pl_c (pv_aI h (ρ a0 1))) (pl_s (pv_aI h (ρ a0 1))) (pv_aI h (ρ a0 17)) (pv_aI h (ρ a0 16)) (x1).toNat)) → (xL3_4 ≤ pv_aI h (ρ a0 1) (1 : Int).toNat) → (-1080 * xL3_4 ≤ xL2_4 ∧ xL2_4 ≤ 1080 * xL3_4) → 18 - xL3_4 < nn → pv_T K 252 4 (pv_fl [some (.ref a0), some (.int (pv_I x1)), some (.int (pv_I xL2_4)), some (.int (pv_I xL3_4)), o4_4, o5_4, o6_4]) [] h (Q252F τ ρ h a0 x1) := by
    intro nn
    induction nn with
    | zero => intro xL2_4 xL3_4 o4_4 o5_4 o6_4 rL1_4 rL2_4 rL3_4 i0_4 i1_4 i2_4 hm; exfalso; omega
    | succ nn ih4 =>
      intro xL2_4 xL3_4 o4_4 o5_4 o6_4 rL1_4 rL2_4 rL3_4 i0_4 i1_4 i2_4 hm4
      have L21 : ∀ (nn : Nat) (xL4_21 xL5_21 xL6_21 : Int), (0 ≤ x1 ∧ x1 ≤ 1023) → ((-1000000) ≤ xL2_4 ∧ xL2_4 ≤ 100000) → (0 ≤ xL3_4 ∧ xL3_4 ≤ 17) → (0 ≤ xL4_21 ∧ xL4_21 ≤ 1080) → (0 ≤ xL5_21 ∧ xL5_21 ≤ 1080) → (0 ≤ xL6_21 ∧ xL6_21 ≤ 3) → (xL4_21 = pd_sum (xL6_21).toNat (ph_i (x1).toNat (pl_c (pv_aI h (ρ a0 1))) (pv_aI h (ρ a0 16)) (xL3_4).toNat)) → (xL5_21 = pd_sum (xL6_21).toNat (ph_o (x1).toNat (pl_c (pv_aI h (ρ a0 1))) (pv_aI h (ρ a0 17)) (xL3_4).toNat)) → (0 ≤ xL4_21 ∧ xL4_21 ≤ 360 * xL6_21 ∧ 0 ≤ xL5_21 ∧ xL5_21 ≤ 360 * xL6_21) → (xL3_4 < pv_aI h (ρ a0 1) (1 : Int).toNat) → 3 - xL6_21 < nn → pv_T K 252 21 (pv_fl [some (.ref a0), some (.int (pv_I x1)), some (.int (pv_I xL2_4)), some (.int (pv_I xL3_4)), some (.int (pv_I xL4_21)), some (.int (pv_I xL5_21)), some (.int (pv_I xL6_21))]) [] h (Q252F τ ρ h a0 x1) := by
        intro nn
        induction nn with
        | zero => intro xL4_21 xL5_21 xL6_21 rL1_21 rL2_21 rL3_21 rL4_21 rL5_21 rL6_21 i0_21 i1_21 i2_21 i3_21 hm; exfalso; omega
        | succ nn ih21 =>
          intro xL4_21 xL5_21 xL6_21 rL1_21 rL2_21 rL3_21 rL4_21 rL5_21 rL6_21 i0_21 i1_21 i2_21 i3_21 hm21
          have J94 : ∀ (xL4_94 xS0_94 : Int) (o5_94 : Option Value), (0 ≤ x1 ∧ x1 ≤ 1023) → ((-1000000) ≤ xL2_4 ∧ xL2_4 ≤ 100000) → (0 ≤ xL3_4 ∧ xL3_4 ≤ 17) → (0 ≤ xL4_94 ∧ xL4_94 ≤ 1080) → (0 ≤ xL6_21 ∧ xL6_21 ≤ 2) → (0 ≤ xS0_94 ∧ xS0_94 ≤ 360) → (0 ≤ xL5_21 ∧ xL5_21 ≤ 1080) → (xS0_94 = ph_o (x1).toNat (pl_c (pv_aI h (ρ a0 1))) (pv_aI h (ρ a0 17)) (xL3_4).toNat (xL6_21).toNat) → (0 ≤ xS0_94 ∧ xS0_94 ≤ 360) → (xL5_21 = xL5_21) → (xL4_94 = pd_sum (xL6_21 + 1).toNat (ph_i (x1).toNat (pl_c (pv_aI h (ρ a0 1))) (pv_aI h (ρ a0 16)) (xL3_4).toNat)) → (0 ≤ xL4_94 ∧ xL4_94 ≤ 360 * (xL6_21 + 1)) → pv_T K 252 94 (pv_fl [some (.ref a0), some (.int (pv_I x1)), some (.int (pv_I xL2_4)), some (.int (pv_I xL3_4)), some (.int (pv_I xL4_94)), o5_94, some (.int (pv_I xL6_21))]) [.int (pv_I xS0_94), .int (pv_I xL5_21)] h (Q252F τ ρ h a0 x1) := by
            intro xL4_94 xS0_94 o5_94 rL1_94 rL2_94 rL3_94 rL4_94 rL6_94 rS0_94 rS1_94 i0_94 i1_94 i2_94 i3_94 i4_94
            refine pw_iadd d252_94 ?_
            refine pw_istore d252_95 m252 rfl rfl ?_
            refine pw_iinc d252_97 m252 rfl rfl rfl ?_
            refine pw_goto d252_100 rfl ?_
            exact ih21 (xL4_94) ((xL5_21 + xS0_94)) ((xL6_21 + 1)) (by omega) (by omega) (by omega) (by omega) (by omega) (by omega) (by first | rfl | exact i3_94) (by first | rfl | (rw [pd_sum_S (by omega)]; omega)) (by omega) (by omega) (by omega)
          have J59 : ∀ (xS0_59 : Int) (o4_59 : Option Value), (0 ≤ x1 ∧ x1 ≤ 1023) → ((-1000000) ≤ xL2_4 ∧ xL2_4 ≤ 100000) → (0 ≤ xL3_4 ∧ xL3_4 ≤ 17) → (0 ≤ xL5_21 ∧ xL5_21 ≤ 1080) → (0 ≤ xL6_21 ∧ xL6_21 ≤ 2) → (0 ≤ xS0_59 ∧ xS0_59 ≤ 360) → (0 ≤ xL4_21 ∧ xL4_21 ≤ 1080) → (xS0_59 = ph_i (x1).toNat (pl_c (pv_aI h (ρ a0 1))) (pv_aI h (ρ a0 16)) (xL3_4).toNat (xL6_21).toNat) → (0 ≤ xS0_59 ∧ xS0_59 ≤ 360) → (xL4_21 = xL4_21) → (xL5_21 = xL5_21) → pv_T K 252 59 (pv_fl [some (.ref a0), some (.int (pv_I x1)), some (.int (pv_I xL2_4)), some (.int (pv_I xL3_4)), o4_59, some (.int (pv_I xL5_21)), some (.int (pv_I xL6_21))]) [.int (pv_I xS0_59), .int (pv_I xL4_21)] h (Q252F τ ρ h a0 x1) := by
            intro xS0_59 o4_59 rL1_59 rL2_59 rL3_59 rL5_59 rL6_59 rS0_59 rS1_59 i0_59 i1_59 i2_59 i3_59
            refine pw_iadd d252_59 ?_
            refine pw_istore d252_60 m252 rfl rfl ?_
            refine pw_iload d252_62 rfl ?_
            refine pw_iload_n d252_64 rfl ?_
            refine pw_aload_n d252_65 rfl ?_
            refine pw_iload_n d252_66 rfl ?_
            refine pw_iload d252_67 rfl ?_
            refine pw_callV2 d252_69 k252_219 hT hA0 rfl rfl rfl (ct212 (τ := τ) (ρ := ρ) hT hA0 (by omega) (by omega)) (fun r69 h69 q69 => ?_)
            obtain ⟨eh69, z69, ez69, lz69, uz69, pz69_0, pz69_1⟩ := q69
            subst eh69
            subst ez69
            refine pw_ishr d252_72 (fun z72 hz72 ez72 => ?_)
            refine pw_iconst d252_73 ?_
            refine pw_iand d252_74 (fun z74 hz74 ez74 => ?_)
            have bz74 := pv_and1_b hz74 ez74
            have tt75 := ly_bit (by omega) (by omega) (by omega) pz69_0 (pb_tst (x := x1) (i := z69) (by omega) (by omega) hz74 ez72 ez74)
            refine pw_iconst d252_75 ?_
            refine pw_icmp_ne d252_76 rfl (by omega) (by omega) (fun c76 => ?_) (fun c76 => ?_)
            · refine pw_aload_n d252_83 rfl ?_
              refine pw_getR d252_84 g252_40 hT hA0 rfl rfl (fun t84 => ?_)
              have t84 : τ (ρ a0 17) = some 48 := t84
              refine pw_iconst d252_87 ?_
              refine pw_iload_n d252_88 rfl ?_
              refine pw_imul d252_89 ?_
              refine pw_iload d252_90 rfl ?_
              refine pw_iadd d252_92 ?_
              refine pw_iald d252_93 hT t84 rfl rfl (by omega) (by omega) (fun u93 vu93 => ?_)
              have b93 := (hP0 (3 * xL3_4 + xL6_21).toNat (by omega)).2
              exact J94 ((xL4_21 + xS0_59)) ((pv_aI h (ρ a0 17) (((3 * xL3_4) + xL6_21)).toNat)) _ (by omega) (by omega) (by omega) (by omega) (by omega) (by omega) (by omega) (by first | exact ly_o1 tt75 (by omega) | exact ly_o0 (by omega) (by omega) tt75 (by omega)) (by omega) (by first | rfl | omega) (by (rw [pd_sum_S (by omega)]; omega)) (by omega)
            · refine pw_iconst d252_79 ?_
              refine pw_goto d252_80 rfl ?_
              exact J94 ((xL4_21 + xS0_59)) (0) _ (by omega) (by omega) (by omega) (by omega) (by omega) (by omega) (by omega) (by first | exact ly_o1 tt75 (by omega) | exact ly_o0 (by omega) (by omega) tt75 (by omega)) (by omega) (by first | rfl | omega) (by (rw [pd_sum_S (by omega)]; omega)) (by omega)
          refine pw_iload d252_21 rfl ?_
          refine pw_iconst d252_23 ?_
          refine pw_icmp_ge d252_24 rfl (by omega) (by omega) (fun c24 => ?_) (fun c24 => ?_)
          · refine pw_iload_n d252_103 rfl ?_
            refine pw_iload d252_104 rfl ?_
            refine pw_aload_n d252_106 rfl ?_
            refine pw_iload_n d252_107 rfl ?_
            refine pw_iconst d252_108 ?_
            refine pw_callV2 d252_109 k252_219 hT hA0 rfl rfl rfl (ct212 (τ := τ) (ρ := ρ) hT hA0 (by omega) (by omega)) (fun r109 h109 q109 => ?_)
            obtain ⟨eh109, z109, ez109, lz109, uz109, pz109_0, pz109_1⟩ := q109
            subst eh109
            subst ez109
            refine pw_iload d252_112 rfl ?_
            refine pw_isub d252_114 ?_
            refine pw_mmax d252_115 k252_301 rfl (by omega) (by omega) (fun z115 pz115 hz115 => ?_)
            refine pw_iadd d252_118 ?_
            refine pw_istore_n d252_119 m252 rfl rfl ?_
            refine pw_iinc d252_120 m252 rfl rfl rfl ?_
            refine pw_goto d252_123 rfl ?_
            exact ih4 ((xL2_4 + z115)) ((xL3_4 + 1)) _ _ _ (by omega) (by omega) (by omega) (by first | rfl | exact ly_l i0_21 i1_21 (by omega) (by omega) pz109_0 pz115 hz115 i0_4) (by first | exact hw1 | omega) (by omega) (by omega)
          · refine pw_iload d252_27 rfl ?_
            refine pw_iload_n d252_29 rfl ?_
            refine pw_aload_n d252_30 rfl ?_
            refine pw_iload_n d252_31 rfl ?_
            refine pw_iload d252_32 rfl ?_
            refine pw_callV2 d252_34 k252_219 hT hA0 rfl rfl rfl (ct212 (τ := τ) (ρ := ρ) hT hA0 (by omega) (by omega)) (fun r34 h34 q34 => ?_)
            obtain ⟨eh34, z34, ez34, lz34, uz34, pz34_0, pz34_1⟩ := q34
            subst eh34
            subst ez34
            refine pw_ishr d252_37 (fun z37 hz37 ez37 => ?_)
            refine pw_iconst d252_38 ?_
            refine pw_iand d252_39 (fun z39 hz39 ez39 => ?_)
            have bz39 := pv_and1_b hz39 ez39
            have tt40 := ly_bit (by omega) (by omega) (by omega) pz34_0 (pb_tst (x := x1) (i := z34) (by omega) (by omega) hz39 ez37 ez39)
            refine pw_iconst d252_40 ?_
            refine pw_icmp_ne d252_41 rfl (by omega) (by omega) (fun c41 => ?_) (fun c41 => ?_)
            · refine pw_iconst d252_58 ?_
              exact J59 (0) _ (by omega) (by omega) (by omega) (by omega) (by omega) (by omega) (by omega) (by first | exact ly_i1 (by omega) (by omega) tt40 (by omega) | exact ly_i0 tt40 (by omega)) (by omega) (by first | rfl | omega) (by first | rfl | omega)
            · refine pw_aload_n d252_44 rfl ?_
              refine pw_getR d252_45 g252_37 hT hA0 rfl rfl (fun t45 => ?_)
              have t45 : τ (ρ a0 16) = some 47 := t45
              refine pw_iconst d252_48 ?_
              refine pw_iload_n d252_49 rfl ?_
              refine pw_imul d252_50 ?_
              refine pw_iload d252_51 rfl ?_
              refine pw_iadd d252_53 ?_
              refine pw_iald d252_54 hT t45 rfl rfl (by omega) (by omega) (fun u54 vu54 => ?_)
              have b54 := (hP0 (3 * xL3_4 + xL6_21).toNat (by omega)).1
              refine pw_goto d252_55 rfl ?_
              exact J59 ((pv_aI h (ρ a0 16) (((3 * xL3_4) + xL6_21)).toNat)) _ (by omega) (by omega) (by omega) (by omega) (by omega) (by omega) (by omega) (by first | exact ly_i1 (by omega) (by omega) tt40 (by omega) | exact ly_i0 tt40 (by omega)) (by omega) (by first | rfl | omega) (by first | rfl | omega)
      refine pw_iload_n d252_4 rfl ?_
      refine pw_aload_n d252_5 rfl ?_
      refine pw_callV0 d252_6 k252_216 hT hA0 rfl rfl rfl (ct216 (τ := τ) (ρ := ρ) hT hA0) (fun r6 h6 q6 => ?_)
      obtain ⟨eh6, z6, ez6, lz6, uz6, pz6_0⟩ := q6
      subst eh6
      subst ez6
      refine pw_icmp_ge d252_9 rfl (by omega) (by omega) (fun c9 => ?_) (fun c9 => ?_)
      · refine pw_iload_n d252_126 rfl ?_
        exact pw_ireturn d252_127 tt252 ⟨rfl, xL2_4, rfl, (by omega), (by omega), (by rw [show pr_n (pv_aI h (ρ a0 1)) = (xL3_4).toNat from (show (pv_aI h (ρ a0 1) (1 : Int).toNat).toNat = _ by omega)]; exact i0_4)⟩
      · refine pw_iconst d252_12 ?_
        refine pw_istore d252_13 m252 rfl rfl ?_
        refine pw_iconst d252_15 ?_
        refine pw_istore d252_16 m252 rfl rfl ?_
        refine pw_iconst d252_18 ?_
        refine pw_istore d252_19 m252 rfl rfl ?_
        exact L21 _ (0) (0) (0) (by omega) (by omega) (by omega) (by omega) (by omega) (by omega) (by first | rfl | exact i3_94) (by first | rfl | (rw [pd_sum_S (by omega)]; omega)) (by omega) (by omega) (pv_mu _)
  have hw1 : 0 ≤ pv_aI h (ρ a0 1) (1 : Int).toNat := (hT.wc hR0_1 (j := 1) rfl (by decide)).2.2.1 (by decide) |>.1
  refine pw_iconst d252_0 ?_
  refine pw_istore_n d252_1 m252 rfl rfl ?_
  refine pw_iconst d252_2 ?_
  refine pw_istore_n d252_3 m252 rfl rfl ?_
  exact L4 _ (0) (0) _ _ _ (by omega) (by omega) (by omega) (by first | rfl | exact ly_l i0_21 i1_21 (by omega) (by omega) pz109_0 pz115 hz115 i0_4) (by first | exact hw1 | omega) (by omega) (pv_mu _)

abbrev Q245F (τ : Nat → Option Nat) (ρ : Nat → Nat → Nat) (h : pv_H) (a0 : Nat) : Option Value → pv_H → Prop := fun r h' => h = h' ∧ ∃ z : Int, r = some (.int (pv_I z)) ∧ 0 ≤ z ∧ z ≤ 1023 ∧ (∀ x : Nat, x < 10 → (pb z x = true ↔ ((x : Int) < pv_aI h (ρ a0 1) (0 : Int).toNat ∧ pv_aI h (ρ a0 1) (80 + 4 * x) ≠ -1)))
set_option maxHeartbeats 4000000 in
set_option maxRecDepth 20000 in
/-- AngleNetModel.toldPosts()I -/
theorem ct245F {τ : Nat → Option Nat} {ρ : Nat → Nat → Nat} {K : Nat → Nat} {h : pv_H} {a0 : Nat} (hT : pv_Ty τ ρ h) (hA0 : τ a0 = some 7) : pv_C K 245 [.ref a0] h (Q245F τ ρ h a0) := by
  refine pw_entry 2 ?_
  show pv_T K 245 0 (pv_fl [some (.ref a0), none, none]) [] h (Q245F τ ρ h a0)
  have hR0_1 : τ (ρ a0 1) = some 40 := hT.rf (t' := 40) hA0 rfl rfl
  have L4 : ∀ (nn : Nat) (xL1_4 xL2_4 : Int), (0 ≤ xL1_4 ∧ xL1_4 ≤ 1023) → (0 ≤ xL2_4 ∧ xL2_4 ≤ 10) → (∀ x : Nat, x < 10 → (pb xL1_4 x = true ↔ ((x : Int) < xL2_4 ∧ pv_aI h (ρ a0 1) (80 + 4 * x) ≠ -1))) → (xL2_4 ≤ pv_aI h (ρ a0 1) (0 : Int).toNat) → 10 - xL2_4 < nn → pv_T K 245 4 (pv_fl [some (.ref a0), some (.int (pv_I xL1_4)), some (.int (pv_I xL2_4))]) [] h (Q245F τ ρ h a0) := by
    intro nn
    induction nn with
    | zero => intro xL1_4 xL2_4 rL1_4 rL2_4 i0_4 i1_4 hm; exfalso; omega
    | succ nn ih4 =>
      intro xL1_4 xL2_4 rL1_4 rL2_4 i0_4 i1_4 hm4
      have J32 : ∀ (xS0_32 : Int) (o1_32 : Option Value), (0 ≤ xL2_4 ∧ xL2_4 ≤ 9) → (0 ≤ xS0_32 ∧ xS0_32 ≤ 540) → (0 ≤ xL1_4 ∧ xL1_4 ≤ 1023) → (∀ x : Nat, x < 10 → (pb xS0_32 x = true ↔ (x = (xL2_4).toNat ∧ pv_aI h (ρ a0 1) (80 + 4 * (xL2_4).toNat) ≠ -1))) → (xL1_4 = xL1_4) → (xL2_4 < pv_aI h (ρ a0 1) (0 : Int).toNat) → pv_T K 245 32 (pv_fl [some (.ref a0), o1_32, some (.int (pv_I xL2_4))]) [.int (pv_I xS0_32), .int (pv_I xL1_4)] h (Q245F τ ρ h a0) := by
        intro xS0_32 o1_32 rL2_32 rS0_32 rS1_32 i0_32 i1_32 i2_32
        refine pw_ior d245_32 (fun z32 hz32 ez32 => ?_)
        have bz32 := pv_or_b (n := 10) (m := 1024) (x := xL1_4) (y := xS0_32) (by omega) (by omega) (by omega) (by omega) (by decide) (by decide) hz32 ez32
        refine pw_istore_n d245_33 m245 rfl rfl ?_
        refine pw_iinc d245_34 m245 rfl rfl rfl ?_
        refine pw_goto d245_37 rfl ?_
        exact ih4 (z32) ((xL2_4 + 1)) (by omega) (by omega) (by first | exact tp_0 | exact tp_step (by omega) i0_4 i1_32 i0_32 ez32) (by first | exact hw1 | omega) (by omega)
      refine pw_iload_n d245_4 rfl ?_
      refine pw_aload_n d245_5 rfl ?_
      refine pw_getR d245_6 g245_9 hT hA0 rfl rfl (fun t6 => ?_)
      have t6 : τ (ρ a0 1) = some 40 := t6
      refine pw_iconst d245_9 ?_
      refine pw_ialdB d245_10 hT t6 rfl rfl (by omega) (by omega) (fun u10 => ?_)
      have u10 : pv_wok ((0 : Int)) (pv_aI h (ρ a0 1) ((0 : Int)).toNat) := u10
      have vu10 := u10.2.1 (by omega)
      refine pw_icmp_ge d245_11 rfl (by omega) (by omega) (fun c11 => ?_) (fun c11 => ?_)
      · refine pw_iload_n d245_40 rfl ?_
        exact pw_ireturn d245_41 tt245 ⟨rfl, xL1_4, rfl, (by omega), (by omega), (by intro x hx; rw [i0_4 x hx, show xL2_4 = pv_aI h (ρ a0 1) (0 : Int).toNat by omega])⟩
      · refine pw_iload_n d245_14 rfl ?_
        refine pw_aload_n d245_15 rfl ?_
        refine pw_iload_n d245_16 rfl ?_
        refine pw_iconst d245_17 ?_
        refine pw_callV2 d245_18 k245_232 hT hA0 rfl rfl rfl (ct215 (τ := τ) (ρ := ρ) hT hA0 (by omega) (by omega)) (fun r18 h18 q18 => ?_)
        obtain ⟨eh18, z18, ez18, lz18, uz18, pz18_0⟩ := q18
        subst eh18
        subst ez18
        refine pw_iconst d245_21 ?_
        refine pw_icmp_eq d245_22 rfl (by omega) (by omega) (fun c22 => ?_) (fun c22 => ?_)
        · refine pw_iconst d245_31 ?_
          exact J32 (0) _ (by omega) (by omega) (by omega) (by first | exact tp_b0 (by omega) pz18_0 (by omega) | exact tp_b1 (by omega) pz18_0 (by omega) hz27 ez27) (by first | rfl | omega) (by omega)
        · refine pw_iconst d245_25 ?_
          refine pw_iload_n d245_26 rfl ?_
          refine pw_ishl d245_27 (fun z27 hz27 ez27 => ?_)
          have bz27 := pv_shl1_b (n := 9) (m := 512) (y := xL2_4) (by omega) (by omega) (by decide) (by decide) hz27 ez27
          refine pw_goto d245_28 rfl ?_
          exact J32 (z27) _ (by omega) (by omega) (by omega) (by first | exact tp_b0 (by omega) pz18_0 (by omega) | exact tp_b1 (by omega) pz18_0 (by omega) hz27 ez27) (by first | rfl | omega) (by omega)
  have hw1 : 0 ≤ pv_aI h (ρ a0 1) (0 : Int).toNat := (hT.wc hR0_1 (j := 0) rfl (by decide)).2.1 (by decide) |>.1
  refine pw_iconst d245_0 ?_
  refine pw_istore_n d245_1 m245 rfl rfl ?_
  refine pw_iconst d245_2 ?_
  refine pw_istore_n d245_3 m245 rfl rfl ?_
  exact L4 _ (0) (0) (by omega) (by omega) (by first | exact tp_0 | exact tp_step (by omega) i0_4 i1_32 i0_32 ez32) (by first | exact hw1 | omega) (pv_mu _)

abbrev Q246F (τ : Nat → Option Nat) (ρ : Nat → Nat → Nat) (h : pv_H) (a0 : Nat) (x1 : Int) : Option Value → pv_H → Prop := fun r h' => h = h' ∧ ∃ z : Int, r = some (.int (pv_I z)) ∧ (-10) ≤ z ∧ z ≤ 99990 ∧ (z = ph_a (pr_N (pv_aI h (ρ a0 1))) (pl_a (pv_aI h (ρ a0 1))) (x1).toNat)
set_option maxHeartbeats 4000000 in
set_option maxRecDepth 20000 in
/-- AngleNetModel.anglesOf(I)I -/
theorem ct246F {τ : Nat → Option Nat} {ρ : Nat → Nat → Nat} {K : Nat → Nat} {h : pv_H} {a0 : Nat} {x1 : Int} (hT : pv_Ty τ ρ h) (hA0 : τ a0 = some 7) (hX1 : 0 ≤ x1 ∧ x1 ≤ 1023) : pv_C K 246 [.ref a0, .int (pv_I x1)] h (Q246F τ ρ h a0 x1) := by
  refine pw_entry 2 ?_
  show pv_T K 246 0 (pv_fl [some (.ref a0), some (.int (pv_I x1)), none, none]) [] h (Q246F τ ρ h a0 x1)
  have hR0_1 : τ (ρ a0 1) = some 40 := hT.rf (t' := 40) hA0 rfl rfl
  have L4 : ∀ (nn : Nat) (xL2_4 xL3_4 : Int), (0 ≤ x1 ∧ x1 ≤ 1023) → ((-10) ≤ xL2_4 ∧ xL2_4 ≤ 99990) → (0 ≤ xL3_4 ∧ xL3_4 ≤ 10) → (xL2_4 = pd_sum (xL3_4).toNat (fun p => if (x1).toNat.testBit p then pl_a (pv_aI h (ρ a0 1)) p else 0)) → (xL3_4 ≤ pv_aI h (ρ a0 1) (0 : Int).toNat) → (-1 * xL3_4 ≤ xL2_4 ∧ xL2_4 ≤ 9999 * xL3_4) → 10 - xL3_4 < nn → pv_T K 246 4 (pv_fl [some (.ref a0), some (.int (pv_I x1)), some (.int (pv_I xL2_4)), some (.int (pv_I xL3_4))]) [] h (Q246F τ ρ h a0 x1) := by
    intro nn
    induction nn with
    | zero => intro xL2_4 xL3_4 rL1_4 rL2_4 rL3_4 i0_4 i1_4 i2_4 hm; exfalso; omega
    | succ nn ih4 =>
      intro xL2_4 xL3_4 rL1_4 rL2_4 rL3_4 i0_4 i1_4 i2_4 hm4
      have J34 : ∀ (xS0_34 : Int) (o2_34 : Option Value), (0 ≤ x1 ∧ x1 ≤ 1023) → (0 ≤ xL3_4 ∧ xL3_4 ≤ 9) → ((-1) ≤ xS0_34 ∧ xS0_34 ≤ 9999) → ((-10) ≤ xL2_4 ∧ xL2_4 ≤ 99990) → (xS0_34 = if (x1).toNat.testBit (xL3_4).toNat then pl_a (pv_aI h (ρ a0 1)) (xL3_4).toNat else 0) → (-1 ≤ xS0_34 ∧ xS0_34 ≤ 9999) → (xL2_4 = xL2_4) → (xL3_4 < pv_aI h (ρ a0 1) (0 : Int).toNat) → pv_T K 246 34 (pv_fl [some (.ref a0), some (.int (pv_I x1)), o2_34, some (.int (pv_I xL3_4))]) [.int (pv_I xS0_34), .int (pv_I xL2_4)] h (Q246F τ ρ h a0 x1) := by
        intro xS0_34 o2_34 rL1_34 rL3_34 rS0_34 rS1_34 i0_34 i1_34 i2_34 i3_34
        refine pw_iadd d246_34 ?_
        refine pw_istore_n d246_35 m246 rfl rfl ?_
        refine pw_iinc d246_36 m246 rfl rfl rfl ?_
        refine pw_goto d246_39 rfl ?_
        exact ih4 ((xL2_4 + xS0_34)) ((xL3_4 + 1)) (by omega) (by omega) (by omega) (by first | rfl | (rw [pd_sum_S (by omega), ← i0_34]; omega)) (by first | exact hw1 | omega) (by omega) (by omega)
      refine pw_iload_n d246_4 rfl ?_
      refine pw_aload_n d246_5 rfl ?_
      refine pw_getR d246_6 g246_9 hT hA0 rfl rfl (fun t6 => ?_)
      have t6 : τ (ρ a0 1) = some 40 := t6
      refine pw_iconst d246_9 ?_
      refine pw_ialdB d246_10 hT t6 rfl rfl (by omega) (by omega) (fun u10 => ?_)
      have u10 : pv_wok ((0 : Int)) (pv_aI h (ρ a0 1) ((0 : Int)).toNat) := u10
      have vu10 := u10.2.1 (by omega)
      refine pw_icmp_ge d246_11 rfl (by omega) (by omega) (fun c11 => ?_) (fun c11 => ?_)
      · refine pw_iload_n d246_42 rfl ?_
        exact pw_ireturn d246_43 tt246 ⟨rfl, xL2_4, rfl, (by omega), (by omega), (by unfold ph_a; rw [show pr_N (pv_aI h (ρ a0 1)) = (xL3_4).toNat from (show (pv_aI h (ρ a0 1) (0 : Int).toNat).toNat = _ by omega)]; exact i0_4)⟩
      · refine pw_iload_n d246_14 rfl ?_
        refine pw_iload_n d246_15 rfl ?_
        refine pw_iload_n d246_16 rfl ?_
        refine pw_ishr d246_17 (fun z17 hz17 ez17 => ?_)
        refine pw_iconst d246_18 ?_
        refine pw_iand d246_19 (fun z19 hz19 ez19 => ?_)
        have bz19 := pv_and1_b hz19 ez19
        have tt20 := ag_bit (w := pv_aI h (ρ a0 1)) (x1 := x1) (p := xL3_4) (by omega) (by omega) hz19 ez17 ez19
        refine pw_iconst d246_20 ?_
        refine pw_icmp_ne d246_21 rfl (by omega) (by omega) (fun c21 => ?_) (fun c21 => ?_)
        · refine pw_iconst d246_33 ?_
          exact J34 (0) _ (by omega) (by omega) (by omega) (by omega) (by first | exact ag_1 (by omega) tt20 (by omega) pz27_0 | exact ag_0 tt20 (by omega)) (by omega) (by first | rfl | omega) (by omega)
        · refine pw_aload_n d246_24 rfl ?_
          refine pw_iload_n d246_25 rfl ?_
          refine pw_iconst d246_26 ?_
          refine pw_callV2 d246_27 k246_232 hT hA0 rfl rfl rfl (ct215 (τ := τ) (ρ := ρ) hT hA0 (by omega) (by omega)) (fun r27 h27 q27 => ?_)
          obtain ⟨eh27, z27, ez27, lz27, uz27, pz27_0⟩ := q27
          subst eh27
          subst ez27
          refine pw_goto d246_30 rfl ?_
          exact J34 (z27) _ (by omega) (by omega) (by omega) (by omega) (by first | exact ag_1 (by omega) tt20 (by omega) pz27_0 | exact ag_0 tt20 (by omega)) (by omega) (by first | rfl | omega) (by omega)
  have hw1 : 0 ≤ pv_aI h (ρ a0 1) (0 : Int).toNat := (hT.wc hR0_1 (j := 0) rfl (by decide)).2.1 (by decide) |>.1
  refine pw_iconst d246_0 ?_
  refine pw_istore_n d246_1 m246 rfl rfl ?_
  refine pw_iconst d246_2 ?_
  refine pw_istore_n d246_3 m246 rfl rfl ?_
  exact L4 _ (0) (0) (by omega) (by omega) (by omega) (by first | rfl | (rw [pd_sum_S (by omega), ← i0_34]; omega)) (by first | exact hw1 | omega) (by omega) (pv_mu _)

abbrev Q250F (τ : Nat → Option Nat) (ρ : Nat → Nat → Nat) (h : pv_H) (a0 : Nat) (x1 : Int) : Option Value → pv_H → Prop := fun r h' => h = h' ∧ ∃ z : Int, r = some (.int (pv_I z)) ∧ 0 ≤ z ∧ z ≤ 2 ∧ ((z = 0 ∧ pl_B (pv_aI h (ρ a0 1)) (pv_aI h (ρ a0 17)) (pv_aI h (ρ a0 16)) (x1).toNat) ∨ (z ≠ 0 ∧ ¬ pl_B (pv_aI h (ρ a0 1)) (pv_aI h (ρ a0 17)) (pv_aI h (ρ a0 16)) (x1).toNat))
set_option maxHeartbeats 4000000 in
set_option maxRecDepth 20000 in
/-- AngleNetModel.barsBy(I)I -/
theorem ct250F {τ : Nat → Option Nat} {ρ : Nat → Nat → Nat} {K : Nat → Nat} {h : pv_H} {a0 : Nat} {x1 : Int} (hT : pv_Ty τ ρ h) (hA0 : τ a0 = some 7) (hX1 : 0 ≤ x1 ∧ x1 ≤ 1023) (hP0 : pl_b (pv_aI h (ρ a0 1)) (pv_aI h (ρ a0 16)) (pv_aI h (ρ a0 17))) : pv_C K 250 [.ref a0, .int (pv_I x1)] h (Q250F τ ρ h a0 x1) := by
  refine pw_entry 1 ?_
  show pv_T K 250 0 (pv_fl [some (.ref a0), some (.int (pv_I x1)), none]) [] h (Q250F τ ρ h a0 x1)
  refine pw_aload_n d250_0 rfl ?_
  refine pw_iload_n d250_1 rfl ?_
  refine pw_callV1 d250_2 k250_304 hT hA0 rfl rfl rfl (ct246F (τ := τ) (ρ := ρ) hT hA0 (by omega)) (fun r2 h2 q2 => ?_)
  obtain ⟨eh2, z2, ez2, lz2, uz2, pz2_0⟩ := q2
  subst eh2
  subst ez2
  refine pw_istore_n d250_5 m250 rfl rfl ?_
  refine pw_iload_n d250_6 rfl ?_
  refine pw_aload_n d250_7 rfl ?_
  refine pw_iload_n d250_8 rfl ?_
  refine pw_callV1 d250_9 k250_307 hT hA0 rfl rfl rfl (ct251F (τ := τ) (ρ := ρ) hT hA0 (by omega) (by first | assumption | omega)) (fun r9 h9 q9 => ?_)
  obtain ⟨eh9, z9, ez9, lz9, uz9, pz9_0⟩ := q9
  subst eh9
  subst ez9
  refine pw_icmp_le d250_12 rfl (by omega) (by omega) (fun c12 => ?_) (fun c12 => ?_)
  · refine pw_iload_n d250_19 rfl ?_
    refine pw_aload_n d250_20 rfl ?_
    refine pw_iload_n d250_21 rfl ?_
    refine pw_callV1 d250_22 k250_310 hT hA0 rfl rfl rfl (ct252F (τ := τ) (ρ := ρ) hT hA0 (by omega) (by first | assumption | omega)) (fun r22 h22 q22 => ?_)
    obtain ⟨eh22, z22, ez22, lz22, uz22, pz22_0⟩ := q22
    subst eh22
    subst ez22
    refine pw_icmp_ge d250_25 rfl (by omega) (by omega) (fun c25 => ?_) (fun c25 => ?_)
    · refine pw_iconst d250_32 ?_
      exact pw_ireturn d250_33 tt250 ⟨rfl, 0, rfl, (by omega), (by omega), (by unfold pl_B; first | exact Or.inl ⟨rfl, by omega, by omega⟩ | exact Or.inr ⟨by omega, fun q => by have := q.1; have := q.2; omega⟩)⟩
    · refine pw_iconst d250_28 ?_
      refine pw_goto d250_29 rfl ?_
      exact pw_ireturn d250_33 tt250 ⟨rfl, 2, rfl, (by omega), (by omega), (by unfold pl_B; first | exact Or.inl ⟨rfl, by omega, by omega⟩ | exact Or.inr ⟨by omega, fun q => by have := q.1; have := q.2; omega⟩)⟩
  · refine pw_iconst d250_15 ?_
    refine pw_goto d250_16 rfl ?_
    exact pw_ireturn d250_33 tt250 ⟨rfl, 1, rfl, (by omega), (by omega), (by unfold pl_B; first | exact Or.inl ⟨rfl, by omega, by omega⟩ | exact Or.inr ⟨by omega, fun q => by have := q.1; have := q.2; omega⟩)⟩

abbrev Q249F (τ : Nat → Option Nat) (ρ : Nat → Nat → Nat) (h : pv_H) (a0 : Nat) : Option Value → pv_H → Prop := fun r h' => h = h' ∧ ∃ z : Int, r = some (.int (pv_I z)) ∧ 0 ≤ z ∧ z ≤ 1 ∧ (∃ T : Nat, pl_t (pv_aI h (ρ a0 1)) T ∧ ((z = 1 ∧ pl_ok (pv_aI h (ρ a0 1)) (pv_aI h (ρ a0 17)) (pv_aI h (ρ a0 16)) T) ∨ (z = 0 ∧ ¬ pl_ok (pv_aI h (ρ a0 1)) (pv_aI h (ρ a0 17)) (pv_aI h (ρ a0 16)) T)))
set_option maxHeartbeats 4000000 in
set_option maxRecDepth 20000 in
/-- AngleNetModel.canLay()Z -/
theorem ct249F {τ : Nat → Option Nat} {ρ : Nat → Nat → Nat} {K : Nat → Nat} {h : pv_H} {a0 : Nat} (hT : pv_Ty τ ρ h) (hA0 : τ a0 = some 7) (hP0 : pl_b (pv_aI h (ρ a0 1)) (pv_aI h (ρ a0 16)) (pv_aI h (ρ a0 17))) : pv_C K 249 [.ref a0] h (Q249F τ ρ h a0) := by
  refine pw_entry 2 ?_
  show pv_T K 249 0 (pv_fl [some (.ref a0), none, none]) [] h (Q249F τ ρ h a0)
  have hR0_1 : τ (ρ a0 1) = some 40 := hT.rf (t' := 40) hA0 rfl rfl
  have L7 : ∀ (nn : Nat) (xL1_7 xL2_7 : Int), (0 ≤ xL1_7 ∧ xL1_7 ≤ 1023) → (0 ≤ xL2_7 ∧ xL2_7 ≤ 1024) → (pl_t (pv_aI h (ρ a0 1)) (xL1_7).toNat) → (∀ X : Nat, (X : Int) < xL2_7 → (∀ p, X.testBit p = true → (xL1_7).toNat.testBit p = true) → pl_B (pv_aI h (ρ a0 1)) (pv_aI h (ρ a0 17)) (pv_aI h (ρ a0 16)) X) → 1024 - xL2_7 < nn → pv_T K 249 7 (pv_fl [some (.ref a0), some (.int (pv_I xL1_7)), some (.int (pv_I xL2_7))]) [] h (Q249F τ ρ h a0) := by
    intro nn
    induction nn with
    | zero => intro xL1_7 xL2_7 rL1_7 rL2_7 i0_7 i1_7 hm; exfalso; omega
    | succ nn ih7 =>
      intro xL1_7 xL2_7 rL1_7 rL2_7 i0_7 i1_7 hm7
      have J37 : ∀ (_ : Unit), (0 ≤ xL1_7 ∧ xL1_7 ≤ 1023) → (0 ≤ xL2_7 ∧ xL2_7 ≤ 1023) → (pl_t (pv_aI h (ρ a0 1)) (xL1_7).toNat) → (∀ X : Nat, (X : Int) < xL2_7 + 1 → (∀ p, X.testBit p = true → (xL1_7).toNat.testBit p = true) → pl_B (pv_aI h (ρ a0 1)) (pv_aI h (ρ a0 17)) (pv_aI h (ρ a0 16)) X) → (xL1_7 = xL1_7) → pv_T K 249 37 (pv_fl [some (.ref a0), some (.int (pv_I xL1_7)), some (.int (pv_I xL2_7))]) [] h (Q249F τ ρ h a0) := by
        intro _ rL1_37 rL2_37 i0_37 i1_37 i2_37
        refine pw_iinc d249_37 m249 rfl rfl rfl ?_
        refine pw_goto d249_40 rfl ?_
        exact ih7 (xL1_7) ((xL2_7 + 1)) (by omega) (by omega) (by first | exact pl_t.of (by omega) pz1_0 | assumption) (by first | (intro X hX; exfalso; omega) | assumption) (by omega)
      have hw7 := (hT.wc hR0_1 (j := 0) rfl (by decide)).2.1 (by decide)
      have hw7 : 0 ≤ pv_aI h (ρ a0 1) (0 : Int).toNat ∧ pv_aI h (ρ a0 1) (0 : Int).toNat ≤ 10 := hw7
      refine pw_iload_n d249_7 rfl ?_
      refine pw_iconst d249_8 ?_
      refine pw_aload_n d249_9 rfl ?_
      refine pw_getR d249_10 g249_9 hT hA0 rfl rfl (fun t10 => ?_)
      have t10 : τ (ρ a0 1) = some 40 := t10
      refine pw_iconst d249_13 ?_
      refine pw_ialdB d249_14 hT t10 rfl rfl (by omega) (by omega) (fun u14 => ?_)
      have u14 : pv_wok ((0 : Int)) (pv_aI h (ρ a0 1) ((0 : Int)).toNat) := u14
      have vu14 := u14.2.1 (by omega)
      refine pw_ishl d249_15 (fun z15 hz15 ez15 => ?_)
      have bz15 := pv_shl1_b (n := 10) (m := 1024) (y := (pv_aI h (ρ a0 1) ((0 : Int)).toNat)) (by omega) (by omega) (by decide) (by decide) hz15 ez15
      refine pw_icmp_ge d249_16 rfl (by omega) (by omega) (fun c16 => ?_) (fun c16 => ?_)
      · refine pw_iconst d249_43 ?_
        exact pw_zreturn d249_44 tt249 (by omega) ⟨rfl, 1, rfl, (by omega), (by omega), (by first | exact ⟨_, i0_7, Or.inl ⟨rfl, cl_yes i1_7 hz15 hw7 ez15 (by omega)⟩⟩ | exact ⟨_, i0_7, Or.inr ⟨rfl, cl_no (by omega) (by omega) ez22 ez23 hz23 (by omega) pz29_0 (by omega) hz15 hw7 ez15 (by omega)⟩⟩)⟩
      · refine pw_iload_n d249_19 rfl ?_
        refine pw_iload_n d249_20 rfl ?_
        refine pw_iconst d249_21 ?_
        refine pw_ixor d249_22 (fun z22 hz22 ez22 => ?_)
        refine pw_iand d249_23 (fun z23 hz23 ez23 => ?_)
        refine pw_if_ne d249_24 rfl (by omega) (fun c24 => ?_) (fun c24 => ?_)
        · exact J37 () (by omega) (by omega) (by assumption) (by first | exact cl_step i1_7 (by omega) (fun q => absurd q ((cl_sub (by omega) (by omega) ez22 ez23 hz23).2 (by omega))) | exact cl_step i1_7 (by omega) (fun _ => by rcases pz29_0 with q | q; exact q.2; (exfalso; omega))) (by first | rfl | omega)
        · refine pw_aload_n d249_27 rfl ?_
          refine pw_iload_n d249_28 rfl ?_
          refine pw_callV1 d249_29 k249_316 hT hA0 rfl rfl rfl (ct250F (τ := τ) (ρ := ρ) hT hA0 (by omega) (by first | assumption | omega)) (fun r29 h29 q29 => ?_)
          obtain ⟨eh29, z29, ez29, lz29, uz29, pz29_0⟩ := q29
          subst eh29
          subst ez29
          refine pw_if_eq d249_32 rfl (by omega) (fun c32 => ?_) (fun c32 => ?_)
          · exact J37 () (by omega) (by omega) (by assumption) (by first | exact cl_step i1_7 (by omega) (fun q => absurd q ((cl_sub (by omega) (by omega) ez22 ez23 hz23).2 (by omega))) | exact cl_step i1_7 (by omega) (fun _ => by rcases pz29_0 with q | q; exact q.2; (exfalso; omega))) (by first | rfl | omega)
          · refine pw_iconst d249_35 ?_
            exact pw_zreturn d249_36 tt249 (by omega) ⟨rfl, 0, rfl, (by omega), (by omega), (by first | exact ⟨_, i0_7, Or.inl ⟨rfl, cl_yes i1_7 hz15 hw7 ez15 (by omega)⟩⟩ | exact ⟨_, i0_7, Or.inr ⟨rfl, cl_no (by omega) (by omega) ez22 ez23 hz23 (by omega) pz29_0 (by omega) hz15 hw7 ez15 (by omega)⟩⟩)⟩
  refine pw_aload_n d249_0 rfl ?_
  refine pw_callV0 d249_1 k249_313 hT hA0 rfl rfl rfl (ct245F (τ := τ) (ρ := ρ) hT hA0) (fun r1 h1 q1 => ?_)
  obtain ⟨eh1, z1, ez1, lz1, uz1, pz1_0⟩ := q1
  subst eh1
  subst ez1
  refine pw_istore_n d249_4 m249 rfl rfl ?_
  refine pw_iconst d249_5 ?_
  refine pw_istore_n d249_6 m249 rfl rfl ?_
  exact L7 _ (z1) (0) (by omega) (by omega) (by first | exact pl_t.of (by omega) pz1_0 | assumption) (by first | (intro X hX; exfalso; omega) | assumption) (pv_mu _)

abbrev Q248F (τ : Nat → Option Nat) (ρ : Nat → Nat → Nat) (h : pv_H) (a0 : Nat) : Option Value → pv_H → Prop := fun r h' => pv_Ty τ ρ h' ∧ pv_Fr τ [3071, 3135] h h' ∧ r = none ∧ (∀ c : Nat, (c : Int) < 3 * pv_aI h (ρ a0 1) (1 : Int).toNat → pv_aI h' (ρ a0 16) c = pv_aI h (ρ a0 1) (3 : Int).toNat ∧ pv_aI h' (ρ a0 17) c = pv_aI h (ρ a0 1) (4 : Int).toNat)
set_option maxHeartbeats 4000000 in
set_option maxRecDepth 20000 in
/-- AngleNetModel.fillBounds()V -/
theorem ct248F {τ : Nat → Option Nat} {ρ : Nat → Nat → Nat} {K : Nat → Nat} {h : pv_H} {a0 : Nat} (hT : pv_Ty τ ρ h) (hA0 : τ a0 = some 7) : pv_C K 248 [.ref a0] h (Q248F τ ρ h a0) := by
  refine pw_entry 1 ?_
  show pv_T K 248 0 (pv_fl [some (.ref a0), none]) [] h (Q248F τ ρ h a0)
  have hR0_1 : τ (ρ a0 1) = some 40 := hT.rf (t' := 40) hA0 rfl rfl
  have hR0_16 : τ (ρ a0 16) = some 47 := hT.rf (t' := 47) hA0 rfl rfl
  have hR0_17 : τ (ρ a0 17) = some 48 := hT.rf (t' := 48) hA0 rfl rfl
  have hF0 : pv_Fr τ [3071, 3135] h h := pv_Fr.rf
  have L2 : ∀ (nn : Nat) (h_2 : pv_H) (xL1_2 : Int), (pv_Ty τ ρ h_2) → (pv_Fr τ [3071, 3135] h h_2) → (0 ≤ xL1_2 ∧ xL1_2 ≤ 54) → (∀ c : Nat, (c : Int) < xL1_2 → pv_aI h_2 (ρ a0 16) c = pv_aI h (ρ a0 1) (3 : Int).toNat ∧ pv_aI h_2 (ρ a0 17) c = pv_aI h (ρ a0 1) (4 : Int).toNat) → 54 - xL1_2 < nn → pv_T K 248 2 (pv_fl [some (.ref a0), some (.int (pv_I xL1_2))]) [] h_2 (Q248F τ ρ h a0) := by
    intro nn
    induction nn with
    | zero => intro h_2 xL1_2 hT_2 hF_2 rL1_2 i0_2 hm; exfalso; omega
    | succ nn ih2 =>
      intro h_2 xL1_2 hT_2 hF_2 rL1_2 i0_2 hm2
      have ew2 : pv_aI h_2 (ρ a0 1) = pv_aI h (ρ a0 1) := hF_2.aeq hR0_1 (by decide)
      refine pw_iload_n d248_2 rfl ?_
      refine pw_iconst d248_3 ?_
      refine pw_aload_n d248_4 rfl ?_
      refine pw_callV0 d248_5 k248_216 hT_2 hA0 rfl rfl rfl (ct216 (τ := τ) (ρ := ρ) hT_2 hA0) (fun r5 h5 q5 => ?_)
      obtain ⟨eh5, z5, ez5, lz5, uz5, pz5_0⟩ := q5
      subst eh5
      subst ez5
      refine pw_imul d248_8 ?_
      refine pw_icmp_ge d248_9 rfl (by omega) (by omega) (fun c9 => ?_) (fun c9 => ?_)
      · exact pw_return d248_42 tt248 ⟨hT_2, hF_2, rfl, (by intro c hc; exact i0_2 c (by have := congrFun ew2 (1 : Int).toNat; omega))⟩
      · refine pw_aload_n d248_12 rfl ?_
        refine pw_getR d248_13 g248_37 hT_2 hA0 rfl rfl (fun t13 => ?_)
        have t13 : τ (ρ a0 16) = some 47 := t13
        refine pw_iload_n d248_16 rfl ?_
        refine pw_aload_n d248_17 rfl ?_
        refine pw_getR d248_18 g248_9 hT_2 hA0 rfl rfl (fun t18 => ?_)
        have t18 : τ (ρ a0 1) = some 40 := t18
        refine pw_iconst d248_21 ?_
        refine pw_ialdB d248_22 hT_2 t18 rfl rfl (by omega) (by omega) (fun u22 => ?_)
        have u22 : pv_wok ((3 : Int)) (pv_aI h_2 (ρ a0 1) ((3 : Int)).toNat) := u22
        have vu22 := u22.2.2.2.1 (by omega)
        refine pw_iast d248_23 hT_2 t13 rfl rfl rfl (by omega) (by omega) (by omega) (by omega) (fun h23 T23 F23 E23 => ?_)
        have f23 := hF_2.tr (F23.up (by decide))
        refine pw_aload_n d248_24 rfl ?_
        refine pw_getR d248_25 g248_40 T23 hA0 rfl rfl (fun t25 => ?_)
        have t25 : τ (ρ a0 17) = some 48 := t25
        refine pw_iload_n d248_28 rfl ?_
        refine pw_aload_n d248_29 rfl ?_
        refine pw_getR d248_30 g248_9 T23 hA0 rfl rfl (fun t30 => ?_)
        have t30 : τ (ρ a0 1) = some 40 := t30
        refine pw_iconst d248_33 ?_
        refine pw_ialdB d248_34 T23 t30 rfl rfl (by omega) (by omega) (fun u34 => ?_)
        have u34 : pv_wok ((4 : Int)) (pv_aI h23 (ρ a0 1) ((4 : Int)).toNat) := u34
        have vu34 := u34.2.2.2.2.1 (by omega)
        refine pw_iast d248_35 T23 t25 rfl rfl rfl (by omega) (by omega) (by omega) (by omega) (fun h35 T35 F35 E35 => ?_)
        have f35 := f23.tr (F35.up (by decide))
        refine pw_iinc d248_36 m248 rfl rfl rfl ?_
        refine pw_goto d248_39 rfl ?_
        exact ih2 h35 ((xL1_2 + 1)) T35 f35 (by omega) (by first | (intro c hc; exfalso; omega) | exact fb_step (a := pv_aI h_2 (ρ a0 1) (3 : Int).toNat) (b := pv_aI h23 (ρ a0 1) (4 : Int).toNat) i0_2 (by omega) (by rw [ew2]) (by rw [F23.aeq hR0_1 (by decide), ew2]) (by rw [F35.aeq hR0_16 (by decide)]; exact pe_at E23) (by rw [← F23.aeq hR0_17 (by decide)]; exact pe_at E35)) (by omega)
  refine pw_iconst d248_0 ?_
  refine pw_istore_n d248_1 m248 rfl rfl ?_
  exact L2 _ h (0) hT hF0 (by omega) (by first | (intro c hc; exfalso; omega) | exact fb_step (a := pv_aI h_2 (ρ a0 1) (3 : Int).toNat) (b := pv_aI h23 (ρ a0 1) (4 : Int).toNat) i0_2 (by omega) (by rw [ew2]) (by rw [F23.aeq hR0_1 (by decide), ew2]) (by rw [F35.aeq hR0_16 (by decide)]; exact pe_at E23) (by rw [← F23.aeq hR0_17 (by decide)]; exact pe_at E35)) (pv_mu _)
